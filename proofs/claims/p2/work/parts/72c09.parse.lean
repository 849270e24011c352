set_option maxHeartbeats 4000000 in
set_option maxRecDepth 100000 in
theorem r_X0_closeParts (l : Launch) (dC : Nat → ClassId) (dI : Nat → Nat → Nat) (L : List Nat) (kd : Nat → Nat) (tys : List (ClassId × FieldType)) (f0 : Nat → va_E) (sz : Nat) (hWT : WT L kd tys f0) (a0_ : Nat) (ma0_ : a0_ ∈ L) (ka0_ : kd a0_ = 0) (x1_ : Int32) (q0_ : Nat) (mq0_ : q0_ ∈ L) (kq0_ : kd q0_ = 8) (q1_ : Nat) (mq1_ : q1_ ∈ L) (kq1_ : kd q1_ = 7) (y0_ : Int32) (by0_ : bd 0 0 y0_) (hfx : Fs L kd f0 [(0, 0, a0_, .ref q0_), (0, 2, a0_, .ref q1_), (8, 8, q0_, .int y0_)]) : Met l yX0_closeParts (.code yX0_closeParts cX0_closeParts 7 none :: lw_g) ({ frames := 1, cells := 0, slots := 0, locals := 23 }) (va_Pc [.ref a0_, .int x1_] (P3 (dC, dI) L tys f0 sz)) (va_Qv (fun (f : Nat → va_E) => (Fs L kd f [(8, 8, q0_, .int y0_)]) ∨ (∃ z1_ : Int32, bd 1 7 z1_ ∧ ∃ z3_ : Int32, bd 1 300 z3_ ∧ ∃ z4_ : Int32, bd 1 2000 z4_ ∧ ∃ z5_ : Int32, bd 0 299 z5_ ∧ Fs L kd f [(8, 6, q0_, .int 1201), (8, 8, q0_, .int z1_), (0, 12, a0_, .int 0), (0, 10, a0_, .int z3_), (7, 6, q1_, .int z4_), (0, 8, a0_, .int z5_)])) (Q3 (dC, dI) L kd tys [(0, 8), (0, 10), (0, 11), (0, 12), (7, 6), (8, 6), (8, 8), (8, 9)] [115, 138, 139] f0 sz) (pA L sz)) 0 0 (pA L sz) := by
  refine Met.ofW (cc := cX0_closeParts) (maxL := 7) (ret := none) (by decide) rfl ?_
  intro p e s m args below meth c s₁ B hml hv
  obtain ⟨rfl, hsz, hP, hK, hD0⟩ := hv
  have hx := B.exec
  have hb := B.bytes
  have hr := B.returns
  have hts := atoms_spec (ws := (.code yX0_closeParts cX0_closeParts 7 none :: lw_g)) B.pre
  have hown : s.vm.findClass RX0 = some m.cls := findClass_of_methodNamed B.named
  have hlocks := B.notSynchronized
  subst hsz
  have g : G3 (dC, dI) L kd tys s f0 [(0, 8), (0, 10), (0, 11), (0, 12), (7, 6), (8, 6), (8, 8), (8, 9)] [115, 138, 139] f0 s.heap [] [(0, 0, a0_, .ref q0_), (0, 2, a0_, .ref q1_), (8, 8, q0_, .int y0_)] := G3.start hP hD0 hWT hfx
  have hl := lv_entry ([.ref a0_, .int x1_]) (n := 7) (Nat.le_of_ble_eq_true rfl)
  rw [lg_entry_eq]
  generalize (lg_sl ([.ref a0_, .int x1_]) ++ List.replicate (7 - (lg_sl ([.ref a0_, .int x1_])).length) Slot.unset).toArray = ls at hl ⊢
  have hl : lv_has ls 7 [(0, .ref a0_), (1, .int x1_)] := hl
  refine W_q (fun Q hQ => ?_)
  refine lv_iconst (v := 1) hx hb dX0_closeParts_0 (by decide) ?_
  refine lv_istore_n (lv' := [(2, .int 1), (0, .ref a0_), (1, .int x1_)]) hx hb dX0_closeParts_1 rfl hl (by decide) rfl (fun ls hl => ?_)
  refine lv_iconst (v := 0) hx hb dX0_closeParts_2 (by decide) ?_
  refine lv_istore_n (lv' := [(3, .int 0), (2, .int 1), (0, .ref a0_), (1, .int x1_)]) hx hb dX0_closeParts_3 rfl hl (by decide) rfl (fun ls hl => ?_)
  have loop_1 : ∀ (n : Nat) (v4_3 : Int32) (v4_2 : Int32), bd 0 300 v4_3 → bd 0 1 v4_2 → (300 - v4_3.toInt < (n : Int)) → ∀ (f : Nat → va_E) (H : Heap) (locs : List Loc) (ls : Array Slot), G3 (dC, dI) L kd tys s f0 [(0, 8), (0, 10), (0, 11), (0, 12), (7, 6), (8, 6), (8, 8), (8, 9)] [115, 138, 139] f H locs [(0, 0, a0_, .ref q0_), (0, 2, a0_, .ref q1_), (8, 8, q0_, .int y0_)] → lv_has ls 7 [(3, .int v4_3), (2, .int v4_2), (0, .ref a0_), (1, .int x1_)] → W p l e ({ frames := 1, cells := 0, slots := 0, locals := 23 } : Room) s m [.ref a0_, .int x1_].toArray below meth c H locs 0 0 Q (F0 m 4 ls []) := by
    intro n4
    induction n4 with
    | zero =>
      intro v4_3 v4_2 bv4_3 bv4_2 hm4 f H locs ls g  hl
      exact absurd hm4 (by have h9_v4_3 := bv4_3; unfold bd at h9_v4_3; have h9_v4_2 := bv4_2; unfold bd at h9_v4_2; omega)
    | succ n4 ih4 =>
      intro v4_3 v4_2 bv4_3 bv4_2 hm4 f H locs ls g  hl
      refine lv_iload_n hx hb dX0_closeParts_4 rfl (lv_at hl 0 rfl) ?_
      refine lv_sipush (v := 300) hx hb dX0_closeParts_5 (by decide) ?_
      have kb_300 : bd 300 300 (300 : Int32) := ⟨by decide, by decide⟩
      refine lv_icmp_ge (tgt := 251) hx hb dX0_closeParts_8 (by decide) (fun c_2 => ?_) (fun c_2 => ?_)
      · have fc_2 := le_f c_2
        have b_3 : bd 300 300 v4_3 := leR fc_2 kb_300 bv4_3 (by decide)
        subst hQ
        exact W.vret hx hb hr (fun t ht hW => ⟨⟨_, rfl, Or.inl (g.fcts [2] rfl), q3_of g hK ht hW⟩, g.2.2.1.F ht⟩) g.2.2.1.2.2 dX0_closeParts_251
      · have fc_2 := nle_f c_2
        have b_4 : bd 0 299 v4_3 := ltL fc_2 bv4_3 kb_300 (by decide)
        refine lv_iload_n hx hb dX0_closeParts_11 rfl (lv_at hl 1 rfl) ?_
        have kb_0 : bd 0 0 (0 : Int32) := ⟨by decide, by decide⟩
        refine lv_if_eq (tgt := 251) hx hb dX0_closeParts_12 (by decide) (fun c_5 => ?_) (fun c_5 => ?_)
        · have fc_5 := eq_f c_5
          have b_6 : bd 0 0 v4_2 := eqX fc_5 bv4_2 kb_0 (by decide)
          subst hQ
          exact W.vret hx hb hr (fun t ht hW => ⟨⟨_, rfl, Or.inl (g.fcts [2] rfl), q3_of g hK ht hW⟩, g.2.2.1.F ht⟩) g.2.2.1.2.2 dX0_closeParts_251
        · have fc_5 := neq_f c_5
          have b_7 : bd 1 1 v4_2 := neX fc_5 bv4_2 kb_0 (by decide)
          refine lv_aload_n hx hb dX0_closeParts_15 rfl (lv_at hl 2 rfl) ?_
          refine g_geti (C := RX0) (T := TX0) (N := 14) hx hb hts (mc_ inX0) hown hK g ma0_ ka0_ (by decide) rfl 8 (by decide) rfl (hts _ (List.mem_cons_of_mem _ t_381)) (fun _ h9 => h9) rfl dX0_closeParts_16 (fun x_8 bx_8 g => ?_)
          refine lv_if_le (tgt := 251) hx hb dX0_closeParts_19 (by decide) (fun c_9 => ?_) (fun c_9 => ?_)
          · have fc_9 := le_f c_9
            have b_10 : bd 0 0 x_8 := leL fc_9 bx_8 kb_0 (by decide)
            subst hQ
            exact W.vret hx hb hr (fun t ht hW => ⟨⟨_, rfl, Or.inl (g.fcts [3] rfl), q3_of g hK ht hW⟩, g.2.2.1.F ht⟩) g.2.2.1.2.2 dX0_closeParts_251
          · have fc_9 := nle_f c_9
            have b_11 : bd 1 300 x_8 := ltR fc_9 kb_0 bx_8 (by decide)
            have join_12 : ∀ (j76_2 : Int32) (j76_5 : Int32) (j76_4 : Int32) (g76_0_3_a0_ : Nat) (f : Nat → va_E) (H : Heap) (locs : List Loc) (ls : Array Slot), bd 0 1 j76_2 → bd 0 1 j76_5 → g76_0_3_a0_ ∈ L → kd g76_0_3_a0_ = 110 → G3 (dC, dI) L kd tys s f0 [(0, 8), (0, 10), (0, 11), (0, 12), (7, 6), (8, 6), (8, 8), (8, 9)] [115, 138, 139] f H locs [(0, 3, a0_, .ref g76_0_3_a0_), (0, 8, a0_, .int x_8), (0, 0, a0_, .ref q0_), (0, 2, a0_, .ref q1_), (8, 8, q0_, .int y0_)] → lv_has ls 7 [(2, .int j76_2), (5, .int j76_5), (4, .int j76_4), (3, .int v4_3), (0, .ref a0_), (1, .int x1_)] → W p l e ({ frames := 1, cells := 0, slots := 0, locals := 23 } : Room) s m [.ref a0_, .int x1_].toArray below meth c H locs 0 0 Q (F0 m 76 ls []) := by
              intro j76_2 j76_5 j76_4 g76_0_3_a0_ f H locs ls bj76_2 bj76_5  mg76_0_3_a0_ kg76_0_3_a0_ g  hl
              refine lv_iload_n hx hb dX0_closeParts_76 rfl (lv_at hl 0 rfl) ?_
              refine lv_if_eq (tgt := 245) hx hb dX0_closeParts_77 (by decide) (fun c_13 => ?_) (fun c_13 => ?_)
              · have fc_13 := eq_f c_13
                have b_14 : bd 0 0 j76_2 := eqX fc_13 bj76_2 kb_0 (by decide)
                have kb_1 : bd 1 1 (1 : Int32) := ⟨by decide, by decide⟩
                obtain ⟨y_15, ey_15⟩ : ∃ z : Int32, z = v4_3 + 1 := ⟨_, rfl⟩
                refine lv_iinc (v := y_15) (lv' := [(3, .int y_15), (2, .int j76_2), (5, .int j76_5), (4, .int j76_4), (0, .ref a0_), (1, .int x1_)]) hx hb dX0_closeParts_245 hl (k := 3) rfl (by rw [ey_15]; rfl) (by decide) rfl (fun ls hl => ?_)
                have ty_15 := add_bd ey_15 b_4 kb_1 (by decide)
                have b_16 : bd 1 300 y_15 := add_rg ty_15 b_4 kb_1 (by decide)
                refine lv_goto (tgt := 4) hx hb dX0_closeParts_248 (by decide) ?_
                have hl9 := lv_sub hl [0, 1, 4, 5] (by rfl : lv_pick [(3, .int y_15), (2, .int j76_2), (5, .int j76_5), (4, .int j76_4), (0, .ref a0_), (1, .int x1_)] [0, 1, 4, 5] = [(3, .int y_15), (2, .int j76_2), (0, .ref a0_), (1, .int x1_)])
                have g9 := g.sub (fx' := [(0, 0, a0_, .ref q0_), (0, 2, a0_, .ref q1_), (8, 8, q0_, .int y0_)]) [2, 3, 4] rfl
                exact ih4  y_15 j76_2 (bd_sub b_16 (by decide)) (bd_sub b_14 (by decide)) (by have h9_0 := b_14; unfold bd at h9_0; have h9_1 := b_16; unfold bd at h9_1; have h9_2 := bv4_2; unfold bd at h9_2; have h9_3 := bv4_3; unfold bd at h9_3; have h9_4 := kb_0; unfold bd at h9_4; have h9_5 := kb_1; unfold bd at h9_5; have h9_6 := kb_300; unfold bd at h9_6; omega) _ _ _ _ g9  hl9
              · have fc_13 := neq_f c_13
                have b_17 : bd 1 1 j76_2 := neX fc_13 bj76_2 kb_0 (by decide)
                have join_18 : ∀ (j191_6 : Int32) (g191_7_6_q1_ : Int32) (g191_0_10_a0_ : Int32) (g191_0_8_a0_ : Int32) (f : Nat → va_E) (H : Heap) (locs : List Loc) (ls : Array Slot), bd 1 2000 g191_7_6_q1_ → bd 0 299 g191_0_10_a0_ → bd 0 299 g191_0_8_a0_ → G3 (dC, dI) L kd tys s f0 [(0, 8), (0, 10), (0, 11), (0, 12), (7, 6), (8, 6), (8, 8), (8, 9)] [115, 138, 139] f H locs [(7, 6, q1_, .int g191_7_6_q1_), (0, 10, a0_, .int g191_0_10_a0_), (0, 8, a0_, .int g191_0_8_a0_), (0, 3, a0_, .ref g76_0_3_a0_), (0, 0, a0_, .ref q0_), (0, 2, a0_, .ref q1_), (8, 8, q0_, .int y0_)] → lv_has ls 7 [(6, .int j191_6), (2, .int j76_2), (5, .int j76_5), (4, .int j76_4), (3, .int v4_3), (0, .ref a0_), (1, .int x1_)] → W p l e ({ frames := 1, cells := 0, slots := 0, locals := 23 } : Room) s m [.ref a0_, .int x1_].toArray below meth c H locs 0 0 Q (F0 m 191 ls []) := by
                  intro j191_6 g191_7_6_q1_ g191_0_10_a0_ g191_0_8_a0_ f H locs ls  bg191_7_6_q1_ bg191_0_10_a0_ bg191_0_8_a0_ g  hl
                  refine lv_iconst (v := 1) hx hb dX0_closeParts_191 (by decide) ?_
                  refine lv_iload hx hb dX0_closeParts_192 (lv_at hl 2 rfl) ?_
                  refine lv_if_eq (tgt := 202) hx hb dX0_closeParts_194 (by decide) (fun c_19 => ?_) (fun c_19 => ?_)
                  · have fc_19 := eq_f c_19
                    have b_20 : bd 0 0 j76_5 := eqX fc_19 bj76_5 kb_0 (by decide)
                    refine lv_iload hx hb dX0_closeParts_202 (lv_at hl 0 rfl) ?_
                    refine lv_aload_n hx hb dX0_closeParts_204 rfl (lv_at hl 5 rfl) ?_
                    refine g_calli (va_runV (As := []) (rest := [.int j191_6, .int 1]) ⟨hx, hb, hml, hown, hts⟩ (r_X0_takeHeight l dC dI L kd tys f H.size g.2.2.2.1 a0_ ma0_ ka0_) (cwV 0 hts (gV_ t_1199 t_1201 t_16 t_190 t_1202) rfl rfl rfl (by decide +kernel) ⟨(Nat.le_of_ble_eq_true rfl), (Nat.le_of_ble_eq_true rfl)⟩) (pre3V g hK ma0_ ka0_ (by decide) (q := (RX0, TX0, 14)) rfl) rfl rfl hl.1 rfl (lv_room (Nat.le_of_ble_eq_true rfl)) dX0_closeParts_205 ⟨(Nat.le_of_ble_eq_true rfl), (Nat.le_of_ble_eq_true rfl)⟩) g hK (by decide) (by decide) (fx' := [(7, 6, q1_, .int g191_7_6_q1_), (0, 8, a0_, .int g191_0_8_a0_), (0, 3, a0_, .ref g76_0_3_a0_), (0, 0, a0_, .ref q0_), (0, 2, a0_, .ref q1_), (8, 8, q0_, .int y0_)]) rfl (fun r_21 fr_21 H locs hp hMr_21 g => ?_)
                    obtain ⟨x_22, h_23, hF_24⟩ := hp
                    have g := g.more hF_24
                    refine va_mmax hx hb (hml.trans hl.1.symm) hown (hts _ (List.mem_cons_of_mem _ t_1194)) (hts _ (List.mem_cons_of_mem _ t_1041)) (hts _ (List.mem_cons_of_mem _ t_204)) (hts _ (List.mem_cons_of_mem _ t_1042)) (Nat.le_of_ble_eq_true rfl) (Nat.le_of_ble_eq_true rfl) (Nat.le_of_ble_eq_true rfl) (Nat.le_of_ble_eq_true rfl) dX0_closeParts_208 ?_
                    refine lv_topi (fun y_25 ey_25 => ?_)
                    have ty_25 : y_25.toInt = max j191_6.toInt r_21.toInt := by rw [ey_25]; exact mmax_ok _ _
                    have b_26 : bd (-2147483648) 2147483647 y_25 := max_rg ty_25 (bdT j191_6) (bdT r_21) (by decide)
                    have kb_1 : bd 1 1 (1 : Int32) := ⟨by decide, by decide⟩
                    refine lv_iadd hx hb dX0_closeParts_211 ?_
                    refine lv_topi (fun y_27 ey_27 => ?_)
                    refine lv_istore (lv' := [(6, .int y_27), (2, .int j76_2), (5, .int j76_5), (4, .int j76_4), (3, .int v4_3), (0, .ref a0_), (1, .int x1_)]) hx hb dX0_closeParts_212 hl (by decide) rfl (fun ls hl => ?_)
                    refine lv_aload_n hx hb dX0_closeParts_214 rfl (lv_at hl 5 rfl) ?_
                    refine lv_iload hx hb dX0_closeParts_215 (lv_at hl 0 rfl) ?_
                    refine g_callv (va_runV (As := [.int y_27]) (rest := []) ⟨hx, hb, hml, hown, hts⟩ (r_X0_addWhole l dC dI L kd tys fr_21 H.size g.2.2.2.1 a0_ ma0_ ka0_ y_27) (cwV 1 hts (gV_ t_1211 t_1213 t_17 t_190 t_1214) rfl rfl rfl (by decide +kernel) ⟨(Nat.le_of_ble_eq_true rfl), (Nat.le_of_ble_eq_true rfl)⟩) (pre3V g hK ma0_ ka0_ (by decide) (q := (RX0, TX0, 14)) rfl) rfl rfl hl.1 rfl (lv_room (Nat.le_of_ble_eq_true rfl)) dX0_closeParts_217 ⟨(Nat.le_of_ble_eq_true rfl), (Nat.le_of_ble_eq_true rfl)⟩) g hK (by decide) (by decide) (fx' := [(7, 6, q1_, .int g191_7_6_q1_), (0, 8, a0_, .int g191_0_8_a0_), (0, 3, a0_, .ref g76_0_3_a0_), (0, 0, a0_, .ref q0_), (0, 2, a0_, .ref q1_), (8, 8, q0_, .int y0_)]) rfl (fun fr_28 H locs hp hMr_28 g => ?_)
                    obtain ⟨x_29, h_30, hF_31⟩ := hp
                    have g := g.more hF_31
                    refine lv_iload hx hb dX0_closeParts_220 (lv_at hl 0 rfl) ?_
                    refine lv_bipush (v := 12) hx hb dX0_closeParts_222 (by decide) ?_
                    have kb_12 : bd 12 12 (12 : Int32) := ⟨by decide, by decide⟩
                    refine lv_icmp_le (tgt := 245) hx hb dX0_closeParts_224 (by decide) (fun c_32 => ?_) (fun c_32 => ?_)
                    · have fc_32 := le_f c_32
                      have b_33 : bd (-2147483648) 12 y_27 := leL fc_32 (bdT y_27) kb_12 (by decide)
                      obtain ⟨y_34, ey_34⟩ : ∃ z : Int32, z = v4_3 + 1 := ⟨_, rfl⟩
                      refine lv_iinc (v := y_34) (lv' := [(3, .int y_34), (6, .int y_27), (2, .int j76_2), (5, .int j76_5), (4, .int j76_4), (0, .ref a0_), (1, .int x1_)]) hx hb dX0_closeParts_245 hl (k := 4) rfl (by rw [ey_34]; rfl) (by decide) rfl (fun ls hl => ?_)
                      have ty_34 := add_bd ey_34 b_4 kb_1 (by decide)
                      have b_35 : bd 1 300 y_34 := add_rg ty_34 b_4 kb_1 (by decide)
                      refine lv_goto (tgt := 4) hx hb dX0_closeParts_248 (by decide) ?_
                      have hl9 := lv_sub hl [0, 2, 5, 6] (by rfl : lv_pick [(3, .int y_34), (6, .int y_27), (2, .int j76_2), (5, .int j76_5), (4, .int j76_4), (0, .ref a0_), (1, .int x1_)] [0, 2, 5, 6] = [(3, .int y_34), (2, .int j76_2), (0, .ref a0_), (1, .int x1_)])
                      have g9 := g.sub (fx' := [(0, 0, a0_, .ref q0_), (0, 2, a0_, .ref q1_), (8, 8, q0_, .int y0_)]) [5, 6, 7] rfl
                      exact ih4  y_34 j76_2 (bd_sub b_35 (by decide)) (bd_sub b_17 (by decide)) (by have h9_0 := b_17; unfold bd at h9_0; have h9_1 := b_35; unfold bd at h9_1; have h9_2 := bv4_2; unfold bd at h9_2; have h9_3 := bv4_3; unfold bd at h9_3; have h9_4 := kb_0; unfold bd at h9_4; have h9_5 := kb_1; unfold bd at h9_5; have h9_6 := kb_12; unfold bd at h9_6; have h9_7 := kb_300; unfold bd at h9_7; omega) _ _ _ _ g9  hl9
                    · have fc_32 := nle_f c_32
                      have b_36 : bd 13 2147483647 y_27 := ltR fc_32 kb_12 (bdT y_27) (by decide)
                      refine lv_aload_n hx hb dX0_closeParts_227 rfl (lv_at hl 5 rfl) ?_
                      refine g_getk (C := RX0) (T := TX0) (N := 14) hx hb hts (mc_ inX0) hown hK g rfl 0 (by decide) rfl (hts _ (List.mem_cons_of_mem _ t_373)) (fun _ h9 => h9) 5 rfl dX0_closeParts_228 ?_
                      refine lv_bipush (v := 7) hx hb dX0_closeParts_231 (by decide) ?_
                      refine lv_aload_n hx hb dX0_closeParts_233 rfl (lv_at hl 5 rfl) ?_
                      refine g_getr (K := 111) (C := RX0) (T := TX0) (N := 14) hx hb hts (mc_ inX0) hown hK g ma0_ ka0_ (by decide) rfl 4 (by decide) rfl (hts _ (List.mem_cons_of_mem _ t_377)) (fun _ h9 => h9) rfl dX0_closeParts_234 (fun a_37 ma_37 ka_37 g => ?_)
                      refine lv_aload_n hx hb dX0_closeParts_237 rfl (lv_at hl 5 rfl) ?_
                      refine g_getk (C := RX0) (T := TX0) (N := 14) hx hb hts (mc_ inX0) hown hK g rfl 8 (by decide) rfl (hts _ (List.mem_cons_of_mem _ t_381)) (fun _ h9 => h9) 4 rfl dX0_closeParts_238 ?_
                      refine g_iald hx hb hK g ma_37 ka_37 (by decide) rfl (in_bd bg191_0_8_a0_ (by decide)) dX0_closeParts_241 (fun x_38 bx_38 cx_38 => ?_)
                      have kb_7 : bd 7 7 (7 : Int32) := ⟨by decide, by decide⟩
                      refine g_callv (va_runV (As := [.int 7, .int x_38]) (rest := []) ⟨hx, hb, hml, hown, hts⟩ (r_X8_fail l dC dI L kd tys fr_28 H.size g.2.2.2.1 q0_ mq0_ kq0_ 7 (bd_sub kb_7 (by decide)) x_38 y0_ by0_ (g.fcts [8] rfl)) (cwV 2 hts (gV_ t_1215 t_1107 t_1108 t_184 t_1109) rfl rfl rfl (by decide +kernel) ⟨(Nat.le_of_ble_eq_true rfl), (Nat.le_of_ble_eq_true rfl)⟩) (pre3V g hK mq0_ kq0_ (by decide) (q := (RX8, TX8, 10)) rfl) rfl rfl hl.1 rfl (lv_room (Nat.le_of_ble_eq_true rfl)) dX0_closeParts_242 ⟨(Nat.le_of_ble_eq_true rfl), (Nat.le_of_ble_eq_true rfl)⟩) g hK (by decide) (by decide) (fx' := [(0, 4, a0_, .ref a_37), (0, 12, a0_, .int 0), (0, 10, a0_, .int x_29), (7, 6, q1_, .int g191_7_6_q1_), (0, 8, a0_, .int g191_0_8_a0_), (0, 3, a0_, .ref g76_0_3_a0_), (0, 0, a0_, .ref q0_), (0, 2, a0_, .ref q1_)]) rfl (fun fr_39 H locs hp hMr_39 g => ?_)
                      obtain ⟨x_40, h_41, hF_42⟩ := hp
                      have g := g.more hF_42
                      obtain ⟨y_43, ey_43⟩ : ∃ z : Int32, z = v4_3 + 1 := ⟨_, rfl⟩
                      refine lv_iinc (v := y_43) (lv' := [(3, .int y_43), (6, .int y_27), (2, .int j76_2), (5, .int j76_5), (4, .int j76_4), (0, .ref a0_), (1, .int x1_)]) hx hb dX0_closeParts_245 hl (k := 4) rfl (by rw [ey_43]; rfl) (by decide) rfl (fun ls hl => ?_)
                      have ty_43 := add_bd ey_43 b_4 kb_1 (by decide)
                      have b_44 : bd 1 300 y_43 := add_rg ty_43 b_4 kb_1 (by decide)
                      refine lv_goto (tgt := 4) hx hb dX0_closeParts_248 (by decide) ?_
                      have loop_45 : ∀ (n : Nat) (v4_3 : Int32) (v4_6 : Int32) (v4_2 : Int32) (v4_5 : Int32) (v4_4 : Int32) (w4_0_10_a0_ : Int32) (w4_7_6_q1_ : Int32) (w4_0_8_a0_ : Int32), bd 1 300 v4_3 → bd 0 1 v4_2 → bd 0 1 v4_5 → bd 1 300 w4_0_10_a0_ → bd 1 2000 w4_7_6_q1_ → bd 0 299 w4_0_8_a0_ → (300 - v4_3.toInt < (n : Int)) → ∀ (f : Nat → va_E) (H : Heap) (locs : List Loc) (ls : Array Slot), G3 (dC, dI) L kd tys s f0 [(0, 8), (0, 10), (0, 11), (0, 12), (7, 6), (8, 6), (8, 8), (8, 9)] [115, 138, 139] f H locs [(8, 6, q0_, .int 1201), (8, 8, q0_, .int x_40), (0, 4, a0_, .ref a_37), (0, 12, a0_, .int 0), (0, 10, a0_, .int w4_0_10_a0_), (7, 6, q1_, .int w4_7_6_q1_), (0, 8, a0_, .int w4_0_8_a0_), (0, 3, a0_, .ref g76_0_3_a0_), (0, 0, a0_, .ref q0_), (0, 2, a0_, .ref q1_)] → lv_has ls 7 [(3, .int v4_3), (6, .int v4_6), (2, .int v4_2), (5, .int v4_5), (4, .int v4_4), (0, .ref a0_), (1, .int x1_)] → W p l e ({ frames := 1, cells := 0, slots := 0, locals := 23 } : Room) s m [.ref a0_, .int x1_].toArray below meth c H locs 0 0 Q (F0 m 4 ls []) := by
                        intro n4
                        induction n4 with
                        | zero =>
                          intro v4_3 v4_6 v4_2 v4_5 v4_4 w4_0_10_a0_ w4_7_6_q1_ w4_0_8_a0_ bv4_3  bv4_2 bv4_5  bw4_0_10_a0_ bw4_7_6_q1_ bw4_0_8_a0_ hm4 f H locs ls g  hl
                          exact absurd hm4 (by have h9_v4_3 := bv4_3; unfold bd at h9_v4_3; have h9_v4_6 := bdT v4_6; unfold bd at h9_v4_6; have h9_v4_2 := bv4_2; unfold bd at h9_v4_2; have h9_v4_5 := bv4_5; unfold bd at h9_v4_5; have h9_v4_4 := bdT v4_4; unfold bd at h9_v4_4; have h9_w4_0_10_a0_ := bw4_0_10_a0_; unfold bd at h9_w4_0_10_a0_; have h9_w4_7_6_q1_ := bw4_7_6_q1_; unfold bd at h9_w4_7_6_q1_; have h9_w4_0_8_a0_ := bw4_0_8_a0_; unfold bd at h9_w4_0_8_a0_; omega)
                        | succ n4 ih4 =>
                          intro v4_3 v4_6 v4_2 v4_5 v4_4 w4_0_10_a0_ w4_7_6_q1_ w4_0_8_a0_ bv4_3  bv4_2 bv4_5  bw4_0_10_a0_ bw4_7_6_q1_ bw4_0_8_a0_ hm4 f H locs ls g  hl
                          refine lv_iload_n hx hb dX0_closeParts_4 rfl (lv_at hl 0 rfl) ?_
                          refine lv_sipush (v := 300) hx hb dX0_closeParts_5 (by decide) ?_
                          refine lv_icmp_ge (tgt := 251) hx hb dX0_closeParts_8 (by decide) (fun c_46 => ?_) (fun c_46 => ?_)
                          · have fc_46 := le_f c_46
                            have b_47 : bd 300 300 v4_3 := leR fc_46 kb_300 bv4_3 (by decide)
                            subst hQ
                            exact W.vret hx hb hr (fun t ht hW => ⟨⟨_, rfl, Or.inr (⟨x_40, h_41, w4_0_10_a0_, bw4_0_10_a0_, w4_7_6_q1_, bw4_7_6_q1_, w4_0_8_a0_, bw4_0_8_a0_, (g.fcts [0, 1, 3, 4, 5, 6] rfl)⟩), q3_of g hK ht hW⟩, g.2.2.1.F ht⟩) g.2.2.1.2.2 dX0_closeParts_251
                          · have fc_46 := nle_f c_46
                            have b_48 : bd 1 299 v4_3 := ltL fc_46 bv4_3 kb_300 (by decide)
                            refine lv_iload_n hx hb dX0_closeParts_11 rfl (lv_at hl 2 rfl) ?_
                            refine lv_if_eq (tgt := 251) hx hb dX0_closeParts_12 (by decide) (fun c_49 => ?_) (fun c_49 => ?_)
                            · have fc_49 := eq_f c_49
                              have b_50 : bd 0 0 v4_2 := eqX fc_49 bv4_2 kb_0 (by decide)
                              subst hQ
                              exact W.vret hx hb hr (fun t ht hW => ⟨⟨_, rfl, Or.inr (⟨x_40, h_41, w4_0_10_a0_, bw4_0_10_a0_, w4_7_6_q1_, bw4_7_6_q1_, w4_0_8_a0_, bw4_0_8_a0_, (g.fcts [0, 1, 3, 4, 5, 6] rfl)⟩), q3_of g hK ht hW⟩, g.2.2.1.F ht⟩) g.2.2.1.2.2 dX0_closeParts_251
                            · have fc_49 := neq_f c_49
                              have b_51 : bd 1 1 v4_2 := neX fc_49 bv4_2 kb_0 (by decide)
                              refine lv_aload_n hx hb dX0_closeParts_15 rfl (lv_at hl 5 rfl) ?_
                              refine g_getk (C := RX0) (T := TX0) (N := 14) hx hb hts (mc_ inX0) hown hK g rfl 8 (by decide) rfl (hts _ (List.mem_cons_of_mem _ t_381)) (fun _ h9 => h9) 6 rfl dX0_closeParts_16 ?_
                              refine lv_if_le (tgt := 251) hx hb dX0_closeParts_19 (by decide) (fun c_52 => ?_) (fun c_52 => ?_)
                              · have fc_52 := le_f c_52
                                have b_53 : bd 0 0 w4_0_8_a0_ := leL fc_52 bw4_0_8_a0_ kb_0 (by decide)
                                subst hQ
                                exact W.vret hx hb hr (fun t ht hW => ⟨⟨_, rfl, Or.inr (⟨x_40, h_41, w4_0_10_a0_, bw4_0_10_a0_, w4_7_6_q1_, bw4_7_6_q1_, w4_0_8_a0_, (bd_sub b_53 (by decide)), (g.fcts [0, 1, 3, 4, 5, 6] rfl)⟩), q3_of g hK ht hW⟩, g.2.2.1.F ht⟩) g.2.2.1.2.2 dX0_closeParts_251
                              · have fc_52 := nle_f c_52
                                have b_54 : bd 1 299 w4_0_8_a0_ := ltR fc_52 kb_0 bw4_0_8_a0_ (by decide)
                                refine lv_aload_n hx hb dX0_closeParts_22 rfl (lv_at hl 5 rfl) ?_
                                refine g_getk (C := RX0) (T := TX0) (N := 14) hx hb hts (mc_ inX0) hown hK g rfl 3 (by decide) rfl (hts _ (List.mem_cons_of_mem _ t_376)) (fun _ h9 => h9) 7 rfl dX0_closeParts_23 ?_
                                refine lv_aload_n hx hb dX0_closeParts_26 rfl (lv_at hl 5 rfl) ?_
                                refine g_getk (C := RX0) (T := TX0) (N := 14) hx hb hts (mc_ inX0) hown hK g rfl 8 (by decide) rfl (hts _ (List.mem_cons_of_mem _ t_381)) (fun _ h9 => h9) 6 rfl dX0_closeParts_27 ?_
                                refine lv_iconst (v := 1) hx hb dX0_closeParts_30 (by decide) ?_
                                refine lv_isub hx hb dX0_closeParts_31 ?_
                                refine lv_topi (fun y_55 ey_55 => ?_)
                                have ty_55 := sub_bd ey_55 b_54 kb_1 (by decide)
                                have b_56 : bd 0 298 y_55 := sub_rg ty_55 b_54 kb_1 (by decide)
                                refine g_iald hx hb hK g mg76_0_3_a0_ kg76_0_3_a0_ (by decide) rfl (in_bd b_56 (by decide)) dX0_closeParts_32 (fun x_57 bx_57 cx_57 => ?_)
                                refine lv_istore (lv' := [(4, .int x_57), (3, .int v4_3), (6, .int v4_6), (2, .int v4_2), (5, .int v4_5), (0, .ref a0_), (1, .int x1_)]) hx hb dX0_closeParts_33 hl (by decide) rfl (fun ls hl => ?_)
                                refine lv_iload hx hb dX0_closeParts_35 (lv_at hl 0 rfl) ?_
                                refine lv_bipush (v := 6) hx hb dX0_closeParts_37 (by decide) ?_
                                have kb_6 : bd 6 6 (6 : Int32) := ⟨by decide, by decide⟩
                                refine lv_icmp_eq (tgt := 49) hx hb dX0_closeParts_39 (by decide) (fun c_58 => ?_) (fun c_58 => ?_)
                                · have fc_58 := eq_f c_58
                                  have b_59 : bd 6 6 x_57 := eqX fc_58 (bdT x_57) kb_6 (by decide)
                                  refine lv_iconst (v := 1) hx hb dX0_closeParts_49 (by decide) ?_
                                  refine lv_goto (tgt := 54) hx hb dX0_closeParts_50 (by decide) ?_
                                  refine lv_istore (lv' := [(5, .int 1), (4, .int x_57), (3, .int v4_3), (6, .int v4_6), (2, .int v4_2), (0, .ref a0_), (1, .int x1_)]) hx hb dX0_closeParts_54 hl (by decide) rfl (fun ls hl => ?_)
                                  refine lv_iload hx hb dX0_closeParts_56 (lv_at hl 0 rfl) ?_
                                  refine lv_if_ne (tgt := 70) hx hb dX0_closeParts_58 (by decide) (fun c_ => ?_) (fun c_ => absurd c_ (by decide))
                                  refine lv_iconst (v := 1) hx hb dX0_closeParts_70 (by decide) ?_
                                  refine lv_goto (tgt := 75) hx hb dX0_closeParts_71 (by decide) ?_
                                  refine lv_istore_n (lv' := [(2, .int 1), (5, .int 1), (4, .int x_57), (3, .int v4_3), (6, .int v4_6), (0, .ref a0_), (1, .int x1_)]) hx hb dX0_closeParts_75 rfl hl (by decide) rfl (fun ls hl => ?_)
                                  refine lv_iload_n hx hb dX0_closeParts_76 rfl (lv_at hl 0 rfl) ?_
                                  refine lv_if_eq (tgt := 245) hx hb dX0_closeParts_77 (by decide) (fun c_ => absurd c_ (by decide)) (fun c_ => ?_)
                                  refine lv_aload_n hx hb dX0_closeParts_80 rfl (lv_at hl 5 rfl) ?_
                                  refine lv_dup hx hb dX0_closeParts_81 rfl ?_
                                  refine g_getk (C := RX0) (T := TX0) (N := 14) hx hb hts (mc_ inX0) hown hK g rfl 8 (by decide) rfl (hts _ (List.mem_cons_of_mem _ t_381)) (fun _ h9 => h9) 6 rfl dX0_closeParts_82 ?_
                                  refine lv_iconst (v := 1) hx hb dX0_closeParts_85 (by decide) ?_
                                  refine lv_isub hx hb dX0_closeParts_86 ?_
                                  refine lv_topi (fun y_60 ey_60 => ?_)
                                  obtain rfl : y_55 = y_60 := ey_55.trans ey_60.symm
                                  refine g_put (C := RX0) (T := TX0) (N := 14) hx hb hts (mc_ inX0) tyX0 tyX0_ok nmX0 hown hK g ma0_ ka0_ (by decide) rfl 8 (by decide) (hts _ (List.mem_cons_of_mem _ t_381)) (fun _ h9 => h9) rfl rfl (okV_i (bd_sub b_56 (by decide))) rfl rfl (by decide) (Or.inr (Or.inl (by decide))) (fx' := [(8, 6, q0_, .int 1201), (8, 8, q0_, .int x_40), (0, 4, a0_, .ref a_37), (0, 12, a0_, .int 0), (0, 10, a0_, .int w4_0_10_a0_), (7, 6, q1_, .int w4_7_6_q1_), (0, 3, a0_, .ref g76_0_3_a0_), (0, 0, a0_, .ref q0_), (0, 2, a0_, .ref q1_)]) rfl dX0_closeParts_87 (fun f H locs hM_61 g => ?_)
                                  refine lv_aload_n hx hb dX0_closeParts_90 rfl (lv_at hl 5 rfl) ?_
                                  refine g_calli (va_runV (As := []) (rest := []) ⟨hx, hb, hml, hown, hts⟩ (r_X0_takeHeight l dC dI L kd tys f H.size g.2.2.2.1 a0_ ma0_ ka0_) (cwV 0 hts (gV_ t_1199 t_1201 t_16 t_190 t_1202) rfl rfl rfl (by decide +kernel) ⟨(Nat.le_of_ble_eq_true rfl), (Nat.le_of_ble_eq_true rfl)⟩) (pre3V g hK ma0_ ka0_ (by decide) (q := (RX0, TX0, 14)) rfl) rfl rfl hl.1 rfl (lv_room (Nat.le_of_ble_eq_true rfl)) dX0_closeParts_91 ⟨(Nat.le_of_ble_eq_true rfl), (Nat.le_of_ble_eq_true rfl)⟩) g hK (by decide) (by decide) (fx' := [(0, 8, a0_, .int y_55), (8, 6, q0_, .int 1201), (8, 8, q0_, .int x_40), (0, 4, a0_, .ref a_37), (0, 12, a0_, .int 0), (7, 6, q1_, .int w4_7_6_q1_), (0, 3, a0_, .ref g76_0_3_a0_), (0, 0, a0_, .ref q0_), (0, 2, a0_, .ref q1_)]) rfl (fun r_62 fr_62 H locs hp hMr_62 g => ?_)
                                  obtain ⟨x_63, h_64, hF_65⟩ := hp
                                  have g := g.more hF_65
                                  refine lv_istore (lv' := [(6, .int r_62), (2, .int 1), (5, .int 1), (4, .int x_57), (3, .int v4_3), (0, .ref a0_), (1, .int x1_)]) hx hb dX0_closeParts_94 hl (by decide) rfl (fun ls hl => ?_)
                                  refine lv_iload hx hb dX0_closeParts_96 (lv_at hl 2 rfl) ?_
                                  refine lv_if_eq (tgt := 136) hx hb dX0_closeParts_98 (by decide) (fun c_ => absurd c_ (by decide)) (fun c_ => ?_)
                                  refine lv_aload_n hx hb dX0_closeParts_101 rfl (lv_at hl 5 rfl) ?_
                                  refine lv_dup hx hb dX0_closeParts_102 rfl ?_
                                  refine g_geti (C := RX0) (T := TX0) (N := 14) hx hb hts (mc_ inX0) hown hK g ma0_ ka0_ (by decide) rfl 11 (by decide) rfl (hts _ (List.mem_cons_of_mem _ t_384)) (fun _ h9 => h9) rfl dX0_closeParts_103 (fun x_66 bx_66 g => ?_)
                                  refine lv_iconst (v := 1) hx hb dX0_closeParts_106 (by decide) ?_
                                  refine lv_isub hx hb dX0_closeParts_107 ?_
                                  refine lv_topi (fun y_67 ey_67 => ?_)
                                  refine g_put (C := RX0) (T := TX0) (N := 14) hx hb hts (mc_ inX0) tyX0 tyX0_ok nmX0 hown hK g ma0_ ka0_ (by decide) rfl 11 (by decide) (hts _ (List.mem_cons_of_mem _ t_384)) (fun _ h9 => h9) rfl rfl (okV_i (bdT y_67)) rfl rfl (by decide) (Or.inr (Or.inl (by decide))) (fx' := [(0, 10, a0_, .int x_63), (0, 8, a0_, .int y_55), (8, 6, q0_, .int 1201), (8, 8, q0_, .int x_40), (0, 4, a0_, .ref a_37), (0, 12, a0_, .int 0), (7, 6, q1_, .int w4_7_6_q1_), (0, 3, a0_, .ref g76_0_3_a0_), (0, 0, a0_, .ref q0_), (0, 2, a0_, .ref q1_)]) rfl dX0_closeParts_108 (fun f H locs hM_68 g => ?_)
                                  refine lv_aload_n hx hb dX0_closeParts_111 rfl (lv_at hl 5 rfl) ?_
                                  refine g_getk (C := RX0) (T := TX0) (N := 14) hx hb hts (mc_ inX0) hown hK g rfl 2 (by decide) rfl (hts _ (List.mem_cons_of_mem _ t_375)) (fun _ h9 => h9) 10 rfl dX0_closeParts_112 ?_
                                  refine lv_iload hx hb dX0_closeParts_115 (lv_at hl 3 rfl) ?_
                                  refine lv_bipush (v := 6) hx hb dX0_closeParts_117 (by decide) ?_
                                  refine lv_icmp_ne (tgt := 127) hx hb dX0_closeParts_119 (by decide) (fun c_69 => ?_) (fun c_69 => ?_)
                                  · have fc_69 := neq_f c_69
                                    have b_70 : bd 7 5 x_57 := neX fc_69 b_59 kb_6 (by decide)
                                    exact bd_no b_70 (by decide)
                                  · have fc_69 := eq_f c_69
                                    refine lv_bipush (v := 6) hx hb dX0_closeParts_122 (by decide) ?_
                                    refine lv_goto (tgt := 129) hx hb dX0_closeParts_124 (by decide) ?_
                                    refine lv_iconst (v := 0) hx hb dX0_closeParts_129 (by decide) ?_
                                    refine g_callv (va_runV (As := [.int 6, .int 0]) (rest := []) ⟨hx, hb, hml, hown, hts⟩ (r_X7_emit l dC dI L kd tys f H.size g.2.2.2.1 q1_ mq1_ kq1_ 6 0) (cwV 2 hts (gV_ t_1203 t_1204 t_1205 t_191 t_1206) rfl rfl rfl (by decide +kernel) ⟨(Nat.le_of_ble_eq_true rfl), (Nat.le_of_ble_eq_true rfl)⟩) (pre3V g hK mq1_ kq1_ (by decide) (q := (RX7, TX7, 19)) rfl) rfl rfl hl.1 rfl (lv_room (Nat.le_of_ble_eq_true rfl)) dX0_closeParts_130 ⟨(Nat.le_of_ble_eq_true rfl), (Nat.le_of_ble_eq_true rfl)⟩) g hK (by decide) (by decide) (fx' := [(0, 11, a0_, .int y_67), (0, 10, a0_, .int x_63), (0, 8, a0_, .int y_55), (8, 6, q0_, .int 1201), (8, 8, q0_, .int x_40), (0, 4, a0_, .ref a_37), (0, 12, a0_, .int 0), (0, 3, a0_, .ref g76_0_3_a0_), (0, 0, a0_, .ref q0_), (0, 2, a0_, .ref q1_)]) rfl (fun fr_71 H locs hp hMr_71 g => ?_)
                                    obtain ⟨x_72, h_73, hF_74⟩ := hp
                                    have g := g.more hF_74
                                    refine lv_goto (tgt := 191) hx hb dX0_closeParts_133 (by decide) ?_
                                    refine lv_iconst (v := 1) hx hb dX0_closeParts_191 (by decide) ?_
                                    refine lv_iload hx hb dX0_closeParts_192 (lv_at hl 2 rfl) ?_
                                    refine lv_if_eq (tgt := 202) hx hb dX0_closeParts_194 (by decide) (fun c_ => absurd c_ (by decide)) (fun c_ => ?_)
                                    refine lv_iload hx hb dX0_closeParts_197 (lv_at hl 0 rfl) ?_
                                    refine lv_goto (tgt := 211) hx hb dX0_closeParts_199 (by decide) ?_
                                    refine lv_iadd hx hb dX0_closeParts_211 ?_
                                    refine lv_topi (fun y_75 ey_75 => ?_)
                                    refine lv_istore (lv' := [(6, .int y_75), (2, .int 1), (5, .int 1), (4, .int x_57), (3, .int v4_3), (0, .ref a0_), (1, .int x1_)]) hx hb dX0_closeParts_212 hl (by decide) rfl (fun ls hl => ?_)
                                    refine lv_aload_n hx hb dX0_closeParts_214 rfl (lv_at hl 5 rfl) ?_
                                    refine lv_iload hx hb dX0_closeParts_215 (lv_at hl 0 rfl) ?_
                                    refine g_callv (va_runV (As := [.int y_75]) (rest := []) ⟨hx, hb, hml, hown, hts⟩ (r_X0_addWhole l dC dI L kd tys fr_71 H.size g.2.2.2.1 a0_ ma0_ ka0_ y_75) (cwV 1 hts (gV_ t_1211 t_1213 t_17 t_190 t_1214) rfl rfl rfl (by decide +kernel) ⟨(Nat.le_of_ble_eq_true rfl), (Nat.le_of_ble_eq_true rfl)⟩) (pre3V g hK ma0_ ka0_ (by decide) (q := (RX0, TX0, 14)) rfl) rfl rfl hl.1 rfl (lv_room (Nat.le_of_ble_eq_true rfl)) dX0_closeParts_217 ⟨(Nat.le_of_ble_eq_true rfl), (Nat.le_of_ble_eq_true rfl)⟩) g hK (by decide) (by decide) (fx' := [(7, 6, q1_, .int x_72), (0, 11, a0_, .int y_67), (0, 8, a0_, .int y_55), (8, 6, q0_, .int 1201), (8, 8, q0_, .int x_40), (0, 4, a0_, .ref a_37), (0, 3, a0_, .ref g76_0_3_a0_), (0, 0, a0_, .ref q0_), (0, 2, a0_, .ref q1_)]) rfl (fun fr_76 H locs hp hMr_76 g => ?_)
                                    obtain ⟨x_77, h_78, hF_79⟩ := hp
                                    have g := g.more hF_79
                                    refine lv_iload hx hb dX0_closeParts_220 (lv_at hl 0 rfl) ?_
                                    refine lv_bipush (v := 12) hx hb dX0_closeParts_222 (by decide) ?_
                                    refine lv_icmp_le (tgt := 245) hx hb dX0_closeParts_224 (by decide) (fun c_80 => ?_) (fun c_80 => ?_)
                                    · have fc_80 := le_f c_80
                                      have b_81 : bd (-2147483648) 12 y_75 := leL fc_80 (bdT y_75) kb_12 (by decide)
                                      obtain ⟨y_82, ey_82⟩ : ∃ z : Int32, z = v4_3 + 1 := ⟨_, rfl⟩
                                      refine lv_iinc (v := y_82) (lv' := [(3, .int y_82), (6, .int y_75), (2, .int 1), (5, .int 1), (4, .int x_57), (0, .ref a0_), (1, .int x1_)]) hx hb dX0_closeParts_245 hl (k := 4) rfl (by rw [ey_82]; rfl) (by decide) rfl (fun ls hl => ?_)
                                      have ty_82 := add_bd ey_82 b_48 kb_1 (by decide)
                                      have b_83 : bd 2 300 y_82 := add_rg ty_82 b_48 kb_1 (by decide)
                                      refine lv_goto (tgt := 4) hx hb dX0_closeParts_248 (by decide) ?_
                                      have hl9 := lv_sub hl [0, 1, 2, 3, 4, 5, 6] (by rfl : lv_pick [(3, .int y_82), (6, .int y_75), (2, .int 1), (5, .int 1), (4, .int x_57), (0, .ref a0_), (1, .int x1_)] [0, 1, 2, 3, 4, 5, 6] = [(3, .int y_82), (6, .int y_75), (2, .int 1), (5, .int 1), (4, .int x_57), (0, .ref a0_), (1, .int x1_)])
                                      have g9 := g.sub (fx' := [(8, 6, q0_, .int 1201), (8, 8, q0_, .int x_40), (0, 4, a0_, .ref a_37), (0, 12, a0_, .int 0), (0, 10, a0_, .int x_77), (7, 6, q1_, .int x_72), (0, 8, a0_, .int y_55), (0, 3, a0_, .ref g76_0_3_a0_), (0, 0, a0_, .ref q0_), (0, 2, a0_, .ref q1_)]) [5, 6, 7, 0, 1, 2, 4, 8, 9, 10] rfl
                                      exact ih4  y_82 y_75 1 1 x_57 x_77 x_72 y_55 (bd_sub b_83 (by decide)) (bd_sub kb_1 (by decide)) (bd_sub kb_1 (by decide)) h_78 h_73 (bd_sub b_56 (by decide)) (by have h9_0 := b_56; unfold bd at h9_0; have h9_1 := b_59; unfold bd at h9_1; have h9_2 := b_81; unfold bd at h9_2; have h9_3 := b_83; unfold bd at h9_3; have h9_4 := bdT v4_4; unfold bd at h9_4; have h9_5 := bdT v4_6; unfold bd at h9_5; have h9_6 := bv4_2; unfold bd at h9_6; have h9_7 := bv4_3; unfold bd at h9_7; have h9_8 := bv4_5; unfold bd at h9_8; have h9_9 := bw4_0_10_a0_; unfold bd at h9_9; have h9_10 := bw4_0_8_a0_; unfold bd at h9_10; have h9_11 := bw4_7_6_q1_; unfold bd at h9_11; have h9_12 := h_73; unfold bd at h9_12; have h9_13 := h_78; unfold bd at h9_13; have h9_14 := kb_0; unfold bd at h9_14; have h9_15 := kb_1; unfold bd at h9_15; have h9_16 := kb_12; unfold bd at h9_16; have h9_17 := kb_300; unfold bd at h9_17; have h9_18 := kb_6; unfold bd at h9_18; have h9_19 := kb_7; unfold bd at h9_19; omega) _ _ _ _ g9  hl9
                                    · have fc_80 := nle_f c_80
                                      have b_84 : bd 13 2147483647 y_75 := ltR fc_80 kb_12 (bdT y_75) (by decide)
                                      refine lv_aload_n hx hb dX0_closeParts_227 rfl (lv_at hl 5 rfl) ?_
                                      refine g_getk (C := RX0) (T := TX0) (N := 14) hx hb hts (mc_ inX0) hown hK g rfl 0 (by decide) rfl (hts _ (List.mem_cons_of_mem _ t_373)) (fun _ h9 => h9) 9 rfl dX0_closeParts_228 ?_
                                      refine lv_bipush (v := 7) hx hb dX0_closeParts_231 (by decide) ?_
                                      refine lv_aload_n hx hb dX0_closeParts_233 rfl (lv_at hl 5 rfl) ?_
                                      refine g_getk (C := RX0) (T := TX0) (N := 14) hx hb hts (mc_ inX0) hown hK g rfl 4 (by decide) rfl (hts _ (List.mem_cons_of_mem _ t_377)) (fun _ h9 => h9) 7 rfl dX0_closeParts_234 ?_
                                      refine lv_aload_n hx hb dX0_closeParts_237 rfl (lv_at hl 5 rfl) ?_
                                      refine g_getk (C := RX0) (T := TX0) (N := 14) hx hb hts (mc_ inX0) hown hK g rfl 8 (by decide) rfl (hts _ (List.mem_cons_of_mem _ t_381)) (fun _ h9 => h9) 4 rfl dX0_closeParts_238 ?_
                                      refine g_iald hx hb hK g ma_37 ka_37 (by decide) rfl (in_bd b_56 (by decide)) dX0_closeParts_241 (fun x_85 bx_85 cx_85 => ?_)
                                      refine g_callv (va_runV (As := [.int 7, .int x_85]) (rest := []) ⟨hx, hb, hml, hown, hts⟩ (r_X8_fail_2 l dC dI L kd tys fr_76 H.size g.2.2.2.1 q0_ mq0_ kq0_ 7 (bd_sub kb_7 (by decide)) x_85 x_40 h_41 (g.fcts [6] rfl)) (cwV 2 hts (gV_ t_1215 t_1107 t_1108 t_184 t_1109) rfl rfl rfl (by decide +kernel) ⟨(Nat.le_of_ble_eq_true rfl), (Nat.le_of_ble_eq_true rfl)⟩) (pre3V g hK mq0_ kq0_ (by decide) (q := (RX8, TX8, 10)) rfl) rfl rfl hl.1 rfl (lv_room (Nat.le_of_ble_eq_true rfl)) dX0_closeParts_242 ⟨(Nat.le_of_ble_eq_true rfl), (Nat.le_of_ble_eq_true rfl)⟩) g hK (by decide) (by decide) (fx' := [(0, 12, a0_, .int 0), (0, 10, a0_, .int x_77), (7, 6, q1_, .int x_72), (0, 11, a0_, .int y_67), (0, 8, a0_, .int y_55), (8, 8, q0_, .int x_40), (0, 4, a0_, .ref a_37), (0, 3, a0_, .ref g76_0_3_a0_), (0, 0, a0_, .ref q0_), (0, 2, a0_, .ref q1_)]) rfl (fun fr_86 H locs hp hMr_86 g => ?_)
                                      have hF_87 := hp
                                      have g := g.more hF_87
                                      obtain ⟨y_88, ey_88⟩ : ∃ z : Int32, z = v4_3 + 1 := ⟨_, rfl⟩
                                      refine lv_iinc (v := y_88) (lv' := [(3, .int y_88), (6, .int y_75), (2, .int 1), (5, .int 1), (4, .int x_57), (0, .ref a0_), (1, .int x1_)]) hx hb dX0_closeParts_245 hl (k := 4) rfl (by rw [ey_88]; rfl) (by decide) rfl (fun ls hl => ?_)
                                      have ty_88 := add_bd ey_88 b_48 kb_1 (by decide)
                                      have b_89 : bd 2 300 y_88 := add_rg ty_88 b_48 kb_1 (by decide)
                                      refine lv_goto (tgt := 4) hx hb dX0_closeParts_248 (by decide) ?_
                                      have hl9 := lv_sub hl [0, 1, 2, 3, 4, 5, 6] (by rfl : lv_pick [(3, .int y_88), (6, .int y_75), (2, .int 1), (5, .int 1), (4, .int x_57), (0, .ref a0_), (1, .int x1_)] [0, 1, 2, 3, 4, 5, 6] = [(3, .int y_88), (6, .int y_75), (2, .int 1), (5, .int 1), (4, .int x_57), (0, .ref a0_), (1, .int x1_)])
                                      have g9 := g.sub (fx' := [(8, 6, q0_, .int 1201), (8, 8, q0_, .int x_40), (0, 4, a0_, .ref a_37), (0, 12, a0_, .int 0), (0, 10, a0_, .int x_77), (7, 6, q1_, .int x_72), (0, 8, a0_, .int y_55), (0, 3, a0_, .ref g76_0_3_a0_), (0, 0, a0_, .ref q0_), (0, 2, a0_, .ref q1_)]) [0, 6, 7, 1, 2, 3, 5, 8, 9, 10] rfl
                                      exact ih4  y_88 y_75 1 1 x_57 x_77 x_72 y_55 (bd_sub b_89 (by decide)) (bd_sub kb_1 (by decide)) (bd_sub kb_1 (by decide)) h_78 h_73 (bd_sub b_56 (by decide)) (by have h9_0 := b_56; unfold bd at h9_0; have h9_1 := b_59; unfold bd at h9_1; have h9_2 := b_84; unfold bd at h9_2; have h9_3 := b_89; unfold bd at h9_3; have h9_4 := bdT v4_4; unfold bd at h9_4; have h9_5 := bdT v4_6; unfold bd at h9_5; have h9_6 := bv4_2; unfold bd at h9_6; have h9_7 := bv4_3; unfold bd at h9_7; have h9_8 := bv4_5; unfold bd at h9_8; have h9_9 := bw4_0_10_a0_; unfold bd at h9_9; have h9_10 := bw4_0_8_a0_; unfold bd at h9_10; have h9_11 := bw4_7_6_q1_; unfold bd at h9_11; have h9_12 := h_73; unfold bd at h9_12; have h9_13 := h_78; unfold bd at h9_13; have h9_14 := kb_0; unfold bd at h9_14; have h9_15 := kb_1; unfold bd at h9_15; have h9_16 := kb_12; unfold bd at h9_16; have h9_17 := kb_300; unfold bd at h9_17; have h9_18 := kb_6; unfold bd at h9_18; have h9_19 := kb_7; unfold bd at h9_19; omega) _ _ _ _ g9  hl9
                                · have fc_58 := neq_f c_58
                                  refine lv_iload hx hb dX0_closeParts_42 (lv_at hl 0 rfl) ?_
                                  refine lv_bipush (v := 7) hx hb dX0_closeParts_44 (by decide) ?_
                                  refine lv_icmp_ne (tgt := 53) hx hb dX0_closeParts_46 (by decide) (fun c_90 => ?_) (fun c_90 => ?_)
                                  · have fc_90 := neq_f c_90
                                    refine lv_iconst (v := 0) hx hb dX0_closeParts_53 (by decide) ?_
                                    refine lv_istore (lv' := [(5, .int 0), (4, .int x_57), (3, .int v4_3), (6, .int v4_6), (2, .int v4_2), (0, .ref a0_), (1, .int x1_)]) hx hb dX0_closeParts_54 hl (by decide) rfl (fun ls hl => ?_)
                                    refine lv_iload hx hb dX0_closeParts_56 (lv_at hl 0 rfl) ?_
                                    refine lv_if_ne (tgt := 70) hx hb dX0_closeParts_58 (by decide) (fun c_ => absurd c_ (by decide)) (fun c_ => ?_)
                                    refine lv_iload hx hb dX0_closeParts_61 (lv_at hl 1 rfl) ?_
                                    refine g_calli (va_runS (As := [.int x_57]) (rest := []) ⟨hx, hb, hml, hown, hts⟩ (r_X0_levelOf l dC dI L kd tys f H.size g.2.2.2.1 x_57) (va_cwS 1 hts (gS_ t_1191 t_1192 t_190 t_1193) rfl rfl rfl (by decide +kernel) ⟨(Nat.le_of_ble_eq_true rfl), (Nat.le_of_ble_eq_true rfl)⟩) (pre3S g hK) rfl rfl hl.1 rfl (lv_room (Nat.le_of_ble_eq_true rfl)) dX0_closeParts_63 ⟨(Nat.le_of_ble_eq_true rfl), (Nat.le_of_ble_eq_true rfl)⟩) g hK (by decide) (by decide) (fx' := [(8, 6, q0_, .int 1201), (8, 8, q0_, .int x_40), (0, 4, a0_, .ref a_37), (0, 12, a0_, .int 0), (0, 10, a0_, .int w4_0_10_a0_), (7, 6, q1_, .int w4_7_6_q1_), (0, 8, a0_, .int w4_0_8_a0_), (0, 3, a0_, .ref g76_0_3_a0_), (0, 0, a0_, .ref q0_), (0, 2, a0_, .ref q1_)]) rfl (fun r_91 fr_91 H locs hp hMr_91 g => ?_)
                                    rcases hp with ⟨h_92, -⟩ | ⟨h_93, h_94, -⟩
                                    · obtain rfl : r_91 = 0 := h_92
                                      refine lv_iload_n hx hb dX0_closeParts_66 rfl (lv_at hl 6 rfl) ?_
                                      refine lv_icmp_lt (tgt := 74) hx hb dX0_closeParts_67 (by decide) (fun c_95 => ?_) (fun c_95 => ?_)
                                      · have fc_95 := lt_f c_95
                                        have b_96 : bd 1 2147483647 x1_ := ltR fc_95 kb_0 (bdT x1_) (by decide)
                                        refine lv_iconst (v := 0) hx hb dX0_closeParts_74 (by decide) ?_
                                        refine lv_istore_n (lv' := [(2, .int 0), (5, .int 0), (4, .int x_57), (3, .int v4_3), (6, .int v4_6), (0, .ref a0_), (1, .int x1_)]) hx hb dX0_closeParts_75 rfl hl (by decide) rfl (fun ls hl => ?_)
                                        refine lv_iload_n hx hb dX0_closeParts_76 rfl (lv_at hl 0 rfl) ?_
                                        refine lv_if_eq (tgt := 245) hx hb dX0_closeParts_77 (by decide) (fun c_ => ?_) (fun c_ => absurd (by decide) c_)
                                        obtain ⟨y_97, ey_97⟩ : ∃ z : Int32, z = v4_3 + 1 := ⟨_, rfl⟩
                                        refine lv_iinc (v := y_97) (lv' := [(3, .int y_97), (2, .int 0), (5, .int 0), (4, .int x_57), (6, .int v4_6), (0, .ref a0_), (1, .int x1_)]) hx hb dX0_closeParts_245 hl (k := 3) rfl (by rw [ey_97]; rfl) (by decide) rfl (fun ls hl => ?_)
                                        have ty_97 := add_bd ey_97 b_48 kb_1 (by decide)
                                        have b_98 : bd 2 300 y_97 := add_rg ty_97 b_48 kb_1 (by decide)
                                        refine lv_goto (tgt := 4) hx hb dX0_closeParts_248 (by decide) ?_
                                        have hl9 := lv_sub hl [0, 4, 1, 2, 3, 5, 6] (by rfl : lv_pick [(3, .int y_97), (2, .int 0), (5, .int 0), (4, .int x_57), (6, .int v4_6), (0, .ref a0_), (1, .int x1_)] [0, 4, 1, 2, 3, 5, 6] = [(3, .int y_97), (6, .int v4_6), (2, .int 0), (5, .int 0), (4, .int x_57), (0, .ref a0_), (1, .int x1_)])
                                        have g9 := g.sub (fx' := [(8, 6, q0_, .int 1201), (8, 8, q0_, .int x_40), (0, 4, a0_, .ref a_37), (0, 12, a0_, .int 0), (0, 10, a0_, .int w4_0_10_a0_), (7, 6, q1_, .int w4_7_6_q1_), (0, 8, a0_, .int w4_0_8_a0_), (0, 3, a0_, .ref g76_0_3_a0_), (0, 0, a0_, .ref q0_), (0, 2, a0_, .ref q1_)]) [0, 1, 2, 3, 4, 5, 6, 7, 8, 9] rfl
                                        exact ih4  y_97 v4_6 0 0 x_57 w4_0_10_a0_ w4_7_6_q1_ w4_0_8_a0_ (bd_sub b_98 (by decide)) (bd_sub kb_0 (by decide)) (bd_sub kb_0 (by decide)) bw4_0_10_a0_ bw4_7_6_q1_ (bd_sub b_54 (by decide)) (by have h9_0 := b_54; unfold bd at h9_0; have h9_1 := b_98; unfold bd at h9_1; have h9_2 := bdT v4_4; unfold bd at h9_2; have h9_3 := bdT v4_6; unfold bd at h9_3; have h9_4 := bdT x_57; unfold bd at h9_4; have h9_5 := bv4_2; unfold bd at h9_5; have h9_6 := bv4_3; unfold bd at h9_6; have h9_7 := bv4_5; unfold bd at h9_7; have h9_8 := bw4_0_10_a0_; unfold bd at h9_8; have h9_9 := bw4_0_8_a0_; unfold bd at h9_9; have h9_10 := bw4_7_6_q1_; unfold bd at h9_10; have h9_11 := kb_0; unfold bd at h9_11; have h9_12 := kb_1; unfold bd at h9_12; have h9_13 := kb_12; unfold bd at h9_13; have h9_14 := kb_300; unfold bd at h9_14; have h9_15 := kb_6; unfold bd at h9_15; have h9_16 := kb_7; unfold bd at h9_16; omega) _ _ _ _ g9  hl9
                                      · have fc_95 := nlt_f c_95
                                        have b_99 : bd (-2147483648) 0 x1_ := leL fc_95 (bdT x1_) kb_0 (by decide)
                                        refine lv_iconst (v := 1) hx hb dX0_closeParts_70 (by decide) ?_
                                        refine lv_goto (tgt := 75) hx hb dX0_closeParts_71 (by decide) ?_
                                        refine lv_istore_n (lv' := [(2, .int 1), (5, .int 0), (4, .int x_57), (3, .int v4_3), (6, .int v4_6), (0, .ref a0_), (1, .int x1_)]) hx hb dX0_closeParts_75 rfl hl (by decide) rfl (fun ls hl => ?_)
                                        refine lv_iload_n hx hb dX0_closeParts_76 rfl (lv_at hl 0 rfl) ?_
                                        refine lv_if_eq (tgt := 245) hx hb dX0_closeParts_77 (by decide) (fun c_ => absurd c_ (by decide)) (fun c_ => ?_)
                                        refine lv_aload_n hx hb dX0_closeParts_80 rfl (lv_at hl 5 rfl) ?_
                                        refine lv_dup hx hb dX0_closeParts_81 rfl ?_
                                        refine g_getk (C := RX0) (T := TX0) (N := 14) hx hb hts (mc_ inX0) hown hK g rfl 8 (by decide) rfl (hts _ (List.mem_cons_of_mem _ t_381)) (fun _ h9 => h9) 6 rfl dX0_closeParts_82 ?_
                                        refine lv_iconst (v := 1) hx hb dX0_closeParts_85 (by decide) ?_
                                        refine lv_isub hx hb dX0_closeParts_86 ?_
                                        refine lv_topi (fun y_100 ey_100 => ?_)
                                        obtain rfl : y_55 = y_100 := ey_55.trans ey_100.symm
                                        refine g_put (C := RX0) (T := TX0) (N := 14) hx hb hts (mc_ inX0) tyX0 tyX0_ok nmX0 hown hK g ma0_ ka0_ (by decide) rfl 8 (by decide) (hts _ (List.mem_cons_of_mem _ t_381)) (fun _ h9 => h9) rfl rfl (okV_i (bd_sub b_56 (by decide))) rfl rfl (by decide) (Or.inr (Or.inl (by decide))) (fx' := [(8, 6, q0_, .int 1201), (8, 8, q0_, .int x_40), (0, 4, a0_, .ref a_37), (0, 12, a0_, .int 0), (0, 10, a0_, .int w4_0_10_a0_), (7, 6, q1_, .int w4_7_6_q1_), (0, 3, a0_, .ref g76_0_3_a0_), (0, 0, a0_, .ref q0_), (0, 2, a0_, .ref q1_)]) rfl dX0_closeParts_87 (fun f H locs hM_101 g => ?_)
                                        refine lv_aload_n hx hb dX0_closeParts_90 rfl (lv_at hl 5 rfl) ?_
                                        refine g_calli (va_runV (As := []) (rest := []) ⟨hx, hb, hml, hown, hts⟩ (r_X0_takeHeight l dC dI L kd tys f H.size g.2.2.2.1 a0_ ma0_ ka0_) (cwV 0 hts (gV_ t_1199 t_1201 t_16 t_190 t_1202) rfl rfl rfl (by decide +kernel) ⟨(Nat.le_of_ble_eq_true rfl), (Nat.le_of_ble_eq_true rfl)⟩) (pre3V g hK ma0_ ka0_ (by decide) (q := (RX0, TX0, 14)) rfl) rfl rfl hl.1 rfl (lv_room (Nat.le_of_ble_eq_true rfl)) dX0_closeParts_91 ⟨(Nat.le_of_ble_eq_true rfl), (Nat.le_of_ble_eq_true rfl)⟩) g hK (by decide) (by decide) (fx' := [(0, 8, a0_, .int y_55), (8, 6, q0_, .int 1201), (8, 8, q0_, .int x_40), (0, 4, a0_, .ref a_37), (0, 12, a0_, .int 0), (7, 6, q1_, .int w4_7_6_q1_), (0, 3, a0_, .ref g76_0_3_a0_), (0, 0, a0_, .ref q0_), (0, 2, a0_, .ref q1_)]) rfl (fun r_102 fr_102 H locs hp hMr_102 g => ?_)
                                        obtain ⟨x_103, h_104, hF_105⟩ := hp
                                        have g := g.more hF_105
                                        refine lv_istore (lv' := [(6, .int r_102), (2, .int 1), (5, .int 0), (4, .int x_57), (3, .int v4_3), (0, .ref a0_), (1, .int x1_)]) hx hb dX0_closeParts_94 hl (by decide) rfl (fun ls hl => ?_)
                                        refine lv_iload hx hb dX0_closeParts_96 (lv_at hl 2 rfl) ?_
                                        refine lv_if_eq (tgt := 136) hx hb dX0_closeParts_98 (by decide) (fun c_ => ?_) (fun c_ => absurd (by decide) c_)
                                        refine lv_iload hx hb dX0_closeParts_136 (lv_at hl 3 rfl) ?_
                                        refine lv_sipush (v := 205) hx hb dX0_closeParts_138 (by decide) ?_
                                        have kb_205 : bd 205 205 (205 : Int32) := ⟨by decide, by decide⟩
                                        refine lv_icmp_eq (tgt := 152) hx hb dX0_closeParts_141 (by decide) (fun c_106 => ?_) (fun c_106 => ?_)
                                        · have fc_106 := eq_f c_106
                                          have b_107 : bd 205 205 x_57 := eqX fc_106 (bdT x_57) kb_205 (by decide)
                                          refine lv_aload_n hx hb dX0_closeParts_152 rfl (lv_at hl 5 rfl) ?_
                                          refine g_getk (C := RX0) (T := TX0) (N := 14) hx hb hts (mc_ inX0) hown hK g rfl 2 (by decide) rfl (hts _ (List.mem_cons_of_mem _ t_375)) (fun _ h9 => h9) 9 rfl dX0_closeParts_153 ?_
                                          refine lv_bipush (v := 8) hx hb dX0_closeParts_156 (by decide) ?_
                                          refine lv_iconst (v := 0) hx hb dX0_closeParts_158 (by decide) ?_
                                          refine g_callv (va_runV (As := [.int 8, .int 0]) (rest := []) ⟨hx, hb, hml, hown, hts⟩ (r_X7_emit l dC dI L kd tys fr_102 H.size g.2.2.2.1 q1_ mq1_ kq1_ 8 0) (cwV 2 hts (gV_ t_1203 t_1204 t_1205 t_191 t_1206) rfl rfl rfl (by decide +kernel) ⟨(Nat.le_of_ble_eq_true rfl), (Nat.le_of_ble_eq_true rfl)⟩) (pre3V g hK mq1_ kq1_ (by decide) (q := (RX7, TX7, 19)) rfl) rfl rfl hl.1 rfl (lv_room (Nat.le_of_ble_eq_true rfl)) dX0_closeParts_159 ⟨(Nat.le_of_ble_eq_true rfl), (Nat.le_of_ble_eq_true rfl)⟩) g hK (by decide) (by decide) (fx' := [(0, 10, a0_, .int x_103), (0, 8, a0_, .int y_55), (8, 6, q0_, .int 1201), (8, 8, q0_, .int x_40), (0, 4, a0_, .ref a_37), (0, 12, a0_, .int 0), (0, 3, a0_, .ref g76_0_3_a0_), (0, 0, a0_, .ref q0_), (0, 2, a0_, .ref q1_)]) rfl (fun fr_108 H locs hp hMr_108 g => ?_)
                                          obtain ⟨x_109, h_110, hF_111⟩ := hp
                                          have g := g.more hF_111
                                          refine lv_aload_n hx hb dX0_closeParts_162 rfl (lv_at hl 5 rfl) ?_
                                          refine g_getk (C := RX0) (T := TX0) (N := 14) hx hb hts (mc_ inX0) hown hK g rfl 2 (by decide) rfl (hts _ (List.mem_cons_of_mem _ t_375)) (fun _ h9 => h9) 9 rfl dX0_closeParts_163 ?_
                                          refine lv_aload_n hx hb dX0_closeParts_166 rfl (lv_at hl 5 rfl) ?_
                                          refine g_getr (K := 112) (C := RX0) (T := TX0) (N := 14) hx hb hts (mc_ inX0) hown hK g ma0_ ka0_ (by decide) rfl 5 (by decide) rfl (hts _ (List.mem_cons_of_mem _ t_378)) (fun _ h9 => h9) rfl dX0_closeParts_167 (fun a_112 ma_112 ka_112 g => ?_)
                                          refine lv_aload_n hx hb dX0_closeParts_170 rfl (lv_at hl 5 rfl) ?_
                                          refine g_getk (C := RX0) (T := TX0) (N := 14) hx hb hts (mc_ inX0) hown hK g rfl 8 (by decide) rfl (hts _ (List.mem_cons_of_mem _ t_381)) (fun _ h9 => h9) 3 rfl dX0_closeParts_171 ?_
                                          refine g_iald hx hb hK g ma_112 ka_112 (by decide) rfl (in_bd b_56 (by decide)) dX0_closeParts_174 (fun x_113 bx_113 cx_113 => ?_)
                                          refine g_callv (va_runV (As := [.int x_113]) (rest := []) ⟨hx, hb, hml, hown, hts⟩ (r_X7_leadHere l dC dI L kd tys fr_108 H.size g.2.2.2.1 q1_ mq1_ kq1_ x_113) (cwV 1 hts (gV_ t_1207 t_1208 t_1209 t_191 t_1210) rfl rfl rfl (by decide +kernel) ⟨(Nat.le_of_ble_eq_true rfl), (Nat.le_of_ble_eq_true rfl)⟩) (pre3V g hK mq1_ kq1_ (by decide) (q := (RX7, TX7, 19)) rfl) rfl rfl hl.1 rfl (lv_room (Nat.le_of_ble_eq_true rfl)) dX0_closeParts_175 ⟨(Nat.le_of_ble_eq_true rfl), (Nat.le_of_ble_eq_true rfl)⟩) g hK (by decide) (by decide) (fx' := [(0, 5, a0_, .ref a_112), (7, 6, q1_, .int x_109), (0, 10, a0_, .int x_103), (0, 8, a0_, .int y_55), (8, 6, q0_, .int 1201), (8, 8, q0_, .int x_40), (0, 4, a0_, .ref a_37), (0, 12, a0_, .int 0), (0, 3, a0_, .ref g76_0_3_a0_), (0, 0, a0_, .ref q0_), (0, 2, a0_, .ref q1_)]) rfl (fun fr_114 H locs hp hMr_114 g => ?_)
                                          refine lv_goto (tgt := 191) hx hb dX0_closeParts_178 (by decide) ?_
                                          refine lv_iconst (v := 1) hx hb dX0_closeParts_191 (by decide) ?_
                                          refine lv_iload hx hb dX0_closeParts_192 (lv_at hl 2 rfl) ?_
                                          refine lv_if_eq (tgt := 202) hx hb dX0_closeParts_194 (by decide) (fun c_ => ?_) (fun c_ => absurd (by decide) c_)
                                          refine lv_iload hx hb dX0_closeParts_202 (lv_at hl 0 rfl) ?_
                                          refine lv_aload_n hx hb dX0_closeParts_204 rfl (lv_at hl 5 rfl) ?_
                                          refine g_calli (va_runV (As := []) (rest := [.int r_102, .int 1]) ⟨hx, hb, hml, hown, hts⟩ (r_X0_takeHeight l dC dI L kd tys fr_114 H.size g.2.2.2.1 a0_ ma0_ ka0_) (cwV 0 hts (gV_ t_1199 t_1201 t_16 t_190 t_1202) rfl rfl rfl (by decide +kernel) ⟨(Nat.le_of_ble_eq_true rfl), (Nat.le_of_ble_eq_true rfl)⟩) (pre3V g hK ma0_ ka0_ (by decide) (q := (RX0, TX0, 14)) rfl) rfl rfl hl.1 rfl (lv_room (Nat.le_of_ble_eq_true rfl)) dX0_closeParts_205 ⟨(Nat.le_of_ble_eq_true rfl), (Nat.le_of_ble_eq_true rfl)⟩) g hK (by decide) (by decide) (fx' := [(0, 5, a0_, .ref a_112), (7, 6, q1_, .int x_109), (0, 8, a0_, .int y_55), (8, 6, q0_, .int 1201), (8, 8, q0_, .int x_40), (0, 4, a0_, .ref a_37), (0, 12, a0_, .int 0), (0, 3, a0_, .ref g76_0_3_a0_), (0, 0, a0_, .ref q0_), (0, 2, a0_, .ref q1_)]) rfl (fun r_115 fr_115 H locs hp hMr_115 g => ?_)
                                          obtain ⟨x_116, h_117, hF_118⟩ := hp
                                          have g := g.more hF_118
                                          refine va_mmax hx hb (hml.trans hl.1.symm) hown (hts _ (List.mem_cons_of_mem _ t_1194)) (hts _ (List.mem_cons_of_mem _ t_1041)) (hts _ (List.mem_cons_of_mem _ t_204)) (hts _ (List.mem_cons_of_mem _ t_1042)) (Nat.le_of_ble_eq_true rfl) (Nat.le_of_ble_eq_true rfl) (Nat.le_of_ble_eq_true rfl) (Nat.le_of_ble_eq_true rfl) dX0_closeParts_208 ?_
                                          refine lv_topi (fun y_119 ey_119 => ?_)
                                          have ty_119 : y_119.toInt = max r_102.toInt r_115.toInt := by rw [ey_119]; exact mmax_ok _ _
                                          have b_120 : bd (-2147483648) 2147483647 y_119 := max_rg ty_119 (bdT r_102) (bdT r_115) (by decide)
                                          refine lv_iadd hx hb dX0_closeParts_211 ?_
                                          refine lv_topi (fun y_121 ey_121 => ?_)
                                          refine lv_istore (lv' := [(6, .int y_121), (2, .int 1), (5, .int 0), (4, .int x_57), (3, .int v4_3), (0, .ref a0_), (1, .int x1_)]) hx hb dX0_closeParts_212 hl (by decide) rfl (fun ls hl => ?_)
                                          refine lv_aload_n hx hb dX0_closeParts_214 rfl (lv_at hl 5 rfl) ?_
                                          refine lv_iload hx hb dX0_closeParts_215 (lv_at hl 0 rfl) ?_
                                          refine g_callv (va_runV (As := [.int y_121]) (rest := []) ⟨hx, hb, hml, hown, hts⟩ (r_X0_addWhole l dC dI L kd tys fr_115 H.size g.2.2.2.1 a0_ ma0_ ka0_ y_121) (cwV 1 hts (gV_ t_1211 t_1213 t_17 t_190 t_1214) rfl rfl rfl (by decide +kernel) ⟨(Nat.le_of_ble_eq_true rfl), (Nat.le_of_ble_eq_true rfl)⟩) (pre3V g hK ma0_ ka0_ (by decide) (q := (RX0, TX0, 14)) rfl) rfl rfl hl.1 rfl (lv_room (Nat.le_of_ble_eq_true rfl)) dX0_closeParts_217 ⟨(Nat.le_of_ble_eq_true rfl), (Nat.le_of_ble_eq_true rfl)⟩) g hK (by decide) (by decide) (fx' := [(0, 5, a0_, .ref a_112), (7, 6, q1_, .int x_109), (0, 8, a0_, .int y_55), (8, 6, q0_, .int 1201), (8, 8, q0_, .int x_40), (0, 4, a0_, .ref a_37), (0, 3, a0_, .ref g76_0_3_a0_), (0, 0, a0_, .ref q0_), (0, 2, a0_, .ref q1_)]) rfl (fun fr_122 H locs hp hMr_122 g => ?_)
                                          obtain ⟨x_123, h_124, hF_125⟩ := hp
                                          have g := g.more hF_125
                                          refine lv_iload hx hb dX0_closeParts_220 (lv_at hl 0 rfl) ?_
                                          refine lv_bipush (v := 12) hx hb dX0_closeParts_222 (by decide) ?_
                                          refine lv_icmp_le (tgt := 245) hx hb dX0_closeParts_224 (by decide) (fun c_126 => ?_) (fun c_126 => ?_)
                                          · have fc_126 := le_f c_126
                                            have b_127 : bd (-2147483648) 12 y_121 := leL fc_126 (bdT y_121) kb_12 (by decide)
                                            obtain ⟨y_128, ey_128⟩ : ∃ z : Int32, z = v4_3 + 1 := ⟨_, rfl⟩
                                            refine lv_iinc (v := y_128) (lv' := [(3, .int y_128), (6, .int y_121), (2, .int 1), (5, .int 0), (4, .int x_57), (0, .ref a0_), (1, .int x1_)]) hx hb dX0_closeParts_245 hl (k := 4) rfl (by rw [ey_128]; rfl) (by decide) rfl (fun ls hl => ?_)
                                            have ty_128 := add_bd ey_128 b_48 kb_1 (by decide)
                                            have b_129 : bd 2 300 y_128 := add_rg ty_128 b_48 kb_1 (by decide)
                                            refine lv_goto (tgt := 4) hx hb dX0_closeParts_248 (by decide) ?_
                                            have hl9 := lv_sub hl [0, 1, 2, 3, 4, 5, 6] (by rfl : lv_pick [(3, .int y_128), (6, .int y_121), (2, .int 1), (5, .int 0), (4, .int x_57), (0, .ref a0_), (1, .int x1_)] [0, 1, 2, 3, 4, 5, 6] = [(3, .int y_128), (6, .int y_121), (2, .int 1), (5, .int 0), (4, .int x_57), (0, .ref a0_), (1, .int x1_)])
                                            have g9 := g.sub (fx' := [(8, 6, q0_, .int 1201), (8, 8, q0_, .int x_40), (0, 4, a0_, .ref a_37), (0, 12, a0_, .int 0), (0, 10, a0_, .int x_123), (7, 6, q1_, .int x_109), (0, 8, a0_, .int y_55), (0, 3, a0_, .ref g76_0_3_a0_), (0, 0, a0_, .ref q0_), (0, 2, a0_, .ref q1_)]) [5, 6, 7, 0, 1, 3, 4, 8, 9, 10] rfl
                                            exact ih4  y_128 y_121 1 0 x_57 x_123 x_109 y_55 (bd_sub b_129 (by decide)) (bd_sub kb_1 (by decide)) (bd_sub kb_0 (by decide)) h_124 h_110 (bd_sub b_56 (by decide)) (by have h9_0 := b_107; unfold bd at h9_0; have h9_1 := b_127; unfold bd at h9_1; have h9_2 := b_129; unfold bd at h9_2; have h9_3 := b_56; unfold bd at h9_3; have h9_4 := bdT v4_4; unfold bd at h9_4; have h9_5 := bdT v4_6; unfold bd at h9_5; have h9_6 := bv4_2; unfold bd at h9_6; have h9_7 := bv4_3; unfold bd at h9_7; have h9_8 := bv4_5; unfold bd at h9_8; have h9_9 := bw4_0_10_a0_; unfold bd at h9_9; have h9_10 := bw4_0_8_a0_; unfold bd at h9_10; have h9_11 := bw4_7_6_q1_; unfold bd at h9_11; have h9_12 := h_110; unfold bd at h9_12; have h9_13 := h_124; unfold bd at h9_13; have h9_14 := kb_0; unfold bd at h9_14; have h9_15 := kb_1; unfold bd at h9_15; have h9_16 := kb_12; unfold bd at h9_16; have h9_17 := kb_205; unfold bd at h9_17; have h9_18 := kb_300; unfold bd at h9_18; have h9_19 := kb_6; unfold bd at h9_19; have h9_20 := kb_7; unfold bd at h9_20; omega) _ _ _ _ g9  hl9
                                          · have fc_126 := nle_f c_126
                                            have b_130 : bd 13 2147483647 y_121 := ltR fc_126 kb_12 (bdT y_121) (by decide)
                                            refine lv_aload_n hx hb dX0_closeParts_227 rfl (lv_at hl 5 rfl) ?_
                                            refine g_getk (C := RX0) (T := TX0) (N := 14) hx hb hts (mc_ inX0) hown hK g rfl 0 (by decide) rfl (hts _ (List.mem_cons_of_mem _ t_373)) (fun _ h9 => h9) 9 rfl dX0_closeParts_228 ?_
                                            refine lv_bipush (v := 7) hx hb dX0_closeParts_231 (by decide) ?_
                                            refine lv_aload_n hx hb dX0_closeParts_233 rfl (lv_at hl 5 rfl) ?_
                                            refine g_getk (C := RX0) (T := TX0) (N := 14) hx hb hts (mc_ inX0) hown hK g rfl 4 (by decide) rfl (hts _ (List.mem_cons_of_mem _ t_377)) (fun _ h9 => h9) 7 rfl dX0_closeParts_234 ?_
                                            refine lv_aload_n hx hb dX0_closeParts_237 rfl (lv_at hl 5 rfl) ?_
                                            refine g_getk (C := RX0) (T := TX0) (N := 14) hx hb hts (mc_ inX0) hown hK g rfl 8 (by decide) rfl (hts _ (List.mem_cons_of_mem _ t_381)) (fun _ h9 => h9) 4 rfl dX0_closeParts_238 ?_
                                            refine g_iald hx hb hK g ma_37 ka_37 (by decide) rfl (in_bd b_56 (by decide)) dX0_closeParts_241 (fun x_131 bx_131 cx_131 => ?_)
                                            refine g_callv (va_runV (As := [.int 7, .int x_131]) (rest := []) ⟨hx, hb, hml, hown, hts⟩ (r_X8_fail_2 l dC dI L kd tys fr_122 H.size g.2.2.2.1 q0_ mq0_ kq0_ 7 (bd_sub kb_7 (by decide)) x_131 x_40 h_41 (g.fcts [6] rfl)) (cwV 2 hts (gV_ t_1215 t_1107 t_1108 t_184 t_1109) rfl rfl rfl (by decide +kernel) ⟨(Nat.le_of_ble_eq_true rfl), (Nat.le_of_ble_eq_true rfl)⟩) (pre3V g hK mq0_ kq0_ (by decide) (q := (RX8, TX8, 10)) rfl) rfl rfl hl.1 rfl (lv_room (Nat.le_of_ble_eq_true rfl)) dX0_closeParts_242 ⟨(Nat.le_of_ble_eq_true rfl), (Nat.le_of_ble_eq_true rfl)⟩) g hK (by decide) (by decide) (fx' := [(0, 12, a0_, .int 0), (0, 10, a0_, .int x_123), (0, 5, a0_, .ref a_112), (7, 6, q1_, .int x_109), (0, 8, a0_, .int y_55), (8, 8, q0_, .int x_40), (0, 4, a0_, .ref a_37), (0, 3, a0_, .ref g76_0_3_a0_), (0, 0, a0_, .ref q0_), (0, 2, a0_, .ref q1_)]) rfl (fun fr_132 H locs hp hMr_132 g => ?_)
                                            have hF_133 := hp
                                            have g := g.more hF_133
                                            obtain ⟨y_134, ey_134⟩ : ∃ z : Int32, z = v4_3 + 1 := ⟨_, rfl⟩
                                            refine lv_iinc (v := y_134) (lv' := [(3, .int y_134), (6, .int y_121), (2, .int 1), (5, .int 0), (4, .int x_57), (0, .ref a0_), (1, .int x1_)]) hx hb dX0_closeParts_245 hl (k := 4) rfl (by rw [ey_134]; rfl) (by decide) rfl (fun ls hl => ?_)
                                            have ty_134 := add_bd ey_134 b_48 kb_1 (by decide)
                                            have b_135 : bd 2 300 y_134 := add_rg ty_134 b_48 kb_1 (by decide)
                                            refine lv_goto (tgt := 4) hx hb dX0_closeParts_248 (by decide) ?_
                                            have hl9 := lv_sub hl [0, 1, 2, 3, 4, 5, 6] (by rfl : lv_pick [(3, .int y_134), (6, .int y_121), (2, .int 1), (5, .int 0), (4, .int x_57), (0, .ref a0_), (1, .int x1_)] [0, 1, 2, 3, 4, 5, 6] = [(3, .int y_134), (6, .int y_121), (2, .int 1), (5, .int 0), (4, .int x_57), (0, .ref a0_), (1, .int x1_)])
                                            have g9 := g.sub (fx' := [(8, 6, q0_, .int 1201), (8, 8, q0_, .int x_40), (0, 4, a0_, .ref a_37), (0, 12, a0_, .int 0), (0, 10, a0_, .int x_123), (7, 6, q1_, .int x_109), (0, 8, a0_, .int y_55), (0, 3, a0_, .ref g76_0_3_a0_), (0, 0, a0_, .ref q0_), (0, 2, a0_, .ref q1_)]) [0, 6, 7, 1, 2, 4, 5, 8, 9, 10] rfl
                                            exact ih4  y_134 y_121 1 0 x_57 x_123 x_109 y_55 (bd_sub b_135 (by decide)) (bd_sub kb_1 (by decide)) (bd_sub kb_0 (by decide)) h_124 h_110 (bd_sub b_56 (by decide)) (by have h9_0 := b_107; unfold bd at h9_0; have h9_1 := b_130; unfold bd at h9_1; have h9_2 := b_135; unfold bd at h9_2; have h9_3 := b_56; unfold bd at h9_3; have h9_4 := bdT v4_4; unfold bd at h9_4; have h9_5 := bdT v4_6; unfold bd at h9_5; have h9_6 := bv4_2; unfold bd at h9_6; have h9_7 := bv4_3; unfold bd at h9_7; have h9_8 := bv4_5; unfold bd at h9_8; have h9_9 := bw4_0_10_a0_; unfold bd at h9_9; have h9_10 := bw4_0_8_a0_; unfold bd at h9_10; have h9_11 := bw4_7_6_q1_; unfold bd at h9_11; have h9_12 := h_110; unfold bd at h9_12; have h9_13 := h_124; unfold bd at h9_13; have h9_14 := kb_0; unfold bd at h9_14; have h9_15 := kb_1; unfold bd at h9_15; have h9_16 := kb_12; unfold bd at h9_16; have h9_17 := kb_205; unfold bd at h9_17; have h9_18 := kb_300; unfold bd at h9_18; have h9_19 := kb_6; unfold bd at h9_19; have h9_20 := kb_7; unfold bd at h9_20; omega) _ _ _ _ g9  hl9
                                        · have fc_106 := neq_f c_106
                                          refine lv_iload hx hb dX0_closeParts_144 (lv_at hl 3 rfl) ?_
                                          refine lv_sipush (v := 206) hx hb dX0_closeParts_146 (by decide) ?_
                                          have kb_206 : bd 206 206 (206 : Int32) := ⟨by decide, by decide⟩
                                          refine lv_icmp_ne (tgt := 181) hx hb dX0_closeParts_149 (by decide) (fun c_136 => ?_) (fun c_136 => ?_)
                                          · have fc_136 := neq_f c_136
                                            refine lv_aload_n hx hb dX0_closeParts_181 rfl (lv_at hl 5 rfl) ?_
                                            refine g_getk (C := RX0) (T := TX0) (N := 14) hx hb hts (mc_ inX0) hown hK g rfl 2 (by decide) rfl (hts _ (List.mem_cons_of_mem _ t_375)) (fun _ h9 => h9) 9 rfl dX0_closeParts_182 ?_
                                            refine lv_iload hx hb dX0_closeParts_185 (lv_at hl 3 rfl) ?_
                                            refine lv_iconst (v := 0) hx hb dX0_closeParts_187 (by decide) ?_
                                            refine g_callv (va_runV (As := [.int x_57, .int 0]) (rest := []) ⟨hx, hb, hml, hown, hts⟩ (r_X7_emit l dC dI L kd tys fr_102 H.size g.2.2.2.1 q1_ mq1_ kq1_ x_57 0) (cwV 2 hts (gV_ t_1203 t_1204 t_1205 t_191 t_1206) rfl rfl rfl (by decide +kernel) ⟨(Nat.le_of_ble_eq_true rfl), (Nat.le_of_ble_eq_true rfl)⟩) (pre3V g hK mq1_ kq1_ (by decide) (q := (RX7, TX7, 19)) rfl) rfl rfl hl.1 rfl (lv_room (Nat.le_of_ble_eq_true rfl)) dX0_closeParts_188 ⟨(Nat.le_of_ble_eq_true rfl), (Nat.le_of_ble_eq_true rfl)⟩) g hK (by decide) (by decide) (fx' := [(0, 10, a0_, .int x_103), (0, 8, a0_, .int y_55), (8, 6, q0_, .int 1201), (8, 8, q0_, .int x_40), (0, 4, a0_, .ref a_37), (0, 12, a0_, .int 0), (0, 3, a0_, .ref g76_0_3_a0_), (0, 0, a0_, .ref q0_), (0, 2, a0_, .ref q1_)]) rfl (fun fr_137 H locs hp hMr_137 g => ?_)
                                            obtain ⟨x_138, h_139, hF_140⟩ := hp
                                            have g := g.more hF_140
                                            refine lv_iconst (v := 1) hx hb dX0_closeParts_191 (by decide) ?_
                                            refine lv_iload hx hb dX0_closeParts_192 (lv_at hl 2 rfl) ?_
                                            refine lv_if_eq (tgt := 202) hx hb dX0_closeParts_194 (by decide) (fun c_ => ?_) (fun c_ => absurd (by decide) c_)
                                            refine lv_iload hx hb dX0_closeParts_202 (lv_at hl 0 rfl) ?_
                                            refine lv_aload_n hx hb dX0_closeParts_204 rfl (lv_at hl 5 rfl) ?_
                                            refine g_calli (va_runV (As := []) (rest := [.int r_102, .int 1]) ⟨hx, hb, hml, hown, hts⟩ (r_X0_takeHeight l dC dI L kd tys fr_137 H.size g.2.2.2.1 a0_ ma0_ ka0_) (cwV 0 hts (gV_ t_1199 t_1201 t_16 t_190 t_1202) rfl rfl rfl (by decide +kernel) ⟨(Nat.le_of_ble_eq_true rfl), (Nat.le_of_ble_eq_true rfl)⟩) (pre3V g hK ma0_ ka0_ (by decide) (q := (RX0, TX0, 14)) rfl) rfl rfl hl.1 rfl (lv_room (Nat.le_of_ble_eq_true rfl)) dX0_closeParts_205 ⟨(Nat.le_of_ble_eq_true rfl), (Nat.le_of_ble_eq_true rfl)⟩) g hK (by decide) (by decide) (fx' := [(7, 6, q1_, .int x_138), (0, 8, a0_, .int y_55), (8, 6, q0_, .int 1201), (8, 8, q0_, .int x_40), (0, 4, a0_, .ref a_37), (0, 12, a0_, .int 0), (0, 3, a0_, .ref g76_0_3_a0_), (0, 0, a0_, .ref q0_), (0, 2, a0_, .ref q1_)]) rfl (fun r_141 fr_141 H locs hp hMr_141 g => ?_)
                                            obtain ⟨x_142, h_143, hF_144⟩ := hp
                                            have g := g.more hF_144
                                            refine va_mmax hx hb (hml.trans hl.1.symm) hown (hts _ (List.mem_cons_of_mem _ t_1194)) (hts _ (List.mem_cons_of_mem _ t_1041)) (hts _ (List.mem_cons_of_mem _ t_204)) (hts _ (List.mem_cons_of_mem _ t_1042)) (Nat.le_of_ble_eq_true rfl) (Nat.le_of_ble_eq_true rfl) (Nat.le_of_ble_eq_true rfl) (Nat.le_of_ble_eq_true rfl) dX0_closeParts_208 ?_
                                            refine lv_topi (fun y_145 ey_145 => ?_)
                                            have ty_145 : y_145.toInt = max r_102.toInt r_141.toInt := by rw [ey_145]; exact mmax_ok _ _
                                            have b_146 : bd (-2147483648) 2147483647 y_145 := max_rg ty_145 (bdT r_102) (bdT r_141) (by decide)
                                            refine lv_iadd hx hb dX0_closeParts_211 ?_
                                            refine lv_topi (fun y_147 ey_147 => ?_)
                                            refine lv_istore (lv' := [(6, .int y_147), (2, .int 1), (5, .int 0), (4, .int x_57), (3, .int v4_3), (0, .ref a0_), (1, .int x1_)]) hx hb dX0_closeParts_212 hl (by decide) rfl (fun ls hl => ?_)
                                            refine lv_aload_n hx hb dX0_closeParts_214 rfl (lv_at hl 5 rfl) ?_
                                            refine lv_iload hx hb dX0_closeParts_215 (lv_at hl 0 rfl) ?_
                                            refine g_callv (va_runV (As := [.int y_147]) (rest := []) ⟨hx, hb, hml, hown, hts⟩ (r_X0_addWhole l dC dI L kd tys fr_141 H.size g.2.2.2.1 a0_ ma0_ ka0_ y_147) (cwV 1 hts (gV_ t_1211 t_1213 t_17 t_190 t_1214) rfl rfl rfl (by decide +kernel) ⟨(Nat.le_of_ble_eq_true rfl), (Nat.le_of_ble_eq_true rfl)⟩) (pre3V g hK ma0_ ka0_ (by decide) (q := (RX0, TX0, 14)) rfl) rfl rfl hl.1 rfl (lv_room (Nat.le_of_ble_eq_true rfl)) dX0_closeParts_217 ⟨(Nat.le_of_ble_eq_true rfl), (Nat.le_of_ble_eq_true rfl)⟩) g hK (by decide) (by decide) (fx' := [(7, 6, q1_, .int x_138), (0, 8, a0_, .int y_55), (8, 6, q0_, .int 1201), (8, 8, q0_, .int x_40), (0, 4, a0_, .ref a_37), (0, 3, a0_, .ref g76_0_3_a0_), (0, 0, a0_, .ref q0_), (0, 2, a0_, .ref q1_)]) rfl (fun fr_148 H locs hp hMr_148 g => ?_)
                                            obtain ⟨x_149, h_150, hF_151⟩ := hp
                                            have g := g.more hF_151
                                            refine lv_iload hx hb dX0_closeParts_220 (lv_at hl 0 rfl) ?_
                                            refine lv_bipush (v := 12) hx hb dX0_closeParts_222 (by decide) ?_
                                            refine lv_icmp_le (tgt := 245) hx hb dX0_closeParts_224 (by decide) (fun c_152 => ?_) (fun c_152 => ?_)
                                            · have fc_152 := le_f c_152
                                              have b_153 : bd (-2147483648) 12 y_147 := leL fc_152 (bdT y_147) kb_12 (by decide)
                                              obtain ⟨y_154, ey_154⟩ : ∃ z : Int32, z = v4_3 + 1 := ⟨_, rfl⟩
                                              refine lv_iinc (v := y_154) (lv' := [(3, .int y_154), (6, .int y_147), (2, .int 1), (5, .int 0), (4, .int x_57), (0, .ref a0_), (1, .int x1_)]) hx hb dX0_closeParts_245 hl (k := 4) rfl (by rw [ey_154]; rfl) (by decide) rfl (fun ls hl => ?_)
                                              have ty_154 := add_bd ey_154 b_48 kb_1 (by decide)
                                              have b_155 : bd 2 300 y_154 := add_rg ty_154 b_48 kb_1 (by decide)
                                              refine lv_goto (tgt := 4) hx hb dX0_closeParts_248 (by decide) ?_
                                              have hl9 := lv_sub hl [0, 1, 2, 3, 4, 5, 6] (by rfl : lv_pick [(3, .int y_154), (6, .int y_147), (2, .int 1), (5, .int 0), (4, .int x_57), (0, .ref a0_), (1, .int x1_)] [0, 1, 2, 3, 4, 5, 6] = [(3, .int y_154), (6, .int y_147), (2, .int 1), (5, .int 0), (4, .int x_57), (0, .ref a0_), (1, .int x1_)])
                                              have g9 := g.sub (fx' := [(8, 6, q0_, .int 1201), (8, 8, q0_, .int x_40), (0, 4, a0_, .ref a_37), (0, 12, a0_, .int 0), (0, 10, a0_, .int x_149), (7, 6, q1_, .int x_138), (0, 8, a0_, .int y_55), (0, 3, a0_, .ref g76_0_3_a0_), (0, 0, a0_, .ref q0_), (0, 2, a0_, .ref q1_)]) [4, 5, 6, 0, 1, 2, 3, 7, 8, 9] rfl
                                              exact ih4  y_154 y_147 1 0 x_57 x_149 x_138 y_55 (bd_sub b_155 (by decide)) (bd_sub kb_1 (by decide)) (bd_sub kb_0 (by decide)) h_150 h_139 (bd_sub b_56 (by decide)) (by have h9_0 := b_153; unfold bd at h9_0; have h9_1 := b_155; unfold bd at h9_1; have h9_2 := b_56; unfold bd at h9_2; have h9_3 := bdT v4_4; unfold bd at h9_3; have h9_4 := bdT v4_6; unfold bd at h9_4; have h9_5 := bdT x_57; unfold bd at h9_5; have h9_6 := bv4_2; unfold bd at h9_6; have h9_7 := bv4_3; unfold bd at h9_7; have h9_8 := bv4_5; unfold bd at h9_8; have h9_9 := bw4_0_10_a0_; unfold bd at h9_9; have h9_10 := bw4_0_8_a0_; unfold bd at h9_10; have h9_11 := bw4_7_6_q1_; unfold bd at h9_11; have h9_12 := h_139; unfold bd at h9_12; have h9_13 := h_150; unfold bd at h9_13; have h9_14 := kb_0; unfold bd at h9_14; have h9_15 := kb_1; unfold bd at h9_15; have h9_16 := kb_12; unfold bd at h9_16; have h9_17 := kb_205; unfold bd at h9_17; have h9_18 := kb_206; unfold bd at h9_18; have h9_19 := kb_300; unfold bd at h9_19; have h9_20 := kb_6; unfold bd at h9_20; have h9_21 := kb_7; unfold bd at h9_21; omega) _ _ _ _ g9  hl9
                                            · have fc_152 := nle_f c_152
                                              have b_156 : bd 13 2147483647 y_147 := ltR fc_152 kb_12 (bdT y_147) (by decide)
                                              refine lv_aload_n hx hb dX0_closeParts_227 rfl (lv_at hl 5 rfl) ?_
                                              refine g_getk (C := RX0) (T := TX0) (N := 14) hx hb hts (mc_ inX0) hown hK g rfl 0 (by decide) rfl (hts _ (List.mem_cons_of_mem _ t_373)) (fun _ h9 => h9) 8 rfl dX0_closeParts_228 ?_
                                              refine lv_bipush (v := 7) hx hb dX0_closeParts_231 (by decide) ?_
                                              refine lv_aload_n hx hb dX0_closeParts_233 rfl (lv_at hl 5 rfl) ?_
                                              refine g_getk (C := RX0) (T := TX0) (N := 14) hx hb hts (mc_ inX0) hown hK g rfl 4 (by decide) rfl (hts _ (List.mem_cons_of_mem _ t_377)) (fun _ h9 => h9) 6 rfl dX0_closeParts_234 ?_
                                              refine lv_aload_n hx hb dX0_closeParts_237 rfl (lv_at hl 5 rfl) ?_
                                              refine g_getk (C := RX0) (T := TX0) (N := 14) hx hb hts (mc_ inX0) hown hK g rfl 8 (by decide) rfl (hts _ (List.mem_cons_of_mem _ t_381)) (fun _ h9 => h9) 3 rfl dX0_closeParts_238 ?_
                                              refine g_iald hx hb hK g ma_37 ka_37 (by decide) rfl (in_bd b_56 (by decide)) dX0_closeParts_241 (fun x_157 bx_157 cx_157 => ?_)
                                              refine g_callv (va_runV (As := [.int 7, .int x_157]) (rest := []) ⟨hx, hb, hml, hown, hts⟩ (r_X8_fail_2 l dC dI L kd tys fr_148 H.size g.2.2.2.1 q0_ mq0_ kq0_ 7 (bd_sub kb_7 (by decide)) x_157 x_40 h_41 (g.fcts [5] rfl)) (cwV 2 hts (gV_ t_1215 t_1107 t_1108 t_184 t_1109) rfl rfl rfl (by decide +kernel) ⟨(Nat.le_of_ble_eq_true rfl), (Nat.le_of_ble_eq_true rfl)⟩) (pre3V g hK mq0_ kq0_ (by decide) (q := (RX8, TX8, 10)) rfl) rfl rfl hl.1 rfl (lv_room (Nat.le_of_ble_eq_true rfl)) dX0_closeParts_242 ⟨(Nat.le_of_ble_eq_true rfl), (Nat.le_of_ble_eq_true rfl)⟩) g hK (by decide) (by decide) (fx' := [(0, 12, a0_, .int 0), (0, 10, a0_, .int x_149), (7, 6, q1_, .int x_138), (0, 8, a0_, .int y_55), (8, 8, q0_, .int x_40), (0, 4, a0_, .ref a_37), (0, 3, a0_, .ref g76_0_3_a0_), (0, 0, a0_, .ref q0_), (0, 2, a0_, .ref q1_)]) rfl (fun fr_158 H locs hp hMr_158 g => ?_)
                                              have hF_159 := hp
                                              have g := g.more hF_159
                                              obtain ⟨y_160, ey_160⟩ : ∃ z : Int32, z = v4_3 + 1 := ⟨_, rfl⟩
                                              refine lv_iinc (v := y_160) (lv' := [(3, .int y_160), (6, .int y_147), (2, .int 1), (5, .int 0), (4, .int x_57), (0, .ref a0_), (1, .int x1_)]) hx hb dX0_closeParts_245 hl (k := 4) rfl (by rw [ey_160]; rfl) (by decide) rfl (fun ls hl => ?_)
                                              have ty_160 := add_bd ey_160 b_48 kb_1 (by decide)
                                              have b_161 : bd 2 300 y_160 := add_rg ty_160 b_48 kb_1 (by decide)
                                              refine lv_goto (tgt := 4) hx hb dX0_closeParts_248 (by decide) ?_
                                              have hl9 := lv_sub hl [0, 1, 2, 3, 4, 5, 6] (by rfl : lv_pick [(3, .int y_160), (6, .int y_147), (2, .int 1), (5, .int 0), (4, .int x_57), (0, .ref a0_), (1, .int x1_)] [0, 1, 2, 3, 4, 5, 6] = [(3, .int y_160), (6, .int y_147), (2, .int 1), (5, .int 0), (4, .int x_57), (0, .ref a0_), (1, .int x1_)])
                                              have g9 := g.sub (fx' := [(8, 6, q0_, .int 1201), (8, 8, q0_, .int x_40), (0, 4, a0_, .ref a_37), (0, 12, a0_, .int 0), (0, 10, a0_, .int x_149), (7, 6, q1_, .int x_138), (0, 8, a0_, .int y_55), (0, 3, a0_, .ref g76_0_3_a0_), (0, 0, a0_, .ref q0_), (0, 2, a0_, .ref q1_)]) [0, 5, 6, 1, 2, 3, 4, 7, 8, 9] rfl
                                              exact ih4  y_160 y_147 1 0 x_57 x_149 x_138 y_55 (bd_sub b_161 (by decide)) (bd_sub kb_1 (by decide)) (bd_sub kb_0 (by decide)) h_150 h_139 (bd_sub b_56 (by decide)) (by have h9_0 := b_156; unfold bd at h9_0; have h9_1 := b_161; unfold bd at h9_1; have h9_2 := b_56; unfold bd at h9_2; have h9_3 := bdT v4_4; unfold bd at h9_3; have h9_4 := bdT v4_6; unfold bd at h9_4; have h9_5 := bdT x_57; unfold bd at h9_5; have h9_6 := bv4_2; unfold bd at h9_6; have h9_7 := bv4_3; unfold bd at h9_7; have h9_8 := bv4_5; unfold bd at h9_8; have h9_9 := bw4_0_10_a0_; unfold bd at h9_9; have h9_10 := bw4_0_8_a0_; unfold bd at h9_10; have h9_11 := bw4_7_6_q1_; unfold bd at h9_11; have h9_12 := h_139; unfold bd at h9_12; have h9_13 := h_150; unfold bd at h9_13; have h9_14 := kb_0; unfold bd at h9_14; have h9_15 := kb_1; unfold bd at h9_15; have h9_16 := kb_12; unfold bd at h9_16; have h9_17 := kb_205; unfold bd at h9_17; have h9_18 := kb_206; unfold bd at h9_18; have h9_19 := kb_300; unfold bd at h9_19; have h9_20 := kb_6; unfold bd at h9_20; have h9_21 := kb_7; unfold bd at h9_21; omega) _ _ _ _ g9  hl9
                                          · have fc_136 := eq_f c_136
                                            have b_162 : bd 206 206 x_57 := eqX fc_136 (bdT x_57) kb_206 (by decide)
                                            refine lv_aload_n hx hb dX0_closeParts_152 rfl (lv_at hl 5 rfl) ?_
                                            refine g_getk (C := RX0) (T := TX0) (N := 14) hx hb hts (mc_ inX0) hown hK g rfl 2 (by decide) rfl (hts _ (List.mem_cons_of_mem _ t_375)) (fun _ h9 => h9) 9 rfl dX0_closeParts_153 ?_
                                            refine lv_bipush (v := 8) hx hb dX0_closeParts_156 (by decide) ?_
                                            refine lv_iconst (v := 0) hx hb dX0_closeParts_158 (by decide) ?_
                                            refine g_callv (va_runV (As := [.int 8, .int 0]) (rest := []) ⟨hx, hb, hml, hown, hts⟩ (r_X7_emit l dC dI L kd tys fr_102 H.size g.2.2.2.1 q1_ mq1_ kq1_ 8 0) (cwV 2 hts (gV_ t_1203 t_1204 t_1205 t_191 t_1206) rfl rfl rfl (by decide +kernel) ⟨(Nat.le_of_ble_eq_true rfl), (Nat.le_of_ble_eq_true rfl)⟩) (pre3V g hK mq1_ kq1_ (by decide) (q := (RX7, TX7, 19)) rfl) rfl rfl hl.1 rfl (lv_room (Nat.le_of_ble_eq_true rfl)) dX0_closeParts_159 ⟨(Nat.le_of_ble_eq_true rfl), (Nat.le_of_ble_eq_true rfl)⟩) g hK (by decide) (by decide) (fx' := [(0, 10, a0_, .int x_103), (0, 8, a0_, .int y_55), (8, 6, q0_, .int 1201), (8, 8, q0_, .int x_40), (0, 4, a0_, .ref a_37), (0, 12, a0_, .int 0), (0, 3, a0_, .ref g76_0_3_a0_), (0, 0, a0_, .ref q0_), (0, 2, a0_, .ref q1_)]) rfl (fun fr_163 H locs hp hMr_163 g => ?_)
                                            obtain ⟨x_164, h_165, hF_166⟩ := hp
                                            have g := g.more hF_166
                                            refine lv_aload_n hx hb dX0_closeParts_162 rfl (lv_at hl 5 rfl) ?_
                                            refine g_getk (C := RX0) (T := TX0) (N := 14) hx hb hts (mc_ inX0) hown hK g rfl 2 (by decide) rfl (hts _ (List.mem_cons_of_mem _ t_375)) (fun _ h9 => h9) 9 rfl dX0_closeParts_163 ?_
                                            refine lv_aload_n hx hb dX0_closeParts_166 rfl (lv_at hl 5 rfl) ?_
                                            refine g_getr (K := 112) (C := RX0) (T := TX0) (N := 14) hx hb hts (mc_ inX0) hown hK g ma0_ ka0_ (by decide) rfl 5 (by decide) rfl (hts _ (List.mem_cons_of_mem _ t_378)) (fun _ h9 => h9) rfl dX0_closeParts_167 (fun a_167 ma_167 ka_167 g => ?_)
                                            refine lv_aload_n hx hb dX0_closeParts_170 rfl (lv_at hl 5 rfl) ?_
                                            refine g_getk (C := RX0) (T := TX0) (N := 14) hx hb hts (mc_ inX0) hown hK g rfl 8 (by decide) rfl (hts _ (List.mem_cons_of_mem _ t_381)) (fun _ h9 => h9) 3 rfl dX0_closeParts_171 ?_
                                            refine g_iald hx hb hK g ma_167 ka_167 (by decide) rfl (in_bd b_56 (by decide)) dX0_closeParts_174 (fun x_168 bx_168 cx_168 => ?_)
                                            refine g_callv (va_runV (As := [.int x_168]) (rest := []) ⟨hx, hb, hml, hown, hts⟩ (r_X7_leadHere l dC dI L kd tys fr_163 H.size g.2.2.2.1 q1_ mq1_ kq1_ x_168) (cwV 1 hts (gV_ t_1207 t_1208 t_1209 t_191 t_1210) rfl rfl rfl (by decide +kernel) ⟨(Nat.le_of_ble_eq_true rfl), (Nat.le_of_ble_eq_true rfl)⟩) (pre3V g hK mq1_ kq1_ (by decide) (q := (RX7, TX7, 19)) rfl) rfl rfl hl.1 rfl (lv_room (Nat.le_of_ble_eq_true rfl)) dX0_closeParts_175 ⟨(Nat.le_of_ble_eq_true rfl), (Nat.le_of_ble_eq_true rfl)⟩) g hK (by decide) (by decide) (fx' := [(0, 5, a0_, .ref a_167), (7, 6, q1_, .int x_164), (0, 10, a0_, .int x_103), (0, 8, a0_, .int y_55), (8, 6, q0_, .int 1201), (8, 8, q0_, .int x_40), (0, 4, a0_, .ref a_37), (0, 12, a0_, .int 0), (0, 3, a0_, .ref g76_0_3_a0_), (0, 0, a0_, .ref q0_), (0, 2, a0_, .ref q1_)]) rfl (fun fr_169 H locs hp hMr_169 g => ?_)
                                            refine lv_goto (tgt := 191) hx hb dX0_closeParts_178 (by decide) ?_
                                            refine lv_iconst (v := 1) hx hb dX0_closeParts_191 (by decide) ?_
                                            refine lv_iload hx hb dX0_closeParts_192 (lv_at hl 2 rfl) ?_
                                            refine lv_if_eq (tgt := 202) hx hb dX0_closeParts_194 (by decide) (fun c_ => ?_) (fun c_ => absurd (by decide) c_)
                                            refine lv_iload hx hb dX0_closeParts_202 (lv_at hl 0 rfl) ?_
                                            refine lv_aload_n hx hb dX0_closeParts_204 rfl (lv_at hl 5 rfl) ?_
                                            refine g_calli (va_runV (As := []) (rest := [.int r_102, .int 1]) ⟨hx, hb, hml, hown, hts⟩ (r_X0_takeHeight l dC dI L kd tys fr_169 H.size g.2.2.2.1 a0_ ma0_ ka0_) (cwV 0 hts (gV_ t_1199 t_1201 t_16 t_190 t_1202) rfl rfl rfl (by decide +kernel) ⟨(Nat.le_of_ble_eq_true rfl), (Nat.le_of_ble_eq_true rfl)⟩) (pre3V g hK ma0_ ka0_ (by decide) (q := (RX0, TX0, 14)) rfl) rfl rfl hl.1 rfl (lv_room (Nat.le_of_ble_eq_true rfl)) dX0_closeParts_205 ⟨(Nat.le_of_ble_eq_true rfl), (Nat.le_of_ble_eq_true rfl)⟩) g hK (by decide) (by decide) (fx' := [(0, 5, a0_, .ref a_167), (7, 6, q1_, .int x_164), (0, 8, a0_, .int y_55), (8, 6, q0_, .int 1201), (8, 8, q0_, .int x_40), (0, 4, a0_, .ref a_37), (0, 12, a0_, .int 0), (0, 3, a0_, .ref g76_0_3_a0_), (0, 0, a0_, .ref q0_), (0, 2, a0_, .ref q1_)]) rfl (fun r_170 fr_170 H locs hp hMr_170 g => ?_)
                                            obtain ⟨x_171, h_172, hF_173⟩ := hp
                                            have g := g.more hF_173
                                            refine va_mmax hx hb (hml.trans hl.1.symm) hown (hts _ (List.mem_cons_of_mem _ t_1194)) (hts _ (List.mem_cons_of_mem _ t_1041)) (hts _ (List.mem_cons_of_mem _ t_204)) (hts _ (List.mem_cons_of_mem _ t_1042)) (Nat.le_of_ble_eq_true rfl) (Nat.le_of_ble_eq_true rfl) (Nat.le_of_ble_eq_true rfl) (Nat.le_of_ble_eq_true rfl) dX0_closeParts_208 ?_
                                            refine lv_topi (fun y_174 ey_174 => ?_)
                                            have ty_174 : y_174.toInt = max r_102.toInt r_170.toInt := by rw [ey_174]; exact mmax_ok _ _
                                            have b_175 : bd (-2147483648) 2147483647 y_174 := max_rg ty_174 (bdT r_102) (bdT r_170) (by decide)
                                            refine lv_iadd hx hb dX0_closeParts_211 ?_
                                            refine lv_topi (fun y_176 ey_176 => ?_)
                                            refine lv_istore (lv' := [(6, .int y_176), (2, .int 1), (5, .int 0), (4, .int x_57), (3, .int v4_3), (0, .ref a0_), (1, .int x1_)]) hx hb dX0_closeParts_212 hl (by decide) rfl (fun ls hl => ?_)
                                            refine lv_aload_n hx hb dX0_closeParts_214 rfl (lv_at hl 5 rfl) ?_
                                            refine lv_iload hx hb dX0_closeParts_215 (lv_at hl 0 rfl) ?_
                                            refine g_callv (va_runV (As := [.int y_176]) (rest := []) ⟨hx, hb, hml, hown, hts⟩ (r_X0_addWhole l dC dI L kd tys fr_170 H.size g.2.2.2.1 a0_ ma0_ ka0_ y_176) (cwV 1 hts (gV_ t_1211 t_1213 t_17 t_190 t_1214) rfl rfl rfl (by decide +kernel) ⟨(Nat.le_of_ble_eq_true rfl), (Nat.le_of_ble_eq_true rfl)⟩) (pre3V g hK ma0_ ka0_ (by decide) (q := (RX0, TX0, 14)) rfl) rfl rfl hl.1 rfl (lv_room (Nat.le_of_ble_eq_true rfl)) dX0_closeParts_217 ⟨(Nat.le_of_ble_eq_true rfl), (Nat.le_of_ble_eq_true rfl)⟩) g hK (by decide) (by decide) (fx' := [(0, 5, a0_, .ref a_167), (7, 6, q1_, .int x_164), (0, 8, a0_, .int y_55), (8, 6, q0_, .int 1201), (8, 8, q0_, .int x_40), (0, 4, a0_, .ref a_37), (0, 3, a0_, .ref g76_0_3_a0_), (0, 0, a0_, .ref q0_), (0, 2, a0_, .ref q1_)]) rfl (fun fr_177 H locs hp hMr_177 g => ?_)
                                            obtain ⟨x_178, h_179, hF_180⟩ := hp
                                            have g := g.more hF_180
                                            refine lv_iload hx hb dX0_closeParts_220 (lv_at hl 0 rfl) ?_
                                            refine lv_bipush (v := 12) hx hb dX0_closeParts_222 (by decide) ?_
                                            refine lv_icmp_le (tgt := 245) hx hb dX0_closeParts_224 (by decide) (fun c_181 => ?_) (fun c_181 => ?_)
                                            · have fc_181 := le_f c_181
                                              have b_182 : bd (-2147483648) 12 y_176 := leL fc_181 (bdT y_176) kb_12 (by decide)
                                              obtain ⟨y_183, ey_183⟩ : ∃ z : Int32, z = v4_3 + 1 := ⟨_, rfl⟩
                                              refine lv_iinc (v := y_183) (lv' := [(3, .int y_183), (6, .int y_176), (2, .int 1), (5, .int 0), (4, .int x_57), (0, .ref a0_), (1, .int x1_)]) hx hb dX0_closeParts_245 hl (k := 4) rfl (by rw [ey_183]; rfl) (by decide) rfl (fun ls hl => ?_)
                                              have ty_183 := add_bd ey_183 b_48 kb_1 (by decide)
                                              have b_184 : bd 2 300 y_183 := add_rg ty_183 b_48 kb_1 (by decide)
                                              refine lv_goto (tgt := 4) hx hb dX0_closeParts_248 (by decide) ?_
                                              have hl9 := lv_sub hl [0, 1, 2, 3, 4, 5, 6] (by rfl : lv_pick [(3, .int y_183), (6, .int y_176), (2, .int 1), (5, .int 0), (4, .int x_57), (0, .ref a0_), (1, .int x1_)] [0, 1, 2, 3, 4, 5, 6] = [(3, .int y_183), (6, .int y_176), (2, .int 1), (5, .int 0), (4, .int x_57), (0, .ref a0_), (1, .int x1_)])
                                              have g9 := g.sub (fx' := [(8, 6, q0_, .int 1201), (8, 8, q0_, .int x_40), (0, 4, a0_, .ref a_37), (0, 12, a0_, .int 0), (0, 10, a0_, .int x_178), (7, 6, q1_, .int x_164), (0, 8, a0_, .int y_55), (0, 3, a0_, .ref g76_0_3_a0_), (0, 0, a0_, .ref q0_), (0, 2, a0_, .ref q1_)]) [5, 6, 7, 0, 1, 3, 4, 8, 9, 10] rfl
                                              exact ih4  y_183 y_176 1 0 x_57 x_178 x_164 y_55 (bd_sub b_184 (by decide)) (bd_sub kb_1 (by decide)) (bd_sub kb_0 (by decide)) h_179 h_165 (bd_sub b_56 (by decide)) (by have h9_0 := b_162; unfold bd at h9_0; have h9_1 := b_182; unfold bd at h9_1; have h9_2 := b_184; unfold bd at h9_2; have h9_3 := b_56; unfold bd at h9_3; have h9_4 := bdT v4_4; unfold bd at h9_4; have h9_5 := bdT v4_6; unfold bd at h9_5; have h9_6 := bv4_2; unfold bd at h9_6; have h9_7 := bv4_3; unfold bd at h9_7; have h9_8 := bv4_5; unfold bd at h9_8; have h9_9 := bw4_0_10_a0_; unfold bd at h9_9; have h9_10 := bw4_0_8_a0_; unfold bd at h9_10; have h9_11 := bw4_7_6_q1_; unfold bd at h9_11; have h9_12 := h_165; unfold bd at h9_12; have h9_13 := h_179; unfold bd at h9_13; have h9_14 := kb_0; unfold bd at h9_14; have h9_15 := kb_1; unfold bd at h9_15; have h9_16 := kb_12; unfold bd at h9_16; have h9_17 := kb_205; unfold bd at h9_17; have h9_18 := kb_206; unfold bd at h9_18; have h9_19 := kb_300; unfold bd at h9_19; have h9_20 := kb_6; unfold bd at h9_20; have h9_21 := kb_7; unfold bd at h9_21; omega) _ _ _ _ g9  hl9
                                            · have fc_181 := nle_f c_181
                                              have b_185 : bd 13 2147483647 y_176 := ltR fc_181 kb_12 (bdT y_176) (by decide)
                                              refine lv_aload_n hx hb dX0_closeParts_227 rfl (lv_at hl 5 rfl) ?_
                                              refine g_getk (C := RX0) (T := TX0) (N := 14) hx hb hts (mc_ inX0) hown hK g rfl 0 (by decide) rfl (hts _ (List.mem_cons_of_mem _ t_373)) (fun _ h9 => h9) 9 rfl dX0_closeParts_228 ?_
                                              refine lv_bipush (v := 7) hx hb dX0_closeParts_231 (by decide) ?_
                                              refine lv_aload_n hx hb dX0_closeParts_233 rfl (lv_at hl 5 rfl) ?_
                                              refine g_getk (C := RX0) (T := TX0) (N := 14) hx hb hts (mc_ inX0) hown hK g rfl 4 (by decide) rfl (hts _ (List.mem_cons_of_mem _ t_377)) (fun _ h9 => h9) 7 rfl dX0_closeParts_234 ?_
                                              refine lv_aload_n hx hb dX0_closeParts_237 rfl (lv_at hl 5 rfl) ?_
                                              refine g_getk (C := RX0) (T := TX0) (N := 14) hx hb hts (mc_ inX0) hown hK g rfl 8 (by decide) rfl (hts _ (List.mem_cons_of_mem _ t_381)) (fun _ h9 => h9) 4 rfl dX0_closeParts_238 ?_
                                              refine g_iald hx hb hK g ma_37 ka_37 (by decide) rfl (in_bd b_56 (by decide)) dX0_closeParts_241 (fun x_186 bx_186 cx_186 => ?_)
                                              refine g_callv (va_runV (As := [.int 7, .int x_186]) (rest := []) ⟨hx, hb, hml, hown, hts⟩ (r_X8_fail_2 l dC dI L kd tys fr_177 H.size g.2.2.2.1 q0_ mq0_ kq0_ 7 (bd_sub kb_7 (by decide)) x_186 x_40 h_41 (g.fcts [6] rfl)) (cwV 2 hts (gV_ t_1215 t_1107 t_1108 t_184 t_1109) rfl rfl rfl (by decide +kernel) ⟨(Nat.le_of_ble_eq_true rfl), (Nat.le_of_ble_eq_true rfl)⟩) (pre3V g hK mq0_ kq0_ (by decide) (q := (RX8, TX8, 10)) rfl) rfl rfl hl.1 rfl (lv_room (Nat.le_of_ble_eq_true rfl)) dX0_closeParts_242 ⟨(Nat.le_of_ble_eq_true rfl), (Nat.le_of_ble_eq_true rfl)⟩) g hK (by decide) (by decide) (fx' := [(0, 12, a0_, .int 0), (0, 10, a0_, .int x_178), (0, 5, a0_, .ref a_167), (7, 6, q1_, .int x_164), (0, 8, a0_, .int y_55), (8, 8, q0_, .int x_40), (0, 4, a0_, .ref a_37), (0, 3, a0_, .ref g76_0_3_a0_), (0, 0, a0_, .ref q0_), (0, 2, a0_, .ref q1_)]) rfl (fun fr_187 H locs hp hMr_187 g => ?_)
                                              have hF_188 := hp
                                              have g := g.more hF_188
                                              obtain ⟨y_189, ey_189⟩ : ∃ z : Int32, z = v4_3 + 1 := ⟨_, rfl⟩
                                              refine lv_iinc (v := y_189) (lv' := [(3, .int y_189), (6, .int y_176), (2, .int 1), (5, .int 0), (4, .int x_57), (0, .ref a0_), (1, .int x1_)]) hx hb dX0_closeParts_245 hl (k := 4) rfl (by rw [ey_189]; rfl) (by decide) rfl (fun ls hl => ?_)
                                              have ty_189 := add_bd ey_189 b_48 kb_1 (by decide)
                                              have b_190 : bd 2 300 y_189 := add_rg ty_189 b_48 kb_1 (by decide)
                                              refine lv_goto (tgt := 4) hx hb dX0_closeParts_248 (by decide) ?_
                                              have hl9 := lv_sub hl [0, 1, 2, 3, 4, 5, 6] (by rfl : lv_pick [(3, .int y_189), (6, .int y_176), (2, .int 1), (5, .int 0), (4, .int x_57), (0, .ref a0_), (1, .int x1_)] [0, 1, 2, 3, 4, 5, 6] = [(3, .int y_189), (6, .int y_176), (2, .int 1), (5, .int 0), (4, .int x_57), (0, .ref a0_), (1, .int x1_)])
                                              have g9 := g.sub (fx' := [(8, 6, q0_, .int 1201), (8, 8, q0_, .int x_40), (0, 4, a0_, .ref a_37), (0, 12, a0_, .int 0), (0, 10, a0_, .int x_178), (7, 6, q1_, .int x_164), (0, 8, a0_, .int y_55), (0, 3, a0_, .ref g76_0_3_a0_), (0, 0, a0_, .ref q0_), (0, 2, a0_, .ref q1_)]) [0, 6, 7, 1, 2, 4, 5, 8, 9, 10] rfl
                                              exact ih4  y_189 y_176 1 0 x_57 x_178 x_164 y_55 (bd_sub b_190 (by decide)) (bd_sub kb_1 (by decide)) (bd_sub kb_0 (by decide)) h_179 h_165 (bd_sub b_56 (by decide)) (by have h9_0 := b_162; unfold bd at h9_0; have h9_1 := b_185; unfold bd at h9_1; have h9_2 := b_190; unfold bd at h9_2; have h9_3 := b_56; unfold bd at h9_3; have h9_4 := bdT v4_4; unfold bd at h9_4; have h9_5 := bdT v4_6; unfold bd at h9_5; have h9_6 := bv4_2; unfold bd at h9_6; have h9_7 := bv4_3; unfold bd at h9_7; have h9_8 := bv4_5; unfold bd at h9_8; have h9_9 := bw4_0_10_a0_; unfold bd at h9_9; have h9_10 := bw4_0_8_a0_; unfold bd at h9_10; have h9_11 := bw4_7_6_q1_; unfold bd at h9_11; have h9_12 := h_165; unfold bd at h9_12; have h9_13 := h_179; unfold bd at h9_13; have h9_14 := kb_0; unfold bd at h9_14; have h9_15 := kb_1; unfold bd at h9_15; have h9_16 := kb_12; unfold bd at h9_16; have h9_17 := kb_205; unfold bd at h9_17; have h9_18 := kb_206; unfold bd at h9_18; have h9_19 := kb_300; unfold bd at h9_19; have h9_20 := kb_6; unfold bd at h9_20; have h9_21 := kb_7; unfold bd at h9_21; omega) _ _ _ _ g9  hl9
                                    · have b_191 : bd 37 206 x_57 := eqX rfl (bdT x_57) h_94 (by decide)
                                      refine lv_iload_n hx hb dX0_closeParts_66 rfl (lv_at hl 6 rfl) ?_
                                      refine lv_icmp_lt (tgt := 74) hx hb dX0_closeParts_67 (by decide) (fun c_192 => ?_) (fun c_192 => ?_)
                                      · have fc_192 := lt_f c_192
                                        have b_193 : bd 2 2147483647 x1_ := ltR fc_192 h_93 (bdT x1_) (by decide)
                                        refine lv_iconst (v := 0) hx hb dX0_closeParts_74 (by decide) ?_
                                        refine lv_istore_n (lv' := [(2, .int 0), (5, .int 0), (4, .int x_57), (3, .int v4_3), (6, .int v4_6), (0, .ref a0_), (1, .int x1_)]) hx hb dX0_closeParts_75 rfl hl (by decide) rfl (fun ls hl => ?_)
                                        refine lv_iload_n hx hb dX0_closeParts_76 rfl (lv_at hl 0 rfl) ?_
                                        refine lv_if_eq (tgt := 245) hx hb dX0_closeParts_77 (by decide) (fun c_ => ?_) (fun c_ => absurd (by decide) c_)
                                        obtain ⟨y_194, ey_194⟩ : ∃ z : Int32, z = v4_3 + 1 := ⟨_, rfl⟩
                                        refine lv_iinc (v := y_194) (lv' := [(3, .int y_194), (2, .int 0), (5, .int 0), (4, .int x_57), (6, .int v4_6), (0, .ref a0_), (1, .int x1_)]) hx hb dX0_closeParts_245 hl (k := 3) rfl (by rw [ey_194]; rfl) (by decide) rfl (fun ls hl => ?_)
                                        have ty_194 := add_bd ey_194 b_48 kb_1 (by decide)
                                        have b_195 : bd 2 300 y_194 := add_rg ty_194 b_48 kb_1 (by decide)
                                        refine lv_goto (tgt := 4) hx hb dX0_closeParts_248 (by decide) ?_
                                        have hl9 := lv_sub hl [0, 4, 1, 2, 3, 5, 6] (by rfl : lv_pick [(3, .int y_194), (2, .int 0), (5, .int 0), (4, .int x_57), (6, .int v4_6), (0, .ref a0_), (1, .int x1_)] [0, 4, 1, 2, 3, 5, 6] = [(3, .int y_194), (6, .int v4_6), (2, .int 0), (5, .int 0), (4, .int x_57), (0, .ref a0_), (1, .int x1_)])
                                        have g9 := g.sub (fx' := [(8, 6, q0_, .int 1201), (8, 8, q0_, .int x_40), (0, 4, a0_, .ref a_37), (0, 12, a0_, .int 0), (0, 10, a0_, .int w4_0_10_a0_), (7, 6, q1_, .int w4_7_6_q1_), (0, 8, a0_, .int w4_0_8_a0_), (0, 3, a0_, .ref g76_0_3_a0_), (0, 0, a0_, .ref q0_), (0, 2, a0_, .ref q1_)]) [0, 1, 2, 3, 4, 5, 6, 7, 8, 9] rfl
                                        exact ih4  y_194 v4_6 0 0 x_57 w4_0_10_a0_ w4_7_6_q1_ w4_0_8_a0_ (bd_sub b_195 (by decide)) (bd_sub kb_0 (by decide)) (bd_sub kb_0 (by decide)) bw4_0_10_a0_ bw4_7_6_q1_ (bd_sub b_54 (by decide)) (by have h9_0 := b_191; unfold bd at h9_0; have h9_1 := b_195; unfold bd at h9_1; have h9_2 := b_54; unfold bd at h9_2; have h9_3 := bdT v4_4; unfold bd at h9_3; have h9_4 := bdT v4_6; unfold bd at h9_4; have h9_5 := bv4_2; unfold bd at h9_5; have h9_6 := bv4_3; unfold bd at h9_6; have h9_7 := bv4_5; unfold bd at h9_7; have h9_8 := bw4_0_10_a0_; unfold bd at h9_8; have h9_9 := bw4_0_8_a0_; unfold bd at h9_9; have h9_10 := bw4_7_6_q1_; unfold bd at h9_10; have h9_11 := kb_0; unfold bd at h9_11; have h9_12 := kb_1; unfold bd at h9_12; have h9_13 := kb_12; unfold bd at h9_13; have h9_14 := kb_300; unfold bd at h9_14; have h9_15 := kb_6; unfold bd at h9_15; have h9_16 := kb_7; unfold bd at h9_16; omega) _ _ _ _ g9  hl9
                                      · have fc_192 := nlt_f c_192
                                        have b_196 : bd (-2147483648) 5 x1_ := leL fc_192 (bdT x1_) h_93 (by decide)
                                        refine lv_iconst (v := 1) hx hb dX0_closeParts_70 (by decide) ?_
                                        refine lv_goto (tgt := 75) hx hb dX0_closeParts_71 (by decide) ?_
                                        refine lv_istore_n (lv' := [(2, .int 1), (5, .int 0), (4, .int x_57), (3, .int v4_3), (6, .int v4_6), (0, .ref a0_), (1, .int x1_)]) hx hb dX0_closeParts_75 rfl hl (by decide) rfl (fun ls hl => ?_)
                                        refine lv_iload_n hx hb dX0_closeParts_76 rfl (lv_at hl 0 rfl) ?_
                                        refine lv_if_eq (tgt := 245) hx hb dX0_closeParts_77 (by decide) (fun c_ => absurd c_ (by decide)) (fun c_ => ?_)
                                        refine lv_aload_n hx hb dX0_closeParts_80 rfl (lv_at hl 5 rfl) ?_
                                        refine lv_dup hx hb dX0_closeParts_81 rfl ?_
                                        refine g_getk (C := RX0) (T := TX0) (N := 14) hx hb hts (mc_ inX0) hown hK g rfl 8 (by decide) rfl (hts _ (List.mem_cons_of_mem _ t_381)) (fun _ h9 => h9) 6 rfl dX0_closeParts_82 ?_
                                        refine lv_iconst (v := 1) hx hb dX0_closeParts_85 (by decide) ?_
                                        refine lv_isub hx hb dX0_closeParts_86 ?_
                                        refine lv_topi (fun y_197 ey_197 => ?_)
                                        obtain rfl : y_55 = y_197 := ey_55.trans ey_197.symm
                                        refine g_put (C := RX0) (T := TX0) (N := 14) hx hb hts (mc_ inX0) tyX0 tyX0_ok nmX0 hown hK g ma0_ ka0_ (by decide) rfl 8 (by decide) (hts _ (List.mem_cons_of_mem _ t_381)) (fun _ h9 => h9) rfl rfl (okV_i (bd_sub b_56 (by decide))) rfl rfl (by decide) (Or.inr (Or.inl (by decide))) (fx' := [(8, 6, q0_, .int 1201), (8, 8, q0_, .int x_40), (0, 4, a0_, .ref a_37), (0, 12, a0_, .int 0), (0, 10, a0_, .int w4_0_10_a0_), (7, 6, q1_, .int w4_7_6_q1_), (0, 3, a0_, .ref g76_0_3_a0_), (0, 0, a0_, .ref q0_), (0, 2, a0_, .ref q1_)]) rfl dX0_closeParts_87 (fun f H locs hM_198 g => ?_)
                                        refine lv_aload_n hx hb dX0_closeParts_90 rfl (lv_at hl 5 rfl) ?_
                                        refine g_calli (va_runV (As := []) (rest := []) ⟨hx, hb, hml, hown, hts⟩ (r_X0_takeHeight l dC dI L kd tys f H.size g.2.2.2.1 a0_ ma0_ ka0_) (cwV 0 hts (gV_ t_1199 t_1201 t_16 t_190 t_1202) rfl rfl rfl (by decide +kernel) ⟨(Nat.le_of_ble_eq_true rfl), (Nat.le_of_ble_eq_true rfl)⟩) (pre3V g hK ma0_ ka0_ (by decide) (q := (RX0, TX0, 14)) rfl) rfl rfl hl.1 rfl (lv_room (Nat.le_of_ble_eq_true rfl)) dX0_closeParts_91 ⟨(Nat.le_of_ble_eq_true rfl), (Nat.le_of_ble_eq_true rfl)⟩) g hK (by decide) (by decide) (fx' := [(0, 8, a0_, .int y_55), (8, 6, q0_, .int 1201), (8, 8, q0_, .int x_40), (0, 4, a0_, .ref a_37), (0, 12, a0_, .int 0), (7, 6, q1_, .int w4_7_6_q1_), (0, 3, a0_, .ref g76_0_3_a0_), (0, 0, a0_, .ref q0_), (0, 2, a0_, .ref q1_)]) rfl (fun r_199 fr_199 H locs hp hMr_199 g => ?_)
                                        obtain ⟨x_200, h_201, hF_202⟩ := hp
                                        have g := g.more hF_202
                                        refine lv_istore (lv' := [(6, .int r_199), (2, .int 1), (5, .int 0), (4, .int x_57), (3, .int v4_3), (0, .ref a0_), (1, .int x1_)]) hx hb dX0_closeParts_94 hl (by decide) rfl (fun ls hl => ?_)
                                        refine lv_iload hx hb dX0_closeParts_96 (lv_at hl 2 rfl) ?_
                                        refine lv_if_eq (tgt := 136) hx hb dX0_closeParts_98 (by decide) (fun c_ => ?_) (fun c_ => absurd (by decide) c_)
                                        refine lv_iload hx hb dX0_closeParts_136 (lv_at hl 3 rfl) ?_
                                        refine lv_sipush (v := 205) hx hb dX0_closeParts_138 (by decide) ?_
                                        have kb_205 : bd 205 205 (205 : Int32) := ⟨by decide, by decide⟩
                                        refine lv_icmp_eq (tgt := 152) hx hb dX0_closeParts_141 (by decide) (fun c_203 => ?_) (fun c_203 => ?_)
                                        · have fc_203 := eq_f c_203
                                          have b_204 : bd 205 205 x_57 := eqX fc_203 b_191 kb_205 (by decide)
                                          refine lv_aload_n hx hb dX0_closeParts_152 rfl (lv_at hl 5 rfl) ?_
                                          refine g_getk (C := RX0) (T := TX0) (N := 14) hx hb hts (mc_ inX0) hown hK g rfl 2 (by decide) rfl (hts _ (List.mem_cons_of_mem _ t_375)) (fun _ h9 => h9) 9 rfl dX0_closeParts_153 ?_
                                          refine lv_bipush (v := 8) hx hb dX0_closeParts_156 (by decide) ?_
                                          refine lv_iconst (v := 0) hx hb dX0_closeParts_158 (by decide) ?_
                                          refine g_callv (va_runV (As := [.int 8, .int 0]) (rest := []) ⟨hx, hb, hml, hown, hts⟩ (r_X7_emit l dC dI L kd tys fr_199 H.size g.2.2.2.1 q1_ mq1_ kq1_ 8 0) (cwV 2 hts (gV_ t_1203 t_1204 t_1205 t_191 t_1206) rfl rfl rfl (by decide +kernel) ⟨(Nat.le_of_ble_eq_true rfl), (Nat.le_of_ble_eq_true rfl)⟩) (pre3V g hK mq1_ kq1_ (by decide) (q := (RX7, TX7, 19)) rfl) rfl rfl hl.1 rfl (lv_room (Nat.le_of_ble_eq_true rfl)) dX0_closeParts_159 ⟨(Nat.le_of_ble_eq_true rfl), (Nat.le_of_ble_eq_true rfl)⟩) g hK (by decide) (by decide) (fx' := [(0, 10, a0_, .int x_200), (0, 8, a0_, .int y_55), (8, 6, q0_, .int 1201), (8, 8, q0_, .int x_40), (0, 4, a0_, .ref a_37), (0, 12, a0_, .int 0), (0, 3, a0_, .ref g76_0_3_a0_), (0, 0, a0_, .ref q0_), (0, 2, a0_, .ref q1_)]) rfl (fun fr_205 H locs hp hMr_205 g => ?_)
                                          obtain ⟨x_206, h_207, hF_208⟩ := hp
                                          have g := g.more hF_208
                                          refine lv_aload_n hx hb dX0_closeParts_162 rfl (lv_at hl 5 rfl) ?_
                                          refine g_getk (C := RX0) (T := TX0) (N := 14) hx hb hts (mc_ inX0) hown hK g rfl 2 (by decide) rfl (hts _ (List.mem_cons_of_mem _ t_375)) (fun _ h9 => h9) 9 rfl dX0_closeParts_163 ?_
                                          refine lv_aload_n hx hb dX0_closeParts_166 rfl (lv_at hl 5 rfl) ?_
                                          refine g_getr (K := 112) (C := RX0) (T := TX0) (N := 14) hx hb hts (mc_ inX0) hown hK g ma0_ ka0_ (by decide) rfl 5 (by decide) rfl (hts _ (List.mem_cons_of_mem _ t_378)) (fun _ h9 => h9) rfl dX0_closeParts_167 (fun a_209 ma_209 ka_209 g => ?_)
                                          refine lv_aload_n hx hb dX0_closeParts_170 rfl (lv_at hl 5 rfl) ?_
                                          refine g_getk (C := RX0) (T := TX0) (N := 14) hx hb hts (mc_ inX0) hown hK g rfl 8 (by decide) rfl (hts _ (List.mem_cons_of_mem _ t_381)) (fun _ h9 => h9) 3 rfl dX0_closeParts_171 ?_
                                          refine g_iald hx hb hK g ma_209 ka_209 (by decide) rfl (in_bd b_56 (by decide)) dX0_closeParts_174 (fun x_210 bx_210 cx_210 => ?_)
                                          refine g_callv (va_runV (As := [.int x_210]) (rest := []) ⟨hx, hb, hml, hown, hts⟩ (r_X7_leadHere l dC dI L kd tys fr_205 H.size g.2.2.2.1 q1_ mq1_ kq1_ x_210) (cwV 1 hts (gV_ t_1207 t_1208 t_1209 t_191 t_1210) rfl rfl rfl (by decide +kernel) ⟨(Nat.le_of_ble_eq_true rfl), (Nat.le_of_ble_eq_true rfl)⟩) (pre3V g hK mq1_ kq1_ (by decide) (q := (RX7, TX7, 19)) rfl) rfl rfl hl.1 rfl (lv_room (Nat.le_of_ble_eq_true rfl)) dX0_closeParts_175 ⟨(Nat.le_of_ble_eq_true rfl), (Nat.le_of_ble_eq_true rfl)⟩) g hK (by decide) (by decide) (fx' := [(0, 5, a0_, .ref a_209), (7, 6, q1_, .int x_206), (0, 10, a0_, .int x_200), (0, 8, a0_, .int y_55), (8, 6, q0_, .int 1201), (8, 8, q0_, .int x_40), (0, 4, a0_, .ref a_37), (0, 12, a0_, .int 0), (0, 3, a0_, .ref g76_0_3_a0_), (0, 0, a0_, .ref q0_), (0, 2, a0_, .ref q1_)]) rfl (fun fr_211 H locs hp hMr_211 g => ?_)
                                          refine lv_goto (tgt := 191) hx hb dX0_closeParts_178 (by decide) ?_
                                          refine lv_iconst (v := 1) hx hb dX0_closeParts_191 (by decide) ?_
                                          refine lv_iload hx hb dX0_closeParts_192 (lv_at hl 2 rfl) ?_
                                          refine lv_if_eq (tgt := 202) hx hb dX0_closeParts_194 (by decide) (fun c_ => ?_) (fun c_ => absurd (by decide) c_)
                                          refine lv_iload hx hb dX0_closeParts_202 (lv_at hl 0 rfl) ?_
                                          refine lv_aload_n hx hb dX0_closeParts_204 rfl (lv_at hl 5 rfl) ?_
                                          refine g_calli (va_runV (As := []) (rest := [.int r_199, .int 1]) ⟨hx, hb, hml, hown, hts⟩ (r_X0_takeHeight l dC dI L kd tys fr_211 H.size g.2.2.2.1 a0_ ma0_ ka0_) (cwV 0 hts (gV_ t_1199 t_1201 t_16 t_190 t_1202) rfl rfl rfl (by decide +kernel) ⟨(Nat.le_of_ble_eq_true rfl), (Nat.le_of_ble_eq_true rfl)⟩) (pre3V g hK ma0_ ka0_ (by decide) (q := (RX0, TX0, 14)) rfl) rfl rfl hl.1 rfl (lv_room (Nat.le_of_ble_eq_true rfl)) dX0_closeParts_205 ⟨(Nat.le_of_ble_eq_true rfl), (Nat.le_of_ble_eq_true rfl)⟩) g hK (by decide) (by decide) (fx' := [(0, 5, a0_, .ref a_209), (7, 6, q1_, .int x_206), (0, 8, a0_, .int y_55), (8, 6, q0_, .int 1201), (8, 8, q0_, .int x_40), (0, 4, a0_, .ref a_37), (0, 12, a0_, .int 0), (0, 3, a0_, .ref g76_0_3_a0_), (0, 0, a0_, .ref q0_), (0, 2, a0_, .ref q1_)]) rfl (fun r_212 fr_212 H locs hp hMr_212 g => ?_)
                                          obtain ⟨x_213, h_214, hF_215⟩ := hp
                                          have g := g.more hF_215
                                          refine va_mmax hx hb (hml.trans hl.1.symm) hown (hts _ (List.mem_cons_of_mem _ t_1194)) (hts _ (List.mem_cons_of_mem _ t_1041)) (hts _ (List.mem_cons_of_mem _ t_204)) (hts _ (List.mem_cons_of_mem _ t_1042)) (Nat.le_of_ble_eq_true rfl) (Nat.le_of_ble_eq_true rfl) (Nat.le_of_ble_eq_true rfl) (Nat.le_of_ble_eq_true rfl) dX0_closeParts_208 ?_
                                          refine lv_topi (fun y_216 ey_216 => ?_)
                                          have ty_216 : y_216.toInt = max r_199.toInt r_212.toInt := by rw [ey_216]; exact mmax_ok _ _
                                          have b_217 : bd (-2147483648) 2147483647 y_216 := max_rg ty_216 (bdT r_199) (bdT r_212) (by decide)
                                          refine lv_iadd hx hb dX0_closeParts_211 ?_
                                          refine lv_topi (fun y_218 ey_218 => ?_)
                                          refine lv_istore (lv' := [(6, .int y_218), (2, .int 1), (5, .int 0), (4, .int x_57), (3, .int v4_3), (0, .ref a0_), (1, .int x1_)]) hx hb dX0_closeParts_212 hl (by decide) rfl (fun ls hl => ?_)
                                          refine lv_aload_n hx hb dX0_closeParts_214 rfl (lv_at hl 5 rfl) ?_
                                          refine lv_iload hx hb dX0_closeParts_215 (lv_at hl 0 rfl) ?_
                                          refine g_callv (va_runV (As := [.int y_218]) (rest := []) ⟨hx, hb, hml, hown, hts⟩ (r_X0_addWhole l dC dI L kd tys fr_212 H.size g.2.2.2.1 a0_ ma0_ ka0_ y_218) (cwV 1 hts (gV_ t_1211 t_1213 t_17 t_190 t_1214) rfl rfl rfl (by decide +kernel) ⟨(Nat.le_of_ble_eq_true rfl), (Nat.le_of_ble_eq_true rfl)⟩) (pre3V g hK ma0_ ka0_ (by decide) (q := (RX0, TX0, 14)) rfl) rfl rfl hl.1 rfl (lv_room (Nat.le_of_ble_eq_true rfl)) dX0_closeParts_217 ⟨(Nat.le_of_ble_eq_true rfl), (Nat.le_of_ble_eq_true rfl)⟩) g hK (by decide) (by decide) (fx' := [(0, 5, a0_, .ref a_209), (7, 6, q1_, .int x_206), (0, 8, a0_, .int y_55), (8, 6, q0_, .int 1201), (8, 8, q0_, .int x_40), (0, 4, a0_, .ref a_37), (0, 3, a0_, .ref g76_0_3_a0_), (0, 0, a0_, .ref q0_), (0, 2, a0_, .ref q1_)]) rfl (fun fr_219 H locs hp hMr_219 g => ?_)
                                          obtain ⟨x_220, h_221, hF_222⟩ := hp
                                          have g := g.more hF_222
                                          refine lv_iload hx hb dX0_closeParts_220 (lv_at hl 0 rfl) ?_
                                          refine lv_bipush (v := 12) hx hb dX0_closeParts_222 (by decide) ?_
                                          refine lv_icmp_le (tgt := 245) hx hb dX0_closeParts_224 (by decide) (fun c_223 => ?_) (fun c_223 => ?_)
                                          · have fc_223 := le_f c_223
                                            have b_224 : bd (-2147483648) 12 y_218 := leL fc_223 (bdT y_218) kb_12 (by decide)
                                            obtain ⟨y_225, ey_225⟩ : ∃ z : Int32, z = v4_3 + 1 := ⟨_, rfl⟩
                                            refine lv_iinc (v := y_225) (lv' := [(3, .int y_225), (6, .int y_218), (2, .int 1), (5, .int 0), (4, .int x_57), (0, .ref a0_), (1, .int x1_)]) hx hb dX0_closeParts_245 hl (k := 4) rfl (by rw [ey_225]; rfl) (by decide) rfl (fun ls hl => ?_)
                                            have ty_225 := add_bd ey_225 b_48 kb_1 (by decide)
                                            have b_226 : bd 2 300 y_225 := add_rg ty_225 b_48 kb_1 (by decide)
                                            refine lv_goto (tgt := 4) hx hb dX0_closeParts_248 (by decide) ?_
                                            have hl9 := lv_sub hl [0, 1, 2, 3, 4, 5, 6] (by rfl : lv_pick [(3, .int y_225), (6, .int y_218), (2, .int 1), (5, .int 0), (4, .int x_57), (0, .ref a0_), (1, .int x1_)] [0, 1, 2, 3, 4, 5, 6] = [(3, .int y_225), (6, .int y_218), (2, .int 1), (5, .int 0), (4, .int x_57), (0, .ref a0_), (1, .int x1_)])
                                            have g9 := g.sub (fx' := [(8, 6, q0_, .int 1201), (8, 8, q0_, .int x_40), (0, 4, a0_, .ref a_37), (0, 12, a0_, .int 0), (0, 10, a0_, .int x_220), (7, 6, q1_, .int x_206), (0, 8, a0_, .int y_55), (0, 3, a0_, .ref g76_0_3_a0_), (0, 0, a0_, .ref q0_), (0, 2, a0_, .ref q1_)]) [5, 6, 7, 0, 1, 3, 4, 8, 9, 10] rfl
                                            exact ih4  y_225 y_218 1 0 x_57 x_220 x_206 y_55 (bd_sub b_226 (by decide)) (bd_sub kb_1 (by decide)) (bd_sub kb_0 (by decide)) h_221 h_207 (bd_sub b_56 (by decide)) (by have h9_0 := b_204; unfold bd at h9_0; have h9_1 := b_224; unfold bd at h9_1; have h9_2 := b_226; unfold bd at h9_2; have h9_3 := b_56; unfold bd at h9_3; have h9_4 := bdT v4_4; unfold bd at h9_4; have h9_5 := bdT v4_6; unfold bd at h9_5; have h9_6 := bv4_2; unfold bd at h9_6; have h9_7 := bv4_3; unfold bd at h9_7; have h9_8 := bv4_5; unfold bd at h9_8; have h9_9 := bw4_0_10_a0_; unfold bd at h9_9; have h9_10 := bw4_0_8_a0_; unfold bd at h9_10; have h9_11 := bw4_7_6_q1_; unfold bd at h9_11; have h9_12 := h_207; unfold bd at h9_12; have h9_13 := h_221; unfold bd at h9_13; have h9_14 := kb_0; unfold bd at h9_14; have h9_15 := kb_1; unfold bd at h9_15; have h9_16 := kb_12; unfold bd at h9_16; have h9_17 := kb_205; unfold bd at h9_17; have h9_18 := kb_300; unfold bd at h9_18; have h9_19 := kb_6; unfold bd at h9_19; have h9_20 := kb_7; unfold bd at h9_20; omega) _ _ _ _ g9  hl9
                                          · have fc_223 := nle_f c_223
                                            have b_227 : bd 13 2147483647 y_218 := ltR fc_223 kb_12 (bdT y_218) (by decide)
                                            refine lv_aload_n hx hb dX0_closeParts_227 rfl (lv_at hl 5 rfl) ?_
                                            refine g_getk (C := RX0) (T := TX0) (N := 14) hx hb hts (mc_ inX0) hown hK g rfl 0 (by decide) rfl (hts _ (List.mem_cons_of_mem _ t_373)) (fun _ h9 => h9) 9 rfl dX0_closeParts_228 ?_
                                            refine lv_bipush (v := 7) hx hb dX0_closeParts_231 (by decide) ?_
                                            refine lv_aload_n hx hb dX0_closeParts_233 rfl (lv_at hl 5 rfl) ?_
                                            refine g_getk (C := RX0) (T := TX0) (N := 14) hx hb hts (mc_ inX0) hown hK g rfl 4 (by decide) rfl (hts _ (List.mem_cons_of_mem _ t_377)) (fun _ h9 => h9) 7 rfl dX0_closeParts_234 ?_
                                            refine lv_aload_n hx hb dX0_closeParts_237 rfl (lv_at hl 5 rfl) ?_
                                            refine g_getk (C := RX0) (T := TX0) (N := 14) hx hb hts (mc_ inX0) hown hK g rfl 8 (by decide) rfl (hts _ (List.mem_cons_of_mem _ t_381)) (fun _ h9 => h9) 4 rfl dX0_closeParts_238 ?_
                                            refine g_iald hx hb hK g ma_37 ka_37 (by decide) rfl (in_bd b_56 (by decide)) dX0_closeParts_241 (fun x_228 bx_228 cx_228 => ?_)
                                            refine g_callv (va_runV (As := [.int 7, .int x_228]) (rest := []) ⟨hx, hb, hml, hown, hts⟩ (r_X8_fail_2 l dC dI L kd tys fr_219 H.size g.2.2.2.1 q0_ mq0_ kq0_ 7 (bd_sub kb_7 (by decide)) x_228 x_40 h_41 (g.fcts [6] rfl)) (cwV 2 hts (gV_ t_1215 t_1107 t_1108 t_184 t_1109) rfl rfl rfl (by decide +kernel) ⟨(Nat.le_of_ble_eq_true rfl), (Nat.le_of_ble_eq_true rfl)⟩) (pre3V g hK mq0_ kq0_ (by decide) (q := (RX8, TX8, 10)) rfl) rfl rfl hl.1 rfl (lv_room (Nat.le_of_ble_eq_true rfl)) dX0_closeParts_242 ⟨(Nat.le_of_ble_eq_true rfl), (Nat.le_of_ble_eq_true rfl)⟩) g hK (by decide) (by decide) (fx' := [(0, 12, a0_, .int 0), (0, 10, a0_, .int x_220), (0, 5, a0_, .ref a_209), (7, 6, q1_, .int x_206), (0, 8, a0_, .int y_55), (8, 8, q0_, .int x_40), (0, 4, a0_, .ref a_37), (0, 3, a0_, .ref g76_0_3_a0_), (0, 0, a0_, .ref q0_), (0, 2, a0_, .ref q1_)]) rfl (fun fr_229 H locs hp hMr_229 g => ?_)
                                            have hF_230 := hp
                                            have g := g.more hF_230
                                            obtain ⟨y_231, ey_231⟩ : ∃ z : Int32, z = v4_3 + 1 := ⟨_, rfl⟩
                                            refine lv_iinc (v := y_231) (lv' := [(3, .int y_231), (6, .int y_218), (2, .int 1), (5, .int 0), (4, .int x_57), (0, .ref a0_), (1, .int x1_)]) hx hb dX0_closeParts_245 hl (k := 4) rfl (by rw [ey_231]; rfl) (by decide) rfl (fun ls hl => ?_)
                                            have ty_231 := add_bd ey_231 b_48 kb_1 (by decide)
                                            have b_232 : bd 2 300 y_231 := add_rg ty_231 b_48 kb_1 (by decide)
                                            refine lv_goto (tgt := 4) hx hb dX0_closeParts_248 (by decide) ?_
                                            have hl9 := lv_sub hl [0, 1, 2, 3, 4, 5, 6] (by rfl : lv_pick [(3, .int y_231), (6, .int y_218), (2, .int 1), (5, .int 0), (4, .int x_57), (0, .ref a0_), (1, .int x1_)] [0, 1, 2, 3, 4, 5, 6] = [(3, .int y_231), (6, .int y_218), (2, .int 1), (5, .int 0), (4, .int x_57), (0, .ref a0_), (1, .int x1_)])
                                            have g9 := g.sub (fx' := [(8, 6, q0_, .int 1201), (8, 8, q0_, .int x_40), (0, 4, a0_, .ref a_37), (0, 12, a0_, .int 0), (0, 10, a0_, .int x_220), (7, 6, q1_, .int x_206), (0, 8, a0_, .int y_55), (0, 3, a0_, .ref g76_0_3_a0_), (0, 0, a0_, .ref q0_), (0, 2, a0_, .ref q1_)]) [0, 6, 7, 1, 2, 4, 5, 8, 9, 10] rfl
                                            exact ih4  y_231 y_218 1 0 x_57 x_220 x_206 y_55 (bd_sub b_232 (by decide)) (bd_sub kb_1 (by decide)) (bd_sub kb_0 (by decide)) h_221 h_207 (bd_sub b_56 (by decide)) (by have h9_0 := b_204; unfold bd at h9_0; have h9_1 := b_227; unfold bd at h9_1; have h9_2 := b_232; unfold bd at h9_2; have h9_3 := b_56; unfold bd at h9_3; have h9_4 := bdT v4_4; unfold bd at h9_4; have h9_5 := bdT v4_6; unfold bd at h9_5; have h9_6 := bv4_2; unfold bd at h9_6; have h9_7 := bv4_3; unfold bd at h9_7; have h9_8 := bv4_5; unfold bd at h9_8; have h9_9 := bw4_0_10_a0_; unfold bd at h9_9; have h9_10 := bw4_0_8_a0_; unfold bd at h9_10; have h9_11 := bw4_7_6_q1_; unfold bd at h9_11; have h9_12 := h_207; unfold bd at h9_12; have h9_13 := h_221; unfold bd at h9_13; have h9_14 := kb_0; unfold bd at h9_14; have h9_15 := kb_1; unfold bd at h9_15; have h9_16 := kb_12; unfold bd at h9_16; have h9_17 := kb_205; unfold bd at h9_17; have h9_18 := kb_300; unfold bd at h9_18; have h9_19 := kb_6; unfold bd at h9_19; have h9_20 := kb_7; unfold bd at h9_20; omega) _ _ _ _ g9  hl9
                                        · have fc_203 := neq_f c_203
                                          refine lv_iload hx hb dX0_closeParts_144 (lv_at hl 3 rfl) ?_
                                          refine lv_sipush (v := 206) hx hb dX0_closeParts_146 (by decide) ?_
                                          have kb_206 : bd 206 206 (206 : Int32) := ⟨by decide, by decide⟩
                                          refine lv_icmp_ne (tgt := 181) hx hb dX0_closeParts_149 (by decide) (fun c_233 => ?_) (fun c_233 => ?_)
                                          · have fc_233 := neq_f c_233
                                            have b_234 : bd 37 205 x_57 := neX fc_233 b_191 kb_206 (by decide)
                                            refine lv_aload_n hx hb dX0_closeParts_181 rfl (lv_at hl 5 rfl) ?_
                                            refine g_getk (C := RX0) (T := TX0) (N := 14) hx hb hts (mc_ inX0) hown hK g rfl 2 (by decide) rfl (hts _ (List.mem_cons_of_mem _ t_375)) (fun _ h9 => h9) 9 rfl dX0_closeParts_182 ?_
                                            refine lv_iload hx hb dX0_closeParts_185 (lv_at hl 3 rfl) ?_
                                            refine lv_iconst (v := 0) hx hb dX0_closeParts_187 (by decide) ?_
                                            refine g_callv (va_runV (As := [.int x_57, .int 0]) (rest := []) ⟨hx, hb, hml, hown, hts⟩ (r_X7_emit l dC dI L kd tys fr_199 H.size g.2.2.2.1 q1_ mq1_ kq1_ x_57 0) (cwV 2 hts (gV_ t_1203 t_1204 t_1205 t_191 t_1206) rfl rfl rfl (by decide +kernel) ⟨(Nat.le_of_ble_eq_true rfl), (Nat.le_of_ble_eq_true rfl)⟩) (pre3V g hK mq1_ kq1_ (by decide) (q := (RX7, TX7, 19)) rfl) rfl rfl hl.1 rfl (lv_room (Nat.le_of_ble_eq_true rfl)) dX0_closeParts_188 ⟨(Nat.le_of_ble_eq_true rfl), (Nat.le_of_ble_eq_true rfl)⟩) g hK (by decide) (by decide) (fx' := [(0, 10, a0_, .int x_200), (0, 8, a0_, .int y_55), (8, 6, q0_, .int 1201), (8, 8, q0_, .int x_40), (0, 4, a0_, .ref a_37), (0, 12, a0_, .int 0), (0, 3, a0_, .ref g76_0_3_a0_), (0, 0, a0_, .ref q0_), (0, 2, a0_, .ref q1_)]) rfl (fun fr_235 H locs hp hMr_235 g => ?_)
                                            obtain ⟨x_236, h_237, hF_238⟩ := hp
                                            have g := g.more hF_238
                                            refine lv_iconst (v := 1) hx hb dX0_closeParts_191 (by decide) ?_
                                            refine lv_iload hx hb dX0_closeParts_192 (lv_at hl 2 rfl) ?_
                                            refine lv_if_eq (tgt := 202) hx hb dX0_closeParts_194 (by decide) (fun c_ => ?_) (fun c_ => absurd (by decide) c_)
                                            refine lv_iload hx hb dX0_closeParts_202 (lv_at hl 0 rfl) ?_
                                            refine lv_aload_n hx hb dX0_closeParts_204 rfl (lv_at hl 5 rfl) ?_
                                            refine g_calli (va_runV (As := []) (rest := [.int r_199, .int 1]) ⟨hx, hb, hml, hown, hts⟩ (r_X0_takeHeight l dC dI L kd tys fr_235 H.size g.2.2.2.1 a0_ ma0_ ka0_) (cwV 0 hts (gV_ t_1199 t_1201 t_16 t_190 t_1202) rfl rfl rfl (by decide +kernel) ⟨(Nat.le_of_ble_eq_true rfl), (Nat.le_of_ble_eq_true rfl)⟩) (pre3V g hK ma0_ ka0_ (by decide) (q := (RX0, TX0, 14)) rfl) rfl rfl hl.1 rfl (lv_room (Nat.le_of_ble_eq_true rfl)) dX0_closeParts_205 ⟨(Nat.le_of_ble_eq_true rfl), (Nat.le_of_ble_eq_true rfl)⟩) g hK (by decide) (by decide) (fx' := [(7, 6, q1_, .int x_236), (0, 8, a0_, .int y_55), (8, 6, q0_, .int 1201), (8, 8, q0_, .int x_40), (0, 4, a0_, .ref a_37), (0, 12, a0_, .int 0), (0, 3, a0_, .ref g76_0_3_a0_), (0, 0, a0_, .ref q0_), (0, 2, a0_, .ref q1_)]) rfl (fun r_239 fr_239 H locs hp hMr_239 g => ?_)
                                            obtain ⟨x_240, h_241, hF_242⟩ := hp
                                            have g := g.more hF_242
                                            refine va_mmax hx hb (hml.trans hl.1.symm) hown (hts _ (List.mem_cons_of_mem _ t_1194)) (hts _ (List.mem_cons_of_mem _ t_1041)) (hts _ (List.mem_cons_of_mem _ t_204)) (hts _ (List.mem_cons_of_mem _ t_1042)) (Nat.le_of_ble_eq_true rfl) (Nat.le_of_ble_eq_true rfl) (Nat.le_of_ble_eq_true rfl) (Nat.le_of_ble_eq_true rfl) dX0_closeParts_208 ?_
                                            refine lv_topi (fun y_243 ey_243 => ?_)
                                            have ty_243 : y_243.toInt = max r_199.toInt r_239.toInt := by rw [ey_243]; exact mmax_ok _ _
                                            have b_244 : bd (-2147483648) 2147483647 y_243 := max_rg ty_243 (bdT r_199) (bdT r_239) (by decide)
                                            refine lv_iadd hx hb dX0_closeParts_211 ?_
                                            refine lv_topi (fun y_245 ey_245 => ?_)
                                            refine lv_istore (lv' := [(6, .int y_245), (2, .int 1), (5, .int 0), (4, .int x_57), (3, .int v4_3), (0, .ref a0_), (1, .int x1_)]) hx hb dX0_closeParts_212 hl (by decide) rfl (fun ls hl => ?_)
                                            refine lv_aload_n hx hb dX0_closeParts_214 rfl (lv_at hl 5 rfl) ?_
                                            refine lv_iload hx hb dX0_closeParts_215 (lv_at hl 0 rfl) ?_
                                            refine g_callv (va_runV (As := [.int y_245]) (rest := []) ⟨hx, hb, hml, hown, hts⟩ (r_X0_addWhole l dC dI L kd tys fr_239 H.size g.2.2.2.1 a0_ ma0_ ka0_ y_245) (cwV 1 hts (gV_ t_1211 t_1213 t_17 t_190 t_1214) rfl rfl rfl (by decide +kernel) ⟨(Nat.le_of_ble_eq_true rfl), (Nat.le_of_ble_eq_true rfl)⟩) (pre3V g hK ma0_ ka0_ (by decide) (q := (RX0, TX0, 14)) rfl) rfl rfl hl.1 rfl (lv_room (Nat.le_of_ble_eq_true rfl)) dX0_closeParts_217 ⟨(Nat.le_of_ble_eq_true rfl), (Nat.le_of_ble_eq_true rfl)⟩) g hK (by decide) (by decide) (fx' := [(7, 6, q1_, .int x_236), (0, 8, a0_, .int y_55), (8, 6, q0_, .int 1201), (8, 8, q0_, .int x_40), (0, 4, a0_, .ref a_37), (0, 3, a0_, .ref g76_0_3_a0_), (0, 0, a0_, .ref q0_), (0, 2, a0_, .ref q1_)]) rfl (fun fr_246 H locs hp hMr_246 g => ?_)
                                            obtain ⟨x_247, h_248, hF_249⟩ := hp
                                            have g := g.more hF_249
                                            refine lv_iload hx hb dX0_closeParts_220 (lv_at hl 0 rfl) ?_
                                            refine lv_bipush (v := 12) hx hb dX0_closeParts_222 (by decide) ?_
                                            refine lv_icmp_le (tgt := 245) hx hb dX0_closeParts_224 (by decide) (fun c_250 => ?_) (fun c_250 => ?_)
                                            · have fc_250 := le_f c_250
                                              have b_251 : bd (-2147483648) 12 y_245 := leL fc_250 (bdT y_245) kb_12 (by decide)
                                              obtain ⟨y_252, ey_252⟩ : ∃ z : Int32, z = v4_3 + 1 := ⟨_, rfl⟩
                                              refine lv_iinc (v := y_252) (lv' := [(3, .int y_252), (6, .int y_245), (2, .int 1), (5, .int 0), (4, .int x_57), (0, .ref a0_), (1, .int x1_)]) hx hb dX0_closeParts_245 hl (k := 4) rfl (by rw [ey_252]; rfl) (by decide) rfl (fun ls hl => ?_)
                                              have ty_252 := add_bd ey_252 b_48 kb_1 (by decide)
                                              have b_253 : bd 2 300 y_252 := add_rg ty_252 b_48 kb_1 (by decide)
                                              refine lv_goto (tgt := 4) hx hb dX0_closeParts_248 (by decide) ?_
                                              have hl9 := lv_sub hl [0, 1, 2, 3, 4, 5, 6] (by rfl : lv_pick [(3, .int y_252), (6, .int y_245), (2, .int 1), (5, .int 0), (4, .int x_57), (0, .ref a0_), (1, .int x1_)] [0, 1, 2, 3, 4, 5, 6] = [(3, .int y_252), (6, .int y_245), (2, .int 1), (5, .int 0), (4, .int x_57), (0, .ref a0_), (1, .int x1_)])
                                              have g9 := g.sub (fx' := [(8, 6, q0_, .int 1201), (8, 8, q0_, .int x_40), (0, 4, a0_, .ref a_37), (0, 12, a0_, .int 0), (0, 10, a0_, .int x_247), (7, 6, q1_, .int x_236), (0, 8, a0_, .int y_55), (0, 3, a0_, .ref g76_0_3_a0_), (0, 0, a0_, .ref q0_), (0, 2, a0_, .ref q1_)]) [4, 5, 6, 0, 1, 2, 3, 7, 8, 9] rfl
                                              exact ih4  y_252 y_245 1 0 x_57 x_247 x_236 y_55 (bd_sub b_253 (by decide)) (bd_sub kb_1 (by decide)) (bd_sub kb_0 (by decide)) h_248 h_237 (bd_sub b_56 (by decide)) (by have h9_0 := b_234; unfold bd at h9_0; have h9_1 := b_251; unfold bd at h9_1; have h9_2 := b_253; unfold bd at h9_2; have h9_3 := b_56; unfold bd at h9_3; have h9_4 := bdT v4_4; unfold bd at h9_4; have h9_5 := bdT v4_6; unfold bd at h9_5; have h9_6 := bv4_2; unfold bd at h9_6; have h9_7 := bv4_3; unfold bd at h9_7; have h9_8 := bv4_5; unfold bd at h9_8; have h9_9 := bw4_0_10_a0_; unfold bd at h9_9; have h9_10 := bw4_0_8_a0_; unfold bd at h9_10; have h9_11 := bw4_7_6_q1_; unfold bd at h9_11; have h9_12 := h_237; unfold bd at h9_12; have h9_13 := h_248; unfold bd at h9_13; have h9_14 := kb_0; unfold bd at h9_14; have h9_15 := kb_1; unfold bd at h9_15; have h9_16 := kb_12; unfold bd at h9_16; have h9_17 := kb_205; unfold bd at h9_17; have h9_18 := kb_206; unfold bd at h9_18; have h9_19 := kb_300; unfold bd at h9_19; have h9_20 := kb_6; unfold bd at h9_20; have h9_21 := kb_7; unfold bd at h9_21; omega) _ _ _ _ g9  hl9
                                            · have fc_250 := nle_f c_250
                                              have b_254 : bd 13 2147483647 y_245 := ltR fc_250 kb_12 (bdT y_245) (by decide)
                                              refine lv_aload_n hx hb dX0_closeParts_227 rfl (lv_at hl 5 rfl) ?_
                                              refine g_getk (C := RX0) (T := TX0) (N := 14) hx hb hts (mc_ inX0) hown hK g rfl 0 (by decide) rfl (hts _ (List.mem_cons_of_mem _ t_373)) (fun _ h9 => h9) 8 rfl dX0_closeParts_228 ?_
                                              refine lv_bipush (v := 7) hx hb dX0_closeParts_231 (by decide) ?_
                                              refine lv_aload_n hx hb dX0_closeParts_233 rfl (lv_at hl 5 rfl) ?_
                                              refine g_getk (C := RX0) (T := TX0) (N := 14) hx hb hts (mc_ inX0) hown hK g rfl 4 (by decide) rfl (hts _ (List.mem_cons_of_mem _ t_377)) (fun _ h9 => h9) 6 rfl dX0_closeParts_234 ?_
                                              refine lv_aload_n hx hb dX0_closeParts_237 rfl (lv_at hl 5 rfl) ?_
                                              refine g_getk (C := RX0) (T := TX0) (N := 14) hx hb hts (mc_ inX0) hown hK g rfl 8 (by decide) rfl (hts _ (List.mem_cons_of_mem _ t_381)) (fun _ h9 => h9) 3 rfl dX0_closeParts_238 ?_
                                              refine g_iald hx hb hK g ma_37 ka_37 (by decide) rfl (in_bd b_56 (by decide)) dX0_closeParts_241 (fun x_255 bx_255 cx_255 => ?_)
                                              refine g_callv (va_runV (As := [.int 7, .int x_255]) (rest := []) ⟨hx, hb, hml, hown, hts⟩ (r_X8_fail_2 l dC dI L kd tys fr_246 H.size g.2.2.2.1 q0_ mq0_ kq0_ 7 (bd_sub kb_7 (by decide)) x_255 x_40 h_41 (g.fcts [5] rfl)) (cwV 2 hts (gV_ t_1215 t_1107 t_1108 t_184 t_1109) rfl rfl rfl (by decide +kernel) ⟨(Nat.le_of_ble_eq_true rfl), (Nat.le_of_ble_eq_true rfl)⟩) (pre3V g hK mq0_ kq0_ (by decide) (q := (RX8, TX8, 10)) rfl) rfl rfl hl.1 rfl (lv_room (Nat.le_of_ble_eq_true rfl)) dX0_closeParts_242 ⟨(Nat.le_of_ble_eq_true rfl), (Nat.le_of_ble_eq_true rfl)⟩) g hK (by decide) (by decide) (fx' := [(0, 12, a0_, .int 0), (0, 10, a0_, .int x_247), (7, 6, q1_, .int x_236), (0, 8, a0_, .int y_55), (8, 8, q0_, .int x_40), (0, 4, a0_, .ref a_37), (0, 3, a0_, .ref g76_0_3_a0_), (0, 0, a0_, .ref q0_), (0, 2, a0_, .ref q1_)]) rfl (fun fr_256 H locs hp hMr_256 g => ?_)
                                              have hF_257 := hp
                                              have g := g.more hF_257
                                              obtain ⟨y_258, ey_258⟩ : ∃ z : Int32, z = v4_3 + 1 := ⟨_, rfl⟩
                                              refine lv_iinc (v := y_258) (lv' := [(3, .int y_258), (6, .int y_245), (2, .int 1), (5, .int 0), (4, .int x_57), (0, .ref a0_), (1, .int x1_)]) hx hb dX0_closeParts_245 hl (k := 4) rfl (by rw [ey_258]; rfl) (by decide) rfl (fun ls hl => ?_)
                                              have ty_258 := add_bd ey_258 b_48 kb_1 (by decide)
                                              have b_259 : bd 2 300 y_258 := add_rg ty_258 b_48 kb_1 (by decide)
                                              refine lv_goto (tgt := 4) hx hb dX0_closeParts_248 (by decide) ?_
                                              have hl9 := lv_sub hl [0, 1, 2, 3, 4, 5, 6] (by rfl : lv_pick [(3, .int y_258), (6, .int y_245), (2, .int 1), (5, .int 0), (4, .int x_57), (0, .ref a0_), (1, .int x1_)] [0, 1, 2, 3, 4, 5, 6] = [(3, .int y_258), (6, .int y_245), (2, .int 1), (5, .int 0), (4, .int x_57), (0, .ref a0_), (1, .int x1_)])
                                              have g9 := g.sub (fx' := [(8, 6, q0_, .int 1201), (8, 8, q0_, .int x_40), (0, 4, a0_, .ref a_37), (0, 12, a0_, .int 0), (0, 10, a0_, .int x_247), (7, 6, q1_, .int x_236), (0, 8, a0_, .int y_55), (0, 3, a0_, .ref g76_0_3_a0_), (0, 0, a0_, .ref q0_), (0, 2, a0_, .ref q1_)]) [0, 5, 6, 1, 2, 3, 4, 7, 8, 9] rfl
                                              exact ih4  y_258 y_245 1 0 x_57 x_247 x_236 y_55 (bd_sub b_259 (by decide)) (bd_sub kb_1 (by decide)) (bd_sub kb_0 (by decide)) h_248 h_237 (bd_sub b_56 (by decide)) (by have h9_0 := b_234; unfold bd at h9_0; have h9_1 := b_254; unfold bd at h9_1; have h9_2 := b_259; unfold bd at h9_2; have h9_3 := b_56; unfold bd at h9_3; have h9_4 := bdT v4_4; unfold bd at h9_4; have h9_5 := bdT v4_6; unfold bd at h9_5; have h9_6 := bv4_2; unfold bd at h9_6; have h9_7 := bv4_3; unfold bd at h9_7; have h9_8 := bv4_5; unfold bd at h9_8; have h9_9 := bw4_0_10_a0_; unfold bd at h9_9; have h9_10 := bw4_0_8_a0_; unfold bd at h9_10; have h9_11 := bw4_7_6_q1_; unfold bd at h9_11; have h9_12 := h_237; unfold bd at h9_12; have h9_13 := h_248; unfold bd at h9_13; have h9_14 := kb_0; unfold bd at h9_14; have h9_15 := kb_1; unfold bd at h9_15; have h9_16 := kb_12; unfold bd at h9_16; have h9_17 := kb_205; unfold bd at h9_17; have h9_18 := kb_206; unfold bd at h9_18; have h9_19 := kb_300; unfold bd at h9_19; have h9_20 := kb_6; unfold bd at h9_20; have h9_21 := kb_7; unfold bd at h9_21; omega) _ _ _ _ g9  hl9
                                          · have fc_233 := eq_f c_233
                                            have b_260 : bd 206 206 x_57 := eqX fc_233 b_191 kb_206 (by decide)
                                            refine lv_aload_n hx hb dX0_closeParts_152 rfl (lv_at hl 5 rfl) ?_
                                            refine g_getk (C := RX0) (T := TX0) (N := 14) hx hb hts (mc_ inX0) hown hK g rfl 2 (by decide) rfl (hts _ (List.mem_cons_of_mem _ t_375)) (fun _ h9 => h9) 9 rfl dX0_closeParts_153 ?_
                                            refine lv_bipush (v := 8) hx hb dX0_closeParts_156 (by decide) ?_
                                            refine lv_iconst (v := 0) hx hb dX0_closeParts_158 (by decide) ?_
                                            refine g_callv (va_runV (As := [.int 8, .int 0]) (rest := []) ⟨hx, hb, hml, hown, hts⟩ (r_X7_emit l dC dI L kd tys fr_199 H.size g.2.2.2.1 q1_ mq1_ kq1_ 8 0) (cwV 2 hts (gV_ t_1203 t_1204 t_1205 t_191 t_1206) rfl rfl rfl (by decide +kernel) ⟨(Nat.le_of_ble_eq_true rfl), (Nat.le_of_ble_eq_true rfl)⟩) (pre3V g hK mq1_ kq1_ (by decide) (q := (RX7, TX7, 19)) rfl) rfl rfl hl.1 rfl (lv_room (Nat.le_of_ble_eq_true rfl)) dX0_closeParts_159 ⟨(Nat.le_of_ble_eq_true rfl), (Nat.le_of_ble_eq_true rfl)⟩) g hK (by decide) (by decide) (fx' := [(0, 10, a0_, .int x_200), (0, 8, a0_, .int y_55), (8, 6, q0_, .int 1201), (8, 8, q0_, .int x_40), (0, 4, a0_, .ref a_37), (0, 12, a0_, .int 0), (0, 3, a0_, .ref g76_0_3_a0_), (0, 0, a0_, .ref q0_), (0, 2, a0_, .ref q1_)]) rfl (fun fr_261 H locs hp hMr_261 g => ?_)
                                            obtain ⟨x_262, h_263, hF_264⟩ := hp
                                            have g := g.more hF_264
                                            refine lv_aload_n hx hb dX0_closeParts_162 rfl (lv_at hl 5 rfl) ?_
                                            refine g_getk (C := RX0) (T := TX0) (N := 14) hx hb hts (mc_ inX0) hown hK g rfl 2 (by decide) rfl (hts _ (List.mem_cons_of_mem _ t_375)) (fun _ h9 => h9) 9 rfl dX0_closeParts_163 ?_
                                            refine lv_aload_n hx hb dX0_closeParts_166 rfl (lv_at hl 5 rfl) ?_
                                            refine g_getr (K := 112) (C := RX0) (T := TX0) (N := 14) hx hb hts (mc_ inX0) hown hK g ma0_ ka0_ (by decide) rfl 5 (by decide) rfl (hts _ (List.mem_cons_of_mem _ t_378)) (fun _ h9 => h9) rfl dX0_closeParts_167 (fun a_265 ma_265 ka_265 g => ?_)
                                            refine lv_aload_n hx hb dX0_closeParts_170 rfl (lv_at hl 5 rfl) ?_
                                            refine g_getk (C := RX0) (T := TX0) (N := 14) hx hb hts (mc_ inX0) hown hK g rfl 8 (by decide) rfl (hts _ (List.mem_cons_of_mem _ t_381)) (fun _ h9 => h9) 3 rfl dX0_closeParts_171 ?_
                                            refine g_iald hx hb hK g ma_265 ka_265 (by decide) rfl (in_bd b_56 (by decide)) dX0_closeParts_174 (fun x_266 bx_266 cx_266 => ?_)
                                            refine g_callv (va_runV (As := [.int x_266]) (rest := []) ⟨hx, hb, hml, hown, hts⟩ (r_X7_leadHere l dC dI L kd tys fr_261 H.size g.2.2.2.1 q1_ mq1_ kq1_ x_266) (cwV 1 hts (gV_ t_1207 t_1208 t_1209 t_191 t_1210) rfl rfl rfl (by decide +kernel) ⟨(Nat.le_of_ble_eq_true rfl), (Nat.le_of_ble_eq_true rfl)⟩) (pre3V g hK mq1_ kq1_ (by decide) (q := (RX7, TX7, 19)) rfl) rfl rfl hl.1 rfl (lv_room (Nat.le_of_ble_eq_true rfl)) dX0_closeParts_175 ⟨(Nat.le_of_ble_eq_true rfl), (Nat.le_of_ble_eq_true rfl)⟩) g hK (by decide) (by decide) (fx' := [(0, 5, a0_, .ref a_265), (7, 6, q1_, .int x_262), (0, 10, a0_, .int x_200), (0, 8, a0_, .int y_55), (8, 6, q0_, .int 1201), (8, 8, q0_, .int x_40), (0, 4, a0_, .ref a_37), (0, 12, a0_, .int 0), (0, 3, a0_, .ref g76_0_3_a0_), (0, 0, a0_, .ref q0_), (0, 2, a0_, .ref q1_)]) rfl (fun fr_267 H locs hp hMr_267 g => ?_)
                                            refine lv_goto (tgt := 191) hx hb dX0_closeParts_178 (by decide) ?_
                                            refine lv_iconst (v := 1) hx hb dX0_closeParts_191 (by decide) ?_
                                            refine lv_iload hx hb dX0_closeParts_192 (lv_at hl 2 rfl) ?_
                                            refine lv_if_eq (tgt := 202) hx hb dX0_closeParts_194 (by decide) (fun c_ => ?_) (fun c_ => absurd (by decide) c_)
                                            refine lv_iload hx hb dX0_closeParts_202 (lv_at hl 0 rfl) ?_
                                            refine lv_aload_n hx hb dX0_closeParts_204 rfl (lv_at hl 5 rfl) ?_
                                            refine g_calli (va_runV (As := []) (rest := [.int r_199, .int 1]) ⟨hx, hb, hml, hown, hts⟩ (r_X0_takeHeight l dC dI L kd tys fr_267 H.size g.2.2.2.1 a0_ ma0_ ka0_) (cwV 0 hts (gV_ t_1199 t_1201 t_16 t_190 t_1202) rfl rfl rfl (by decide +kernel) ⟨(Nat.le_of_ble_eq_true rfl), (Nat.le_of_ble_eq_true rfl)⟩) (pre3V g hK ma0_ ka0_ (by decide) (q := (RX0, TX0, 14)) rfl) rfl rfl hl.1 rfl (lv_room (Nat.le_of_ble_eq_true rfl)) dX0_closeParts_205 ⟨(Nat.le_of_ble_eq_true rfl), (Nat.le_of_ble_eq_true rfl)⟩) g hK (by decide) (by decide) (fx' := [(0, 5, a0_, .ref a_265), (7, 6, q1_, .int x_262), (0, 8, a0_, .int y_55), (8, 6, q0_, .int 1201), (8, 8, q0_, .int x_40), (0, 4, a0_, .ref a_37), (0, 12, a0_, .int 0), (0, 3, a0_, .ref g76_0_3_a0_), (0, 0, a0_, .ref q0_), (0, 2, a0_, .ref q1_)]) rfl (fun r_268 fr_268 H locs hp hMr_268 g => ?_)
                                            obtain ⟨x_269, h_270, hF_271⟩ := hp
                                            have g := g.more hF_271
                                            refine va_mmax hx hb (hml.trans hl.1.symm) hown (hts _ (List.mem_cons_of_mem _ t_1194)) (hts _ (List.mem_cons_of_mem _ t_1041)) (hts _ (List.mem_cons_of_mem _ t_204)) (hts _ (List.mem_cons_of_mem _ t_1042)) (Nat.le_of_ble_eq_true rfl) (Nat.le_of_ble_eq_true rfl) (Nat.le_of_ble_eq_true rfl) (Nat.le_of_ble_eq_true rfl) dX0_closeParts_208 ?_
                                            refine lv_topi (fun y_272 ey_272 => ?_)
                                            have ty_272 : y_272.toInt = max r_199.toInt r_268.toInt := by rw [ey_272]; exact mmax_ok _ _
                                            have b_273 : bd (-2147483648) 2147483647 y_272 := max_rg ty_272 (bdT r_199) (bdT r_268) (by decide)
                                            refine lv_iadd hx hb dX0_closeParts_211 ?_
                                            refine lv_topi (fun y_274 ey_274 => ?_)
                                            refine lv_istore (lv' := [(6, .int y_274), (2, .int 1), (5, .int 0), (4, .int x_57), (3, .int v4_3), (0, .ref a0_), (1, .int x1_)]) hx hb dX0_closeParts_212 hl (by decide) rfl (fun ls hl => ?_)
                                            refine lv_aload_n hx hb dX0_closeParts_214 rfl (lv_at hl 5 rfl) ?_
                                            refine lv_iload hx hb dX0_closeParts_215 (lv_at hl 0 rfl) ?_
                                            refine g_callv (va_runV (As := [.int y_274]) (rest := []) ⟨hx, hb, hml, hown, hts⟩ (r_X0_addWhole l dC dI L kd tys fr_268 H.size g.2.2.2.1 a0_ ma0_ ka0_ y_274) (cwV 1 hts (gV_ t_1211 t_1213 t_17 t_190 t_1214) rfl rfl rfl (by decide +kernel) ⟨(Nat.le_of_ble_eq_true rfl), (Nat.le_of_ble_eq_true rfl)⟩) (pre3V g hK ma0_ ka0_ (by decide) (q := (RX0, TX0, 14)) rfl) rfl rfl hl.1 rfl (lv_room (Nat.le_of_ble_eq_true rfl)) dX0_closeParts_217 ⟨(Nat.le_of_ble_eq_true rfl), (Nat.le_of_ble_eq_true rfl)⟩) g hK (by decide) (by decide) (fx' := [(0, 5, a0_, .ref a_265), (7, 6, q1_, .int x_262), (0, 8, a0_, .int y_55), (8, 6, q0_, .int 1201), (8, 8, q0_, .int x_40), (0, 4, a0_, .ref a_37), (0, 3, a0_, .ref g76_0_3_a0_), (0, 0, a0_, .ref q0_), (0, 2, a0_, .ref q1_)]) rfl (fun fr_275 H locs hp hMr_275 g => ?_)
                                            obtain ⟨x_276, h_277, hF_278⟩ := hp
                                            have g := g.more hF_278
                                            refine lv_iload hx hb dX0_closeParts_220 (lv_at hl 0 rfl) ?_
                                            refine lv_bipush (v := 12) hx hb dX0_closeParts_222 (by decide) ?_
                                            refine lv_icmp_le (tgt := 245) hx hb dX0_closeParts_224 (by decide) (fun c_279 => ?_) (fun c_279 => ?_)
                                            · have fc_279 := le_f c_279
                                              have b_280 : bd (-2147483648) 12 y_274 := leL fc_279 (bdT y_274) kb_12 (by decide)
                                              obtain ⟨y_281, ey_281⟩ : ∃ z : Int32, z = v4_3 + 1 := ⟨_, rfl⟩
                                              refine lv_iinc (v := y_281) (lv' := [(3, .int y_281), (6, .int y_274), (2, .int 1), (5, .int 0), (4, .int x_57), (0, .ref a0_), (1, .int x1_)]) hx hb dX0_closeParts_245 hl (k := 4) rfl (by rw [ey_281]; rfl) (by decide) rfl (fun ls hl => ?_)
                                              have ty_281 := add_bd ey_281 b_48 kb_1 (by decide)
                                              have b_282 : bd 2 300 y_281 := add_rg ty_281 b_48 kb_1 (by decide)
                                              refine lv_goto (tgt := 4) hx hb dX0_closeParts_248 (by decide) ?_
                                              have hl9 := lv_sub hl [0, 1, 2, 3, 4, 5, 6] (by rfl : lv_pick [(3, .int y_281), (6, .int y_274), (2, .int 1), (5, .int 0), (4, .int x_57), (0, .ref a0_), (1, .int x1_)] [0, 1, 2, 3, 4, 5, 6] = [(3, .int y_281), (6, .int y_274), (2, .int 1), (5, .int 0), (4, .int x_57), (0, .ref a0_), (1, .int x1_)])
                                              have g9 := g.sub (fx' := [(8, 6, q0_, .int 1201), (8, 8, q0_, .int x_40), (0, 4, a0_, .ref a_37), (0, 12, a0_, .int 0), (0, 10, a0_, .int x_276), (7, 6, q1_, .int x_262), (0, 8, a0_, .int y_55), (0, 3, a0_, .ref g76_0_3_a0_), (0, 0, a0_, .ref q0_), (0, 2, a0_, .ref q1_)]) [5, 6, 7, 0, 1, 3, 4, 8, 9, 10] rfl
                                              exact ih4  y_281 y_274 1 0 x_57 x_276 x_262 y_55 (bd_sub b_282 (by decide)) (bd_sub kb_1 (by decide)) (bd_sub kb_0 (by decide)) h_277 h_263 (bd_sub b_56 (by decide)) (by have h9_0 := b_260; unfold bd at h9_0; have h9_1 := b_280; unfold bd at h9_1; have h9_2 := b_282; unfold bd at h9_2; have h9_3 := b_56; unfold bd at h9_3; have h9_4 := bdT v4_4; unfold bd at h9_4; have h9_5 := bdT v4_6; unfold bd at h9_5; have h9_6 := bv4_2; unfold bd at h9_6; have h9_7 := bv4_3; unfold bd at h9_7; have h9_8 := bv4_5; unfold bd at h9_8; have h9_9 := bw4_0_10_a0_; unfold bd at h9_9; have h9_10 := bw4_0_8_a0_; unfold bd at h9_10; have h9_11 := bw4_7_6_q1_; unfold bd at h9_11; have h9_12 := h_263; unfold bd at h9_12; have h9_13 := h_277; unfold bd at h9_13; have h9_14 := kb_0; unfold bd at h9_14; have h9_15 := kb_1; unfold bd at h9_15; have h9_16 := kb_12; unfold bd at h9_16; have h9_17 := kb_205; unfold bd at h9_17; have h9_18 := kb_206; unfold bd at h9_18; have h9_19 := kb_300; unfold bd at h9_19; have h9_20 := kb_6; unfold bd at h9_20; have h9_21 := kb_7; unfold bd at h9_21; omega) _ _ _ _ g9  hl9
                                            · have fc_279 := nle_f c_279
                                              have b_283 : bd 13 2147483647 y_274 := ltR fc_279 kb_12 (bdT y_274) (by decide)
                                              refine lv_aload_n hx hb dX0_closeParts_227 rfl (lv_at hl 5 rfl) ?_
                                              refine g_getk (C := RX0) (T := TX0) (N := 14) hx hb hts (mc_ inX0) hown hK g rfl 0 (by decide) rfl (hts _ (List.mem_cons_of_mem _ t_373)) (fun _ h9 => h9) 9 rfl dX0_closeParts_228 ?_
                                              refine lv_bipush (v := 7) hx hb dX0_closeParts_231 (by decide) ?_
                                              refine lv_aload_n hx hb dX0_closeParts_233 rfl (lv_at hl 5 rfl) ?_
                                              refine g_getk (C := RX0) (T := TX0) (N := 14) hx hb hts (mc_ inX0) hown hK g rfl 4 (by decide) rfl (hts _ (List.mem_cons_of_mem _ t_377)) (fun _ h9 => h9) 7 rfl dX0_closeParts_234 ?_
                                              refine lv_aload_n hx hb dX0_closeParts_237 rfl (lv_at hl 5 rfl) ?_
                                              refine g_getk (C := RX0) (T := TX0) (N := 14) hx hb hts (mc_ inX0) hown hK g rfl 8 (by decide) rfl (hts _ (List.mem_cons_of_mem _ t_381)) (fun _ h9 => h9) 4 rfl dX0_closeParts_238 ?_
                                              refine g_iald hx hb hK g ma_37 ka_37 (by decide) rfl (in_bd b_56 (by decide)) dX0_closeParts_241 (fun x_284 bx_284 cx_284 => ?_)
                                              refine g_callv (va_runV (As := [.int 7, .int x_284]) (rest := []) ⟨hx, hb, hml, hown, hts⟩ (r_X8_fail_2 l dC dI L kd tys fr_275 H.size g.2.2.2.1 q0_ mq0_ kq0_ 7 (bd_sub kb_7 (by decide)) x_284 x_40 h_41 (g.fcts [6] rfl)) (cwV 2 hts (gV_ t_1215 t_1107 t_1108 t_184 t_1109) rfl rfl rfl (by decide +kernel) ⟨(Nat.le_of_ble_eq_true rfl), (Nat.le_of_ble_eq_true rfl)⟩) (pre3V g hK mq0_ kq0_ (by decide) (q := (RX8, TX8, 10)) rfl) rfl rfl hl.1 rfl (lv_room (Nat.le_of_ble_eq_true rfl)) dX0_closeParts_242 ⟨(Nat.le_of_ble_eq_true rfl), (Nat.le_of_ble_eq_true rfl)⟩) g hK (by decide) (by decide) (fx' := [(0, 12, a0_, .int 0), (0, 10, a0_, .int x_276), (0, 5, a0_, .ref a_265), (7, 6, q1_, .int x_262), (0, 8, a0_, .int y_55), (8, 8, q0_, .int x_40), (0, 4, a0_, .ref a_37), (0, 3, a0_, .ref g76_0_3_a0_), (0, 0, a0_, .ref q0_), (0, 2, a0_, .ref q1_)]) rfl (fun fr_285 H locs hp hMr_285 g => ?_)
                                              have hF_286 := hp
                                              have g := g.more hF_286
                                              obtain ⟨y_287, ey_287⟩ : ∃ z : Int32, z = v4_3 + 1 := ⟨_, rfl⟩
                                              refine lv_iinc (v := y_287) (lv' := [(3, .int y_287), (6, .int y_274), (2, .int 1), (5, .int 0), (4, .int x_57), (0, .ref a0_), (1, .int x1_)]) hx hb dX0_closeParts_245 hl (k := 4) rfl (by rw [ey_287]; rfl) (by decide) rfl (fun ls hl => ?_)
                                              have ty_287 := add_bd ey_287 b_48 kb_1 (by decide)
                                              have b_288 : bd 2 300 y_287 := add_rg ty_287 b_48 kb_1 (by decide)
                                              refine lv_goto (tgt := 4) hx hb dX0_closeParts_248 (by decide) ?_
                                              have hl9 := lv_sub hl [0, 1, 2, 3, 4, 5, 6] (by rfl : lv_pick [(3, .int y_287), (6, .int y_274), (2, .int 1), (5, .int 0), (4, .int x_57), (0, .ref a0_), (1, .int x1_)] [0, 1, 2, 3, 4, 5, 6] = [(3, .int y_287), (6, .int y_274), (2, .int 1), (5, .int 0), (4, .int x_57), (0, .ref a0_), (1, .int x1_)])
                                              have g9 := g.sub (fx' := [(8, 6, q0_, .int 1201), (8, 8, q0_, .int x_40), (0, 4, a0_, .ref a_37), (0, 12, a0_, .int 0), (0, 10, a0_, .int x_276), (7, 6, q1_, .int x_262), (0, 8, a0_, .int y_55), (0, 3, a0_, .ref g76_0_3_a0_), (0, 0, a0_, .ref q0_), (0, 2, a0_, .ref q1_)]) [0, 6, 7, 1, 2, 4, 5, 8, 9, 10] rfl
                                              exact ih4  y_287 y_274 1 0 x_57 x_276 x_262 y_55 (bd_sub b_288 (by decide)) (bd_sub kb_1 (by decide)) (bd_sub kb_0 (by decide)) h_277 h_263 (bd_sub b_56 (by decide)) (by have h9_0 := b_260; unfold bd at h9_0; have h9_1 := b_283; unfold bd at h9_1; have h9_2 := b_288; unfold bd at h9_2; have h9_3 := b_56; unfold bd at h9_3; have h9_4 := bdT v4_4; unfold bd at h9_4; have h9_5 := bdT v4_6; unfold bd at h9_5; have h9_6 := bv4_2; unfold bd at h9_6; have h9_7 := bv4_3; unfold bd at h9_7; have h9_8 := bv4_5; unfold bd at h9_8; have h9_9 := bw4_0_10_a0_; unfold bd at h9_9; have h9_10 := bw4_0_8_a0_; unfold bd at h9_10; have h9_11 := bw4_7_6_q1_; unfold bd at h9_11; have h9_12 := h_263; unfold bd at h9_12; have h9_13 := h_277; unfold bd at h9_13; have h9_14 := kb_0; unfold bd at h9_14; have h9_15 := kb_1; unfold bd at h9_15; have h9_16 := kb_12; unfold bd at h9_16; have h9_17 := kb_205; unfold bd at h9_17; have h9_18 := kb_206; unfold bd at h9_18; have h9_19 := kb_300; unfold bd at h9_19; have h9_20 := kb_6; unfold bd at h9_20; have h9_21 := kb_7; unfold bd at h9_21; omega) _ _ _ _ g9  hl9
                                  · have fc_90 := eq_f c_90
                                    have b_289 : bd 7 7 x_57 := eqX fc_90 (bdT x_57) kb_7 (by decide)
                                    refine lv_iconst (v := 1) hx hb dX0_closeParts_49 (by decide) ?_
                                    refine lv_goto (tgt := 54) hx hb dX0_closeParts_50 (by decide) ?_
                                    refine lv_istore (lv' := [(5, .int 1), (4, .int x_57), (3, .int v4_3), (6, .int v4_6), (2, .int v4_2), (0, .ref a0_), (1, .int x1_)]) hx hb dX0_closeParts_54 hl (by decide) rfl (fun ls hl => ?_)
                                    refine lv_iload hx hb dX0_closeParts_56 (lv_at hl 0 rfl) ?_
                                    refine lv_if_ne (tgt := 70) hx hb dX0_closeParts_58 (by decide) (fun c_ => ?_) (fun c_ => absurd c_ (by decide))
                                    refine lv_iconst (v := 1) hx hb dX0_closeParts_70 (by decide) ?_
                                    refine lv_goto (tgt := 75) hx hb dX0_closeParts_71 (by decide) ?_
                                    refine lv_istore_n (lv' := [(2, .int 1), (5, .int 1), (4, .int x_57), (3, .int v4_3), (6, .int v4_6), (0, .ref a0_), (1, .int x1_)]) hx hb dX0_closeParts_75 rfl hl (by decide) rfl (fun ls hl => ?_)
                                    refine lv_iload_n hx hb dX0_closeParts_76 rfl (lv_at hl 0 rfl) ?_
                                    refine lv_if_eq (tgt := 245) hx hb dX0_closeParts_77 (by decide) (fun c_ => absurd c_ (by decide)) (fun c_ => ?_)
                                    refine lv_aload_n hx hb dX0_closeParts_80 rfl (lv_at hl 5 rfl) ?_
                                    refine lv_dup hx hb dX0_closeParts_81 rfl ?_
                                    refine g_getk (C := RX0) (T := TX0) (N := 14) hx hb hts (mc_ inX0) hown hK g rfl 8 (by decide) rfl (hts _ (List.mem_cons_of_mem _ t_381)) (fun _ h9 => h9) 6 rfl dX0_closeParts_82 ?_
                                    refine lv_iconst (v := 1) hx hb dX0_closeParts_85 (by decide) ?_
                                    refine lv_isub hx hb dX0_closeParts_86 ?_
                                    refine lv_topi (fun y_290 ey_290 => ?_)
                                    obtain rfl : y_55 = y_290 := ey_55.trans ey_290.symm
                                    refine g_put (C := RX0) (T := TX0) (N := 14) hx hb hts (mc_ inX0) tyX0 tyX0_ok nmX0 hown hK g ma0_ ka0_ (by decide) rfl 8 (by decide) (hts _ (List.mem_cons_of_mem _ t_381)) (fun _ h9 => h9) rfl rfl (okV_i (bd_sub b_56 (by decide))) rfl rfl (by decide) (Or.inr (Or.inl (by decide))) (fx' := [(8, 6, q0_, .int 1201), (8, 8, q0_, .int x_40), (0, 4, a0_, .ref a_37), (0, 12, a0_, .int 0), (0, 10, a0_, .int w4_0_10_a0_), (7, 6, q1_, .int w4_7_6_q1_), (0, 3, a0_, .ref g76_0_3_a0_), (0, 0, a0_, .ref q0_), (0, 2, a0_, .ref q1_)]) rfl dX0_closeParts_87 (fun f H locs hM_291 g => ?_)
                                    refine lv_aload_n hx hb dX0_closeParts_90 rfl (lv_at hl 5 rfl) ?_
                                    refine g_calli (va_runV (As := []) (rest := []) ⟨hx, hb, hml, hown, hts⟩ (r_X0_takeHeight l dC dI L kd tys f H.size g.2.2.2.1 a0_ ma0_ ka0_) (cwV 0 hts (gV_ t_1199 t_1201 t_16 t_190 t_1202) rfl rfl rfl (by decide +kernel) ⟨(Nat.le_of_ble_eq_true rfl), (Nat.le_of_ble_eq_true rfl)⟩) (pre3V g hK ma0_ ka0_ (by decide) (q := (RX0, TX0, 14)) rfl) rfl rfl hl.1 rfl (lv_room (Nat.le_of_ble_eq_true rfl)) dX0_closeParts_91 ⟨(Nat.le_of_ble_eq_true rfl), (Nat.le_of_ble_eq_true rfl)⟩) g hK (by decide) (by decide) (fx' := [(0, 8, a0_, .int y_55), (8, 6, q0_, .int 1201), (8, 8, q0_, .int x_40), (0, 4, a0_, .ref a_37), (0, 12, a0_, .int 0), (7, 6, q1_, .int w4_7_6_q1_), (0, 3, a0_, .ref g76_0_3_a0_), (0, 0, a0_, .ref q0_), (0, 2, a0_, .ref q1_)]) rfl (fun r_292 fr_292 H locs hp hMr_292 g => ?_)
                                    obtain ⟨x_293, h_294, hF_295⟩ := hp
                                    have g := g.more hF_295
                                    refine lv_istore (lv' := [(6, .int r_292), (2, .int 1), (5, .int 1), (4, .int x_57), (3, .int v4_3), (0, .ref a0_), (1, .int x1_)]) hx hb dX0_closeParts_94 hl (by decide) rfl (fun ls hl => ?_)
                                    refine lv_iload hx hb dX0_closeParts_96 (lv_at hl 2 rfl) ?_
                                    refine lv_if_eq (tgt := 136) hx hb dX0_closeParts_98 (by decide) (fun c_ => absurd c_ (by decide)) (fun c_ => ?_)
                                    refine lv_aload_n hx hb dX0_closeParts_101 rfl (lv_at hl 5 rfl) ?_
                                    refine lv_dup hx hb dX0_closeParts_102 rfl ?_
                                    refine g_geti (C := RX0) (T := TX0) (N := 14) hx hb hts (mc_ inX0) hown hK g ma0_ ka0_ (by decide) rfl 11 (by decide) rfl (hts _ (List.mem_cons_of_mem _ t_384)) (fun _ h9 => h9) rfl dX0_closeParts_103 (fun x_296 bx_296 g => ?_)
                                    refine lv_iconst (v := 1) hx hb dX0_closeParts_106 (by decide) ?_
                                    refine lv_isub hx hb dX0_closeParts_107 ?_
                                    refine lv_topi (fun y_297 ey_297 => ?_)
                                    refine g_put (C := RX0) (T := TX0) (N := 14) hx hb hts (mc_ inX0) tyX0 tyX0_ok nmX0 hown hK g ma0_ ka0_ (by decide) rfl 11 (by decide) (hts _ (List.mem_cons_of_mem _ t_384)) (fun _ h9 => h9) rfl rfl (okV_i (bdT y_297)) rfl rfl (by decide) (Or.inr (Or.inl (by decide))) (fx' := [(0, 10, a0_, .int x_293), (0, 8, a0_, .int y_55), (8, 6, q0_, .int 1201), (8, 8, q0_, .int x_40), (0, 4, a0_, .ref a_37), (0, 12, a0_, .int 0), (7, 6, q1_, .int w4_7_6_q1_), (0, 3, a0_, .ref g76_0_3_a0_), (0, 0, a0_, .ref q0_), (0, 2, a0_, .ref q1_)]) rfl dX0_closeParts_108 (fun f H locs hM_298 g => ?_)
                                    refine lv_aload_n hx hb dX0_closeParts_111 rfl (lv_at hl 5 rfl) ?_
                                    refine g_getk (C := RX0) (T := TX0) (N := 14) hx hb hts (mc_ inX0) hown hK g rfl 2 (by decide) rfl (hts _ (List.mem_cons_of_mem _ t_375)) (fun _ h9 => h9) 10 rfl dX0_closeParts_112 ?_
                                    refine lv_iload hx hb dX0_closeParts_115 (lv_at hl 3 rfl) ?_
                                    refine lv_bipush (v := 6) hx hb dX0_closeParts_117 (by decide) ?_
                                    refine lv_icmp_ne (tgt := 127) hx hb dX0_closeParts_119 (by decide) (fun c_299 => ?_) (fun c_299 => ?_)
                                    · have fc_299 := neq_f c_299
                                      refine lv_bipush (v := 7) hx hb dX0_closeParts_127 (by decide) ?_
                                      refine lv_iconst (v := 0) hx hb dX0_closeParts_129 (by decide) ?_
                                      refine g_callv (va_runV (As := [.int 7, .int 0]) (rest := []) ⟨hx, hb, hml, hown, hts⟩ (r_X7_emit l dC dI L kd tys f H.size g.2.2.2.1 q1_ mq1_ kq1_ 7 0) (cwV 2 hts (gV_ t_1203 t_1204 t_1205 t_191 t_1206) rfl rfl rfl (by decide +kernel) ⟨(Nat.le_of_ble_eq_true rfl), (Nat.le_of_ble_eq_true rfl)⟩) (pre3V g hK mq1_ kq1_ (by decide) (q := (RX7, TX7, 19)) rfl) rfl rfl hl.1 rfl (lv_room (Nat.le_of_ble_eq_true rfl)) dX0_closeParts_130 ⟨(Nat.le_of_ble_eq_true rfl), (Nat.le_of_ble_eq_true rfl)⟩) g hK (by decide) (by decide) (fx' := [(0, 11, a0_, .int y_297), (0, 10, a0_, .int x_293), (0, 8, a0_, .int y_55), (8, 6, q0_, .int 1201), (8, 8, q0_, .int x_40), (0, 4, a0_, .ref a_37), (0, 12, a0_, .int 0), (0, 3, a0_, .ref g76_0_3_a0_), (0, 0, a0_, .ref q0_), (0, 2, a0_, .ref q1_)]) rfl (fun fr_300 H locs hp hMr_300 g => ?_)
                                      obtain ⟨x_301, h_302, hF_303⟩ := hp
                                      have g := g.more hF_303
                                      refine lv_goto (tgt := 191) hx hb dX0_closeParts_133 (by decide) ?_
                                      refine lv_iconst (v := 1) hx hb dX0_closeParts_191 (by decide) ?_
                                      refine lv_iload hx hb dX0_closeParts_192 (lv_at hl 2 rfl) ?_
                                      refine lv_if_eq (tgt := 202) hx hb dX0_closeParts_194 (by decide) (fun c_ => absurd c_ (by decide)) (fun c_ => ?_)
                                      refine lv_iload hx hb dX0_closeParts_197 (lv_at hl 0 rfl) ?_
                                      refine lv_goto (tgt := 211) hx hb dX0_closeParts_199 (by decide) ?_
                                      refine lv_iadd hx hb dX0_closeParts_211 ?_
                                      refine lv_topi (fun y_304 ey_304 => ?_)
                                      refine lv_istore (lv' := [(6, .int y_304), (2, .int 1), (5, .int 1), (4, .int x_57), (3, .int v4_3), (0, .ref a0_), (1, .int x1_)]) hx hb dX0_closeParts_212 hl (by decide) rfl (fun ls hl => ?_)
                                      refine lv_aload_n hx hb dX0_closeParts_214 rfl (lv_at hl 5 rfl) ?_
                                      refine lv_iload hx hb dX0_closeParts_215 (lv_at hl 0 rfl) ?_
                                      refine g_callv (va_runV (As := [.int y_304]) (rest := []) ⟨hx, hb, hml, hown, hts⟩ (r_X0_addWhole l dC dI L kd tys fr_300 H.size g.2.2.2.1 a0_ ma0_ ka0_ y_304) (cwV 1 hts (gV_ t_1211 t_1213 t_17 t_190 t_1214) rfl rfl rfl (by decide +kernel) ⟨(Nat.le_of_ble_eq_true rfl), (Nat.le_of_ble_eq_true rfl)⟩) (pre3V g hK ma0_ ka0_ (by decide) (q := (RX0, TX0, 14)) rfl) rfl rfl hl.1 rfl (lv_room (Nat.le_of_ble_eq_true rfl)) dX0_closeParts_217 ⟨(Nat.le_of_ble_eq_true rfl), (Nat.le_of_ble_eq_true rfl)⟩) g hK (by decide) (by decide) (fx' := [(7, 6, q1_, .int x_301), (0, 11, a0_, .int y_297), (0, 8, a0_, .int y_55), (8, 6, q0_, .int 1201), (8, 8, q0_, .int x_40), (0, 4, a0_, .ref a_37), (0, 3, a0_, .ref g76_0_3_a0_), (0, 0, a0_, .ref q0_), (0, 2, a0_, .ref q1_)]) rfl (fun fr_305 H locs hp hMr_305 g => ?_)
                                      obtain ⟨x_306, h_307, hF_308⟩ := hp
                                      have g := g.more hF_308
                                      refine lv_iload hx hb dX0_closeParts_220 (lv_at hl 0 rfl) ?_
                                      refine lv_bipush (v := 12) hx hb dX0_closeParts_222 (by decide) ?_
                                      refine lv_icmp_le (tgt := 245) hx hb dX0_closeParts_224 (by decide) (fun c_309 => ?_) (fun c_309 => ?_)
                                      · have fc_309 := le_f c_309
                                        have b_310 : bd (-2147483648) 12 y_304 := leL fc_309 (bdT y_304) kb_12 (by decide)
                                        obtain ⟨y_311, ey_311⟩ : ∃ z : Int32, z = v4_3 + 1 := ⟨_, rfl⟩
                                        refine lv_iinc (v := y_311) (lv' := [(3, .int y_311), (6, .int y_304), (2, .int 1), (5, .int 1), (4, .int x_57), (0, .ref a0_), (1, .int x1_)]) hx hb dX0_closeParts_245 hl (k := 4) rfl (by rw [ey_311]; rfl) (by decide) rfl (fun ls hl => ?_)
                                        have ty_311 := add_bd ey_311 b_48 kb_1 (by decide)
                                        have b_312 : bd 2 300 y_311 := add_rg ty_311 b_48 kb_1 (by decide)
                                        refine lv_goto (tgt := 4) hx hb dX0_closeParts_248 (by decide) ?_
                                        have hl9 := lv_sub hl [0, 1, 2, 3, 4, 5, 6] (by rfl : lv_pick [(3, .int y_311), (6, .int y_304), (2, .int 1), (5, .int 1), (4, .int x_57), (0, .ref a0_), (1, .int x1_)] [0, 1, 2, 3, 4, 5, 6] = [(3, .int y_311), (6, .int y_304), (2, .int 1), (5, .int 1), (4, .int x_57), (0, .ref a0_), (1, .int x1_)])
                                        have g9 := g.sub (fx' := [(8, 6, q0_, .int 1201), (8, 8, q0_, .int x_40), (0, 4, a0_, .ref a_37), (0, 12, a0_, .int 0), (0, 10, a0_, .int x_306), (7, 6, q1_, .int x_301), (0, 8, a0_, .int y_55), (0, 3, a0_, .ref g76_0_3_a0_), (0, 0, a0_, .ref q0_), (0, 2, a0_, .ref q1_)]) [5, 6, 7, 0, 1, 2, 4, 8, 9, 10] rfl
                                        exact ih4  y_311 y_304 1 1 x_57 x_306 x_301 y_55 (bd_sub b_312 (by decide)) (bd_sub kb_1 (by decide)) (bd_sub kb_1 (by decide)) h_307 h_302 (bd_sub b_56 (by decide)) (by have h9_0 := b_289; unfold bd at h9_0; have h9_1 := b_310; unfold bd at h9_1; have h9_2 := b_312; unfold bd at h9_2; have h9_3 := b_56; unfold bd at h9_3; have h9_4 := bdT v4_4; unfold bd at h9_4; have h9_5 := bdT v4_6; unfold bd at h9_5; have h9_6 := bv4_2; unfold bd at h9_6; have h9_7 := bv4_3; unfold bd at h9_7; have h9_8 := bv4_5; unfold bd at h9_8; have h9_9 := bw4_0_10_a0_; unfold bd at h9_9; have h9_10 := bw4_0_8_a0_; unfold bd at h9_10; have h9_11 := bw4_7_6_q1_; unfold bd at h9_11; have h9_12 := h_302; unfold bd at h9_12; have h9_13 := h_307; unfold bd at h9_13; have h9_14 := kb_0; unfold bd at h9_14; have h9_15 := kb_1; unfold bd at h9_15; have h9_16 := kb_12; unfold bd at h9_16; have h9_17 := kb_300; unfold bd at h9_17; have h9_18 := kb_6; unfold bd at h9_18; have h9_19 := kb_7; unfold bd at h9_19; omega) _ _ _ _ g9  hl9
                                      · have fc_309 := nle_f c_309
                                        have b_313 : bd 13 2147483647 y_304 := ltR fc_309 kb_12 (bdT y_304) (by decide)
                                        refine lv_aload_n hx hb dX0_closeParts_227 rfl (lv_at hl 5 rfl) ?_
                                        refine g_getk (C := RX0) (T := TX0) (N := 14) hx hb hts (mc_ inX0) hown hK g rfl 0 (by decide) rfl (hts _ (List.mem_cons_of_mem _ t_373)) (fun _ h9 => h9) 9 rfl dX0_closeParts_228 ?_
                                        refine lv_bipush (v := 7) hx hb dX0_closeParts_231 (by decide) ?_
                                        refine lv_aload_n hx hb dX0_closeParts_233 rfl (lv_at hl 5 rfl) ?_
                                        refine g_getk (C := RX0) (T := TX0) (N := 14) hx hb hts (mc_ inX0) hown hK g rfl 4 (by decide) rfl (hts _ (List.mem_cons_of_mem _ t_377)) (fun _ h9 => h9) 7 rfl dX0_closeParts_234 ?_
                                        refine lv_aload_n hx hb dX0_closeParts_237 rfl (lv_at hl 5 rfl) ?_
                                        refine g_getk (C := RX0) (T := TX0) (N := 14) hx hb hts (mc_ inX0) hown hK g rfl 8 (by decide) rfl (hts _ (List.mem_cons_of_mem _ t_381)) (fun _ h9 => h9) 4 rfl dX0_closeParts_238 ?_
                                        refine g_iald hx hb hK g ma_37 ka_37 (by decide) rfl (in_bd b_56 (by decide)) dX0_closeParts_241 (fun x_314 bx_314 cx_314 => ?_)
                                        refine g_callv (va_runV (As := [.int 7, .int x_314]) (rest := []) ⟨hx, hb, hml, hown, hts⟩ (r_X8_fail_2 l dC dI L kd tys fr_305 H.size g.2.2.2.1 q0_ mq0_ kq0_ 7 (bd_sub kb_7 (by decide)) x_314 x_40 h_41 (g.fcts [6] rfl)) (cwV 2 hts (gV_ t_1215 t_1107 t_1108 t_184 t_1109) rfl rfl rfl (by decide +kernel) ⟨(Nat.le_of_ble_eq_true rfl), (Nat.le_of_ble_eq_true rfl)⟩) (pre3V g hK mq0_ kq0_ (by decide) (q := (RX8, TX8, 10)) rfl) rfl rfl hl.1 rfl (lv_room (Nat.le_of_ble_eq_true rfl)) dX0_closeParts_242 ⟨(Nat.le_of_ble_eq_true rfl), (Nat.le_of_ble_eq_true rfl)⟩) g hK (by decide) (by decide) (fx' := [(0, 12, a0_, .int 0), (0, 10, a0_, .int x_306), (7, 6, q1_, .int x_301), (0, 11, a0_, .int y_297), (0, 8, a0_, .int y_55), (8, 8, q0_, .int x_40), (0, 4, a0_, .ref a_37), (0, 3, a0_, .ref g76_0_3_a0_), (0, 0, a0_, .ref q0_), (0, 2, a0_, .ref q1_)]) rfl (fun fr_315 H locs hp hMr_315 g => ?_)
                                        have hF_316 := hp
                                        have g := g.more hF_316
                                        obtain ⟨y_317, ey_317⟩ : ∃ z : Int32, z = v4_3 + 1 := ⟨_, rfl⟩
                                        refine lv_iinc (v := y_317) (lv' := [(3, .int y_317), (6, .int y_304), (2, .int 1), (5, .int 1), (4, .int x_57), (0, .ref a0_), (1, .int x1_)]) hx hb dX0_closeParts_245 hl (k := 4) rfl (by rw [ey_317]; rfl) (by decide) rfl (fun ls hl => ?_)
                                        have ty_317 := add_bd ey_317 b_48 kb_1 (by decide)
                                        have b_318 : bd 2 300 y_317 := add_rg ty_317 b_48 kb_1 (by decide)
                                        refine lv_goto (tgt := 4) hx hb dX0_closeParts_248 (by decide) ?_
                                        have hl9 := lv_sub hl [0, 1, 2, 3, 4, 5, 6] (by rfl : lv_pick [(3, .int y_317), (6, .int y_304), (2, .int 1), (5, .int 1), (4, .int x_57), (0, .ref a0_), (1, .int x1_)] [0, 1, 2, 3, 4, 5, 6] = [(3, .int y_317), (6, .int y_304), (2, .int 1), (5, .int 1), (4, .int x_57), (0, .ref a0_), (1, .int x1_)])
                                        have g9 := g.sub (fx' := [(8, 6, q0_, .int 1201), (8, 8, q0_, .int x_40), (0, 4, a0_, .ref a_37), (0, 12, a0_, .int 0), (0, 10, a0_, .int x_306), (7, 6, q1_, .int x_301), (0, 8, a0_, .int y_55), (0, 3, a0_, .ref g76_0_3_a0_), (0, 0, a0_, .ref q0_), (0, 2, a0_, .ref q1_)]) [0, 6, 7, 1, 2, 3, 5, 8, 9, 10] rfl
                                        exact ih4  y_317 y_304 1 1 x_57 x_306 x_301 y_55 (bd_sub b_318 (by decide)) (bd_sub kb_1 (by decide)) (bd_sub kb_1 (by decide)) h_307 h_302 (bd_sub b_56 (by decide)) (by have h9_0 := b_289; unfold bd at h9_0; have h9_1 := b_313; unfold bd at h9_1; have h9_2 := b_318; unfold bd at h9_2; have h9_3 := b_56; unfold bd at h9_3; have h9_4 := bdT v4_4; unfold bd at h9_4; have h9_5 := bdT v4_6; unfold bd at h9_5; have h9_6 := bv4_2; unfold bd at h9_6; have h9_7 := bv4_3; unfold bd at h9_7; have h9_8 := bv4_5; unfold bd at h9_8; have h9_9 := bw4_0_10_a0_; unfold bd at h9_9; have h9_10 := bw4_0_8_a0_; unfold bd at h9_10; have h9_11 := bw4_7_6_q1_; unfold bd at h9_11; have h9_12 := h_302; unfold bd at h9_12; have h9_13 := h_307; unfold bd at h9_13; have h9_14 := kb_0; unfold bd at h9_14; have h9_15 := kb_1; unfold bd at h9_15; have h9_16 := kb_12; unfold bd at h9_16; have h9_17 := kb_300; unfold bd at h9_17; have h9_18 := kb_6; unfold bd at h9_18; have h9_19 := kb_7; unfold bd at h9_19; omega) _ _ _ _ g9  hl9
                                    · have fc_299 := eq_f c_299
                                      exact absurd fc_299 fc_58
                      have hl9 := lv_sub hl [0, 1, 2, 3, 4, 5, 6] (by rfl : lv_pick [(3, .int y_43), (6, .int y_27), (2, .int j76_2), (5, .int j76_5), (4, .int j76_4), (0, .ref a0_), (1, .int x1_)] [0, 1, 2, 3, 4, 5, 6] = [(3, .int y_43), (6, .int y_27), (2, .int j76_2), (5, .int j76_5), (4, .int j76_4), (0, .ref a0_), (1, .int x1_)])
                      have g9 := g.sub (fx' := [(8, 6, q0_, .int 1201), (8, 8, q0_, .int x_40), (0, 4, a0_, .ref a_37), (0, 12, a0_, .int 0), (0, 10, a0_, .int x_29), (7, 6, q1_, .int g191_7_6_q1_), (0, 8, a0_, .int g191_0_8_a0_), (0, 3, a0_, .ref g76_0_3_a0_), (0, 0, a0_, .ref q0_), (0, 2, a0_, .ref q1_)]) [0, 1, 2, 3, 4, 5, 6, 7, 8, 9] rfl
                      exact loop_45 (601) y_43 y_27 j76_2 j76_5 j76_4 x_29 g191_7_6_q1_ g191_0_8_a0_ b_44 (bd_sub b_17 (by decide)) (bd_sub b_20 (by decide)) h_30 bg191_7_6_q1_ bg191_0_8_a0_ (by have h9_0 := b_17; unfold bd at h9_0; have h9_1 := b_20; unfold bd at h9_1; have h9_2 := b_36; unfold bd at h9_2; have h9_3 := b_44; unfold bd at h9_3; have h9_4 := bdT j76_4; unfold bd at h9_4; have h9_5 := bg191_0_8_a0_; unfold bd at h9_5; have h9_6 := bg191_7_6_q1_; unfold bd at h9_6; have h9_7 := h_30; unfold bd at h9_7; have h9_8 := kb_0; unfold bd at h9_8; have h9_9 := kb_1; unfold bd at h9_9; have h9_10 := kb_12; unfold bd at h9_10; have h9_11 := kb_300; unfold bd at h9_11; have h9_12 := kb_7; unfold bd at h9_12; omega) _ _ _ _ g9  hl9
                  · have fc_19 := neq_f c_19
                    have b_319 : bd 1 1 j76_5 := neX fc_19 bj76_5 kb_0 (by decide)
                    refine lv_iload hx hb dX0_closeParts_197 (lv_at hl 0 rfl) ?_
                    refine lv_goto (tgt := 211) hx hb dX0_closeParts_199 (by decide) ?_
                    have kb_1 : bd 1 1 (1 : Int32) := ⟨by decide, by decide⟩
                    refine lv_iadd hx hb dX0_closeParts_211 ?_
                    refine lv_topi (fun y_320 ey_320 => ?_)
                    refine lv_istore (lv' := [(6, .int y_320), (2, .int j76_2), (5, .int j76_5), (4, .int j76_4), (3, .int v4_3), (0, .ref a0_), (1, .int x1_)]) hx hb dX0_closeParts_212 hl (by decide) rfl (fun ls hl => ?_)
                    refine lv_aload_n hx hb dX0_closeParts_214 rfl (lv_at hl 5 rfl) ?_
                    refine lv_iload hx hb dX0_closeParts_215 (lv_at hl 0 rfl) ?_
                    refine g_callv (va_runV (As := [.int y_320]) (rest := []) ⟨hx, hb, hml, hown, hts⟩ (r_X0_addWhole l dC dI L kd tys f H.size g.2.2.2.1 a0_ ma0_ ka0_ y_320) (cwV 1 hts (gV_ t_1211 t_1213 t_17 t_190 t_1214) rfl rfl rfl (by decide +kernel) ⟨(Nat.le_of_ble_eq_true rfl), (Nat.le_of_ble_eq_true rfl)⟩) (pre3V g hK ma0_ ka0_ (by decide) (q := (RX0, TX0, 14)) rfl) rfl rfl hl.1 rfl (lv_room (Nat.le_of_ble_eq_true rfl)) dX0_closeParts_217 ⟨(Nat.le_of_ble_eq_true rfl), (Nat.le_of_ble_eq_true rfl)⟩) g hK (by decide) (by decide) (fx' := [(7, 6, q1_, .int g191_7_6_q1_), (0, 8, a0_, .int g191_0_8_a0_), (0, 3, a0_, .ref g76_0_3_a0_), (0, 0, a0_, .ref q0_), (0, 2, a0_, .ref q1_), (8, 8, q0_, .int y0_)]) rfl (fun fr_321 H locs hp hMr_321 g => ?_)
                    obtain ⟨x_322, h_323, hF_324⟩ := hp
                    have g := g.more hF_324
                    refine lv_iload hx hb dX0_closeParts_220 (lv_at hl 0 rfl) ?_
                    refine lv_bipush (v := 12) hx hb dX0_closeParts_222 (by decide) ?_
                    have kb_12 : bd 12 12 (12 : Int32) := ⟨by decide, by decide⟩
                    refine lv_icmp_le (tgt := 245) hx hb dX0_closeParts_224 (by decide) (fun c_325 => ?_) (fun c_325 => ?_)
                    · have fc_325 := le_f c_325
                      have b_326 : bd (-2147483648) 12 y_320 := leL fc_325 (bdT y_320) kb_12 (by decide)
                      obtain ⟨y_327, ey_327⟩ : ∃ z : Int32, z = v4_3 + 1 := ⟨_, rfl⟩
                      refine lv_iinc (v := y_327) (lv' := [(3, .int y_327), (6, .int y_320), (2, .int j76_2), (5, .int j76_5), (4, .int j76_4), (0, .ref a0_), (1, .int x1_)]) hx hb dX0_closeParts_245 hl (k := 4) rfl (by rw [ey_327]; rfl) (by decide) rfl (fun ls hl => ?_)
                      have ty_327 := add_bd ey_327 b_4 kb_1 (by decide)
                      have b_328 : bd 1 300 y_327 := add_rg ty_327 b_4 kb_1 (by decide)
                      refine lv_goto (tgt := 4) hx hb dX0_closeParts_248 (by decide) ?_
                      have hl9 := lv_sub hl [0, 2, 5, 6] (by rfl : lv_pick [(3, .int y_327), (6, .int y_320), (2, .int j76_2), (5, .int j76_5), (4, .int j76_4), (0, .ref a0_), (1, .int x1_)] [0, 2, 5, 6] = [(3, .int y_327), (2, .int j76_2), (0, .ref a0_), (1, .int x1_)])
                      have g9 := g.sub (fx' := [(0, 0, a0_, .ref q0_), (0, 2, a0_, .ref q1_), (8, 8, q0_, .int y0_)]) [5, 6, 7] rfl
                      exact ih4  y_327 j76_2 (bd_sub b_328 (by decide)) (bd_sub b_17 (by decide)) (by have h9_0 := b_17; unfold bd at h9_0; have h9_1 := b_328; unfold bd at h9_1; have h9_2 := bv4_2; unfold bd at h9_2; have h9_3 := bv4_3; unfold bd at h9_3; have h9_4 := kb_0; unfold bd at h9_4; have h9_5 := kb_1; unfold bd at h9_5; have h9_6 := kb_12; unfold bd at h9_6; have h9_7 := kb_300; unfold bd at h9_7; omega) _ _ _ _ g9  hl9
                    · have fc_325 := nle_f c_325
                      have b_329 : bd 13 2147483647 y_320 := ltR fc_325 kb_12 (bdT y_320) (by decide)
                      refine lv_aload_n hx hb dX0_closeParts_227 rfl (lv_at hl 5 rfl) ?_
                      refine g_getk (C := RX0) (T := TX0) (N := 14) hx hb hts (mc_ inX0) hown hK g rfl 0 (by decide) rfl (hts _ (List.mem_cons_of_mem _ t_373)) (fun _ h9 => h9) 5 rfl dX0_closeParts_228 ?_
                      refine lv_bipush (v := 7) hx hb dX0_closeParts_231 (by decide) ?_
                      refine lv_aload_n hx hb dX0_closeParts_233 rfl (lv_at hl 5 rfl) ?_
                      refine g_getr (K := 111) (C := RX0) (T := TX0) (N := 14) hx hb hts (mc_ inX0) hown hK g ma0_ ka0_ (by decide) rfl 4 (by decide) rfl (hts _ (List.mem_cons_of_mem _ t_377)) (fun _ h9 => h9) rfl dX0_closeParts_234 (fun a_330 ma_330 ka_330 g => ?_)
                      refine lv_aload_n hx hb dX0_closeParts_237 rfl (lv_at hl 5 rfl) ?_
                      refine g_getk (C := RX0) (T := TX0) (N := 14) hx hb hts (mc_ inX0) hown hK g rfl 8 (by decide) rfl (hts _ (List.mem_cons_of_mem _ t_381)) (fun _ h9 => h9) 4 rfl dX0_closeParts_238 ?_
                      refine g_iald hx hb hK g ma_330 ka_330 (by decide) rfl (in_bd bg191_0_8_a0_ (by decide)) dX0_closeParts_241 (fun x_331 bx_331 cx_331 => ?_)
                      have kb_7 : bd 7 7 (7 : Int32) := ⟨by decide, by decide⟩
                      refine g_callv (va_runV (As := [.int 7, .int x_331]) (rest := []) ⟨hx, hb, hml, hown, hts⟩ (r_X8_fail l dC dI L kd tys fr_321 H.size g.2.2.2.1 q0_ mq0_ kq0_ 7 (bd_sub kb_7 (by decide)) x_331 y0_ by0_ (g.fcts [8] rfl)) (cwV 2 hts (gV_ t_1215 t_1107 t_1108 t_184 t_1109) rfl rfl rfl (by decide +kernel) ⟨(Nat.le_of_ble_eq_true rfl), (Nat.le_of_ble_eq_true rfl)⟩) (pre3V g hK mq0_ kq0_ (by decide) (q := (RX8, TX8, 10)) rfl) rfl rfl hl.1 rfl (lv_room (Nat.le_of_ble_eq_true rfl)) dX0_closeParts_242 ⟨(Nat.le_of_ble_eq_true rfl), (Nat.le_of_ble_eq_true rfl)⟩) g hK (by decide) (by decide) (fx' := [(0, 4, a0_, .ref a_330), (0, 12, a0_, .int 0), (0, 10, a0_, .int x_322), (7, 6, q1_, .int g191_7_6_q1_), (0, 8, a0_, .int g191_0_8_a0_), (0, 3, a0_, .ref g76_0_3_a0_), (0, 0, a0_, .ref q0_), (0, 2, a0_, .ref q1_)]) rfl (fun fr_332 H locs hp hMr_332 g => ?_)
                      obtain ⟨x_333, h_334, hF_335⟩ := hp
                      have g := g.more hF_335
                      obtain ⟨y_336, ey_336⟩ : ∃ z : Int32, z = v4_3 + 1 := ⟨_, rfl⟩
                      refine lv_iinc (v := y_336) (lv' := [(3, .int y_336), (6, .int y_320), (2, .int j76_2), (5, .int j76_5), (4, .int j76_4), (0, .ref a0_), (1, .int x1_)]) hx hb dX0_closeParts_245 hl (k := 4) rfl (by rw [ey_336]; rfl) (by decide) rfl (fun ls hl => ?_)
                      have ty_336 := add_bd ey_336 b_4 kb_1 (by decide)
                      have b_337 : bd 1 300 y_336 := add_rg ty_336 b_4 kb_1 (by decide)
                      refine lv_goto (tgt := 4) hx hb dX0_closeParts_248 (by decide) ?_
                      have loop_338 : ∀ (n : Nat) (v4_3 : Int32) (v4_6 : Int32) (v4_2 : Int32) (v4_5 : Int32) (v4_4 : Int32) (w4_0_10_a0_ : Int32) (w4_7_6_q1_ : Int32) (w4_0_8_a0_ : Int32), bd 1 300 v4_3 → bd 0 1 v4_2 → bd 0 1 v4_5 → bd 1 300 w4_0_10_a0_ → bd 1 2000 w4_7_6_q1_ → bd 0 299 w4_0_8_a0_ → (300 - v4_3.toInt < (n : Int)) → ∀ (f : Nat → va_E) (H : Heap) (locs : List Loc) (ls : Array Slot), G3 (dC, dI) L kd tys s f0 [(0, 8), (0, 10), (0, 11), (0, 12), (7, 6), (8, 6), (8, 8), (8, 9)] [115, 138, 139] f H locs [(8, 6, q0_, .int 1201), (8, 8, q0_, .int x_333), (0, 4, a0_, .ref a_330), (0, 12, a0_, .int 0), (0, 10, a0_, .int w4_0_10_a0_), (7, 6, q1_, .int w4_7_6_q1_), (0, 8, a0_, .int w4_0_8_a0_), (0, 3, a0_, .ref g76_0_3_a0_), (0, 0, a0_, .ref q0_), (0, 2, a0_, .ref q1_)] → lv_has ls 7 [(3, .int v4_3), (6, .int v4_6), (2, .int v4_2), (5, .int v4_5), (4, .int v4_4), (0, .ref a0_), (1, .int x1_)] → W p l e ({ frames := 1, cells := 0, slots := 0, locals := 23 } : Room) s m [.ref a0_, .int x1_].toArray below meth c H locs 0 0 Q (F0 m 4 ls []) := by
                        intro n4
                        induction n4 with
                        | zero =>
                          intro v4_3 v4_6 v4_2 v4_5 v4_4 w4_0_10_a0_ w4_7_6_q1_ w4_0_8_a0_ bv4_3  bv4_2 bv4_5  bw4_0_10_a0_ bw4_7_6_q1_ bw4_0_8_a0_ hm4 f H locs ls g  hl
                          exact absurd hm4 (by have h9_v4_3 := bv4_3; unfold bd at h9_v4_3; have h9_v4_6 := bdT v4_6; unfold bd at h9_v4_6; have h9_v4_2 := bv4_2; unfold bd at h9_v4_2; have h9_v4_5 := bv4_5; unfold bd at h9_v4_5; have h9_v4_4 := bdT v4_4; unfold bd at h9_v4_4; have h9_w4_0_10_a0_ := bw4_0_10_a0_; unfold bd at h9_w4_0_10_a0_; have h9_w4_7_6_q1_ := bw4_7_6_q1_; unfold bd at h9_w4_7_6_q1_; have h9_w4_0_8_a0_ := bw4_0_8_a0_; unfold bd at h9_w4_0_8_a0_; omega)
                        | succ n4 ih4 =>
                          intro v4_3 v4_6 v4_2 v4_5 v4_4 w4_0_10_a0_ w4_7_6_q1_ w4_0_8_a0_ bv4_3  bv4_2 bv4_5  bw4_0_10_a0_ bw4_7_6_q1_ bw4_0_8_a0_ hm4 f H locs ls g  hl
                          refine lv_iload_n hx hb dX0_closeParts_4 rfl (lv_at hl 0 rfl) ?_
                          refine lv_sipush (v := 300) hx hb dX0_closeParts_5 (by decide) ?_
                          refine lv_icmp_ge (tgt := 251) hx hb dX0_closeParts_8 (by decide) (fun c_339 => ?_) (fun c_339 => ?_)
                          · have fc_339 := le_f c_339
                            have b_340 : bd 300 300 v4_3 := leR fc_339 kb_300 bv4_3 (by decide)
                            subst hQ
                            exact W.vret hx hb hr (fun t ht hW => ⟨⟨_, rfl, Or.inr (⟨x_333, h_334, w4_0_10_a0_, bw4_0_10_a0_, w4_7_6_q1_, bw4_7_6_q1_, w4_0_8_a0_, bw4_0_8_a0_, (g.fcts [0, 1, 3, 4, 5, 6] rfl)⟩), q3_of g hK ht hW⟩, g.2.2.1.F ht⟩) g.2.2.1.2.2 dX0_closeParts_251
                          · have fc_339 := nle_f c_339
                            have b_341 : bd 1 299 v4_3 := ltL fc_339 bv4_3 kb_300 (by decide)
                            refine lv_iload_n hx hb dX0_closeParts_11 rfl (lv_at hl 2 rfl) ?_
                            refine lv_if_eq (tgt := 251) hx hb dX0_closeParts_12 (by decide) (fun c_342 => ?_) (fun c_342 => ?_)
                            · have fc_342 := eq_f c_342
                              have b_343 : bd 0 0 v4_2 := eqX fc_342 bv4_2 kb_0 (by decide)
                              subst hQ
                              exact W.vret hx hb hr (fun t ht hW => ⟨⟨_, rfl, Or.inr (⟨x_333, h_334, w4_0_10_a0_, bw4_0_10_a0_, w4_7_6_q1_, bw4_7_6_q1_, w4_0_8_a0_, bw4_0_8_a0_, (g.fcts [0, 1, 3, 4, 5, 6] rfl)⟩), q3_of g hK ht hW⟩, g.2.2.1.F ht⟩) g.2.2.1.2.2 dX0_closeParts_251
                            · have fc_342 := neq_f c_342
                              have b_344 : bd 1 1 v4_2 := neX fc_342 bv4_2 kb_0 (by decide)
                              refine lv_aload_n hx hb dX0_closeParts_15 rfl (lv_at hl 5 rfl) ?_
                              refine g_getk (C := RX0) (T := TX0) (N := 14) hx hb hts (mc_ inX0) hown hK g rfl 8 (by decide) rfl (hts _ (List.mem_cons_of_mem _ t_381)) (fun _ h9 => h9) 6 rfl dX0_closeParts_16 ?_
                              refine lv_if_le (tgt := 251) hx hb dX0_closeParts_19 (by decide) (fun c_345 => ?_) (fun c_345 => ?_)
                              · have fc_345 := le_f c_345
                                have b_346 : bd 0 0 w4_0_8_a0_ := leL fc_345 bw4_0_8_a0_ kb_0 (by decide)
                                subst hQ
                                exact W.vret hx hb hr (fun t ht hW => ⟨⟨_, rfl, Or.inr (⟨x_333, h_334, w4_0_10_a0_, bw4_0_10_a0_, w4_7_6_q1_, bw4_7_6_q1_, w4_0_8_a0_, (bd_sub b_346 (by decide)), (g.fcts [0, 1, 3, 4, 5, 6] rfl)⟩), q3_of g hK ht hW⟩, g.2.2.1.F ht⟩) g.2.2.1.2.2 dX0_closeParts_251
                              · have fc_345 := nle_f c_345
                                have b_347 : bd 1 299 w4_0_8_a0_ := ltR fc_345 kb_0 bw4_0_8_a0_ (by decide)
                                refine lv_aload_n hx hb dX0_closeParts_22 rfl (lv_at hl 5 rfl) ?_
                                refine g_getk (C := RX0) (T := TX0) (N := 14) hx hb hts (mc_ inX0) hown hK g rfl 3 (by decide) rfl (hts _ (List.mem_cons_of_mem _ t_376)) (fun _ h9 => h9) 7 rfl dX0_closeParts_23 ?_
                                refine lv_aload_n hx hb dX0_closeParts_26 rfl (lv_at hl 5 rfl) ?_
                                refine g_getk (C := RX0) (T := TX0) (N := 14) hx hb hts (mc_ inX0) hown hK g rfl 8 (by decide) rfl (hts _ (List.mem_cons_of_mem _ t_381)) (fun _ h9 => h9) 6 rfl dX0_closeParts_27 ?_
                                refine lv_iconst (v := 1) hx hb dX0_closeParts_30 (by decide) ?_
                                refine lv_isub hx hb dX0_closeParts_31 ?_
                                refine lv_topi (fun y_348 ey_348 => ?_)
                                have ty_348 := sub_bd ey_348 b_347 kb_1 (by decide)
                                have b_349 : bd 0 298 y_348 := sub_rg ty_348 b_347 kb_1 (by decide)
                                refine g_iald hx hb hK g mg76_0_3_a0_ kg76_0_3_a0_ (by decide) rfl (in_bd b_349 (by decide)) dX0_closeParts_32 (fun x_350 bx_350 cx_350 => ?_)
                                refine lv_istore (lv' := [(4, .int x_350), (3, .int v4_3), (6, .int v4_6), (2, .int v4_2), (5, .int v4_5), (0, .ref a0_), (1, .int x1_)]) hx hb dX0_closeParts_33 hl (by decide) rfl (fun ls hl => ?_)
                                refine lv_iload hx hb dX0_closeParts_35 (lv_at hl 0 rfl) ?_
                                refine lv_bipush (v := 6) hx hb dX0_closeParts_37 (by decide) ?_
                                have kb_6 : bd 6 6 (6 : Int32) := ⟨by decide, by decide⟩
                                refine lv_icmp_eq (tgt := 49) hx hb dX0_closeParts_39 (by decide) (fun c_351 => ?_) (fun c_351 => ?_)
                                · have fc_351 := eq_f c_351
                                  have b_352 : bd 6 6 x_350 := eqX fc_351 (bdT x_350) kb_6 (by decide)
                                  refine lv_iconst (v := 1) hx hb dX0_closeParts_49 (by decide) ?_
                                  refine lv_goto (tgt := 54) hx hb dX0_closeParts_50 (by decide) ?_
                                  refine lv_istore (lv' := [(5, .int 1), (4, .int x_350), (3, .int v4_3), (6, .int v4_6), (2, .int v4_2), (0, .ref a0_), (1, .int x1_)]) hx hb dX0_closeParts_54 hl (by decide) rfl (fun ls hl => ?_)
                                  refine lv_iload hx hb dX0_closeParts_56 (lv_at hl 0 rfl) ?_
                                  refine lv_if_ne (tgt := 70) hx hb dX0_closeParts_58 (by decide) (fun c_ => ?_) (fun c_ => absurd c_ (by decide))
                                  refine lv_iconst (v := 1) hx hb dX0_closeParts_70 (by decide) ?_
                                  refine lv_goto (tgt := 75) hx hb dX0_closeParts_71 (by decide) ?_
                                  refine lv_istore_n (lv' := [(2, .int 1), (5, .int 1), (4, .int x_350), (3, .int v4_3), (6, .int v4_6), (0, .ref a0_), (1, .int x1_)]) hx hb dX0_closeParts_75 rfl hl (by decide) rfl (fun ls hl => ?_)
                                  refine lv_iload_n hx hb dX0_closeParts_76 rfl (lv_at hl 0 rfl) ?_
                                  refine lv_if_eq (tgt := 245) hx hb dX0_closeParts_77 (by decide) (fun c_ => absurd c_ (by decide)) (fun c_ => ?_)
                                  refine lv_aload_n hx hb dX0_closeParts_80 rfl (lv_at hl 5 rfl) ?_
                                  refine lv_dup hx hb dX0_closeParts_81 rfl ?_
                                  refine g_getk (C := RX0) (T := TX0) (N := 14) hx hb hts (mc_ inX0) hown hK g rfl 8 (by decide) rfl (hts _ (List.mem_cons_of_mem _ t_381)) (fun _ h9 => h9) 6 rfl dX0_closeParts_82 ?_
                                  refine lv_iconst (v := 1) hx hb dX0_closeParts_85 (by decide) ?_
                                  refine lv_isub hx hb dX0_closeParts_86 ?_
                                  refine lv_topi (fun y_353 ey_353 => ?_)
                                  obtain rfl : y_348 = y_353 := ey_348.trans ey_353.symm
                                  refine g_put (C := RX0) (T := TX0) (N := 14) hx hb hts (mc_ inX0) tyX0 tyX0_ok nmX0 hown hK g ma0_ ka0_ (by decide) rfl 8 (by decide) (hts _ (List.mem_cons_of_mem _ t_381)) (fun _ h9 => h9) rfl rfl (okV_i (bd_sub b_349 (by decide))) rfl rfl (by decide) (Or.inr (Or.inl (by decide))) (fx' := [(8, 6, q0_, .int 1201), (8, 8, q0_, .int x_333), (0, 4, a0_, .ref a_330), (0, 12, a0_, .int 0), (0, 10, a0_, .int w4_0_10_a0_), (7, 6, q1_, .int w4_7_6_q1_), (0, 3, a0_, .ref g76_0_3_a0_), (0, 0, a0_, .ref q0_), (0, 2, a0_, .ref q1_)]) rfl dX0_closeParts_87 (fun f H locs hM_354 g => ?_)
                                  refine lv_aload_n hx hb dX0_closeParts_90 rfl (lv_at hl 5 rfl) ?_
                                  refine g_calli (va_runV (As := []) (rest := []) ⟨hx, hb, hml, hown, hts⟩ (r_X0_takeHeight l dC dI L kd tys f H.size g.2.2.2.1 a0_ ma0_ ka0_) (cwV 0 hts (gV_ t_1199 t_1201 t_16 t_190 t_1202) rfl rfl rfl (by decide +kernel) ⟨(Nat.le_of_ble_eq_true rfl), (Nat.le_of_ble_eq_true rfl)⟩) (pre3V g hK ma0_ ka0_ (by decide) (q := (RX0, TX0, 14)) rfl) rfl rfl hl.1 rfl (lv_room (Nat.le_of_ble_eq_true rfl)) dX0_closeParts_91 ⟨(Nat.le_of_ble_eq_true rfl), (Nat.le_of_ble_eq_true rfl)⟩) g hK (by decide) (by decide) (fx' := [(0, 8, a0_, .int y_348), (8, 6, q0_, .int 1201), (8, 8, q0_, .int x_333), (0, 4, a0_, .ref a_330), (0, 12, a0_, .int 0), (7, 6, q1_, .int w4_7_6_q1_), (0, 3, a0_, .ref g76_0_3_a0_), (0, 0, a0_, .ref q0_), (0, 2, a0_, .ref q1_)]) rfl (fun r_355 fr_355 H locs hp hMr_355 g => ?_)
                                  obtain ⟨x_356, h_357, hF_358⟩ := hp
                                  have g := g.more hF_358
                                  refine lv_istore (lv' := [(6, .int r_355), (2, .int 1), (5, .int 1), (4, .int x_350), (3, .int v4_3), (0, .ref a0_), (1, .int x1_)]) hx hb dX0_closeParts_94 hl (by decide) rfl (fun ls hl => ?_)
                                  refine lv_iload hx hb dX0_closeParts_96 (lv_at hl 2 rfl) ?_
                                  refine lv_if_eq (tgt := 136) hx hb dX0_closeParts_98 (by decide) (fun c_ => absurd c_ (by decide)) (fun c_ => ?_)
                                  refine lv_aload_n hx hb dX0_closeParts_101 rfl (lv_at hl 5 rfl) ?_
                                  refine lv_dup hx hb dX0_closeParts_102 rfl ?_
                                  refine g_geti (C := RX0) (T := TX0) (N := 14) hx hb hts (mc_ inX0) hown hK g ma0_ ka0_ (by decide) rfl 11 (by decide) rfl (hts _ (List.mem_cons_of_mem _ t_384)) (fun _ h9 => h9) rfl dX0_closeParts_103 (fun x_359 bx_359 g => ?_)
                                  refine lv_iconst (v := 1) hx hb dX0_closeParts_106 (by decide) ?_
                                  refine lv_isub hx hb dX0_closeParts_107 ?_
                                  refine lv_topi (fun y_360 ey_360 => ?_)
                                  refine g_put (C := RX0) (T := TX0) (N := 14) hx hb hts (mc_ inX0) tyX0 tyX0_ok nmX0 hown hK g ma0_ ka0_ (by decide) rfl 11 (by decide) (hts _ (List.mem_cons_of_mem _ t_384)) (fun _ h9 => h9) rfl rfl (okV_i (bdT y_360)) rfl rfl (by decide) (Or.inr (Or.inl (by decide))) (fx' := [(0, 10, a0_, .int x_356), (0, 8, a0_, .int y_348), (8, 6, q0_, .int 1201), (8, 8, q0_, .int x_333), (0, 4, a0_, .ref a_330), (0, 12, a0_, .int 0), (7, 6, q1_, .int w4_7_6_q1_), (0, 3, a0_, .ref g76_0_3_a0_), (0, 0, a0_, .ref q0_), (0, 2, a0_, .ref q1_)]) rfl dX0_closeParts_108 (fun f H locs hM_361 g => ?_)
                                  refine lv_aload_n hx hb dX0_closeParts_111 rfl (lv_at hl 5 rfl) ?_
                                  refine g_getk (C := RX0) (T := TX0) (N := 14) hx hb hts (mc_ inX0) hown hK g rfl 2 (by decide) rfl (hts _ (List.mem_cons_of_mem _ t_375)) (fun _ h9 => h9) 10 rfl dX0_closeParts_112 ?_
                                  refine lv_iload hx hb dX0_closeParts_115 (lv_at hl 3 rfl) ?_
                                  refine lv_bipush (v := 6) hx hb dX0_closeParts_117 (by decide) ?_
                                  refine lv_icmp_ne (tgt := 127) hx hb dX0_closeParts_119 (by decide) (fun c_362 => ?_) (fun c_362 => ?_)
                                  · have fc_362 := neq_f c_362
                                    have b_363 : bd 7 5 x_350 := neX fc_362 b_352 kb_6 (by decide)
                                    exact bd_no b_363 (by decide)
                                  · have fc_362 := eq_f c_362
                                    refine lv_bipush (v := 6) hx hb dX0_closeParts_122 (by decide) ?_
                                    refine lv_goto (tgt := 129) hx hb dX0_closeParts_124 (by decide) ?_
                                    refine lv_iconst (v := 0) hx hb dX0_closeParts_129 (by decide) ?_
                                    refine g_callv (va_runV (As := [.int 6, .int 0]) (rest := []) ⟨hx, hb, hml, hown, hts⟩ (r_X7_emit l dC dI L kd tys f H.size g.2.2.2.1 q1_ mq1_ kq1_ 6 0) (cwV 2 hts (gV_ t_1203 t_1204 t_1205 t_191 t_1206) rfl rfl rfl (by decide +kernel) ⟨(Nat.le_of_ble_eq_true rfl), (Nat.le_of_ble_eq_true rfl)⟩) (pre3V g hK mq1_ kq1_ (by decide) (q := (RX7, TX7, 19)) rfl) rfl rfl hl.1 rfl (lv_room (Nat.le_of_ble_eq_true rfl)) dX0_closeParts_130 ⟨(Nat.le_of_ble_eq_true rfl), (Nat.le_of_ble_eq_true rfl)⟩) g hK (by decide) (by decide) (fx' := [(0, 11, a0_, .int y_360), (0, 10, a0_, .int x_356), (0, 8, a0_, .int y_348), (8, 6, q0_, .int 1201), (8, 8, q0_, .int x_333), (0, 4, a0_, .ref a_330), (0, 12, a0_, .int 0), (0, 3, a0_, .ref g76_0_3_a0_), (0, 0, a0_, .ref q0_), (0, 2, a0_, .ref q1_)]) rfl (fun fr_364 H locs hp hMr_364 g => ?_)
                                    obtain ⟨x_365, h_366, hF_367⟩ := hp
                                    have g := g.more hF_367
                                    refine lv_goto (tgt := 191) hx hb dX0_closeParts_133 (by decide) ?_
                                    refine lv_iconst (v := 1) hx hb dX0_closeParts_191 (by decide) ?_
                                    refine lv_iload hx hb dX0_closeParts_192 (lv_at hl 2 rfl) ?_
                                    refine lv_if_eq (tgt := 202) hx hb dX0_closeParts_194 (by decide) (fun c_ => absurd c_ (by decide)) (fun c_ => ?_)
                                    refine lv_iload hx hb dX0_closeParts_197 (lv_at hl 0 rfl) ?_
                                    refine lv_goto (tgt := 211) hx hb dX0_closeParts_199 (by decide) ?_
                                    refine lv_iadd hx hb dX0_closeParts_211 ?_
                                    refine lv_topi (fun y_368 ey_368 => ?_)
                                    refine lv_istore (lv' := [(6, .int y_368), (2, .int 1), (5, .int 1), (4, .int x_350), (3, .int v4_3), (0, .ref a0_), (1, .int x1_)]) hx hb dX0_closeParts_212 hl (by decide) rfl (fun ls hl => ?_)
                                    refine lv_aload_n hx hb dX0_closeParts_214 rfl (lv_at hl 5 rfl) ?_
                                    refine lv_iload hx hb dX0_closeParts_215 (lv_at hl 0 rfl) ?_
                                    refine g_callv (va_runV (As := [.int y_368]) (rest := []) ⟨hx, hb, hml, hown, hts⟩ (r_X0_addWhole l dC dI L kd tys fr_364 H.size g.2.2.2.1 a0_ ma0_ ka0_ y_368) (cwV 1 hts (gV_ t_1211 t_1213 t_17 t_190 t_1214) rfl rfl rfl (by decide +kernel) ⟨(Nat.le_of_ble_eq_true rfl), (Nat.le_of_ble_eq_true rfl)⟩) (pre3V g hK ma0_ ka0_ (by decide) (q := (RX0, TX0, 14)) rfl) rfl rfl hl.1 rfl (lv_room (Nat.le_of_ble_eq_true rfl)) dX0_closeParts_217 ⟨(Nat.le_of_ble_eq_true rfl), (Nat.le_of_ble_eq_true rfl)⟩) g hK (by decide) (by decide) (fx' := [(7, 6, q1_, .int x_365), (0, 11, a0_, .int y_360), (0, 8, a0_, .int y_348), (8, 6, q0_, .int 1201), (8, 8, q0_, .int x_333), (0, 4, a0_, .ref a_330), (0, 3, a0_, .ref g76_0_3_a0_), (0, 0, a0_, .ref q0_), (0, 2, a0_, .ref q1_)]) rfl (fun fr_369 H locs hp hMr_369 g => ?_)
                                    obtain ⟨x_370, h_371, hF_372⟩ := hp
                                    have g := g.more hF_372
                                    refine lv_iload hx hb dX0_closeParts_220 (lv_at hl 0 rfl) ?_
                                    refine lv_bipush (v := 12) hx hb dX0_closeParts_222 (by decide) ?_
                                    refine lv_icmp_le (tgt := 245) hx hb dX0_closeParts_224 (by decide) (fun c_373 => ?_) (fun c_373 => ?_)
                                    · have fc_373 := le_f c_373
                                      have b_374 : bd (-2147483648) 12 y_368 := leL fc_373 (bdT y_368) kb_12 (by decide)
                                      obtain ⟨y_375, ey_375⟩ : ∃ z : Int32, z = v4_3 + 1 := ⟨_, rfl⟩
                                      refine lv_iinc (v := y_375) (lv' := [(3, .int y_375), (6, .int y_368), (2, .int 1), (5, .int 1), (4, .int x_350), (0, .ref a0_), (1, .int x1_)]) hx hb dX0_closeParts_245 hl (k := 4) rfl (by rw [ey_375]; rfl) (by decide) rfl (fun ls hl => ?_)
                                      have ty_375 := add_bd ey_375 b_341 kb_1 (by decide)
                                      have b_376 : bd 2 300 y_375 := add_rg ty_375 b_341 kb_1 (by decide)
                                      refine lv_goto (tgt := 4) hx hb dX0_closeParts_248 (by decide) ?_
                                      have hl9 := lv_sub hl [0, 1, 2, 3, 4, 5, 6] (by rfl : lv_pick [(3, .int y_375), (6, .int y_368), (2, .int 1), (5, .int 1), (4, .int x_350), (0, .ref a0_), (1, .int x1_)] [0, 1, 2, 3, 4, 5, 6] = [(3, .int y_375), (6, .int y_368), (2, .int 1), (5, .int 1), (4, .int x_350), (0, .ref a0_), (1, .int x1_)])
                                      have g9 := g.sub (fx' := [(8, 6, q0_, .int 1201), (8, 8, q0_, .int x_333), (0, 4, a0_, .ref a_330), (0, 12, a0_, .int 0), (0, 10, a0_, .int x_370), (7, 6, q1_, .int x_365), (0, 8, a0_, .int y_348), (0, 3, a0_, .ref g76_0_3_a0_), (0, 0, a0_, .ref q0_), (0, 2, a0_, .ref q1_)]) [5, 6, 7, 0, 1, 2, 4, 8, 9, 10] rfl
                                      exact ih4  y_375 y_368 1 1 x_350 x_370 x_365 y_348 (bd_sub b_376 (by decide)) (bd_sub kb_1 (by decide)) (bd_sub kb_1 (by decide)) h_371 h_366 (bd_sub b_349 (by decide)) (by have h9_0 := b_349; unfold bd at h9_0; have h9_1 := b_352; unfold bd at h9_1; have h9_2 := b_374; unfold bd at h9_2; have h9_3 := b_376; unfold bd at h9_3; have h9_4 := bdT v4_4; unfold bd at h9_4; have h9_5 := bdT v4_6; unfold bd at h9_5; have h9_6 := bv4_2; unfold bd at h9_6; have h9_7 := bv4_3; unfold bd at h9_7; have h9_8 := bv4_5; unfold bd at h9_8; have h9_9 := bw4_0_10_a0_; unfold bd at h9_9; have h9_10 := bw4_0_8_a0_; unfold bd at h9_10; have h9_11 := bw4_7_6_q1_; unfold bd at h9_11; have h9_12 := h_366; unfold bd at h9_12; have h9_13 := h_371; unfold bd at h9_13; have h9_14 := kb_0; unfold bd at h9_14; have h9_15 := kb_1; unfold bd at h9_15; have h9_16 := kb_12; unfold bd at h9_16; have h9_17 := kb_300; unfold bd at h9_17; have h9_18 := kb_6; unfold bd at h9_18; have h9_19 := kb_7; unfold bd at h9_19; omega) _ _ _ _ g9  hl9
                                    · have fc_373 := nle_f c_373
                                      have b_377 : bd 13 2147483647 y_368 := ltR fc_373 kb_12 (bdT y_368) (by decide)
                                      refine lv_aload_n hx hb dX0_closeParts_227 rfl (lv_at hl 5 rfl) ?_
                                      refine g_getk (C := RX0) (T := TX0) (N := 14) hx hb hts (mc_ inX0) hown hK g rfl 0 (by decide) rfl (hts _ (List.mem_cons_of_mem _ t_373)) (fun _ h9 => h9) 9 rfl dX0_closeParts_228 ?_
                                      refine lv_bipush (v := 7) hx hb dX0_closeParts_231 (by decide) ?_
                                      refine lv_aload_n hx hb dX0_closeParts_233 rfl (lv_at hl 5 rfl) ?_
                                      refine g_getk (C := RX0) (T := TX0) (N := 14) hx hb hts (mc_ inX0) hown hK g rfl 4 (by decide) rfl (hts _ (List.mem_cons_of_mem _ t_377)) (fun _ h9 => h9) 7 rfl dX0_closeParts_234 ?_
                                      refine lv_aload_n hx hb dX0_closeParts_237 rfl (lv_at hl 5 rfl) ?_
                                      refine g_getk (C := RX0) (T := TX0) (N := 14) hx hb hts (mc_ inX0) hown hK g rfl 8 (by decide) rfl (hts _ (List.mem_cons_of_mem _ t_381)) (fun _ h9 => h9) 4 rfl dX0_closeParts_238 ?_
                                      refine g_iald hx hb hK g ma_330 ka_330 (by decide) rfl (in_bd b_349 (by decide)) dX0_closeParts_241 (fun x_378 bx_378 cx_378 => ?_)
                                      refine g_callv (va_runV (As := [.int 7, .int x_378]) (rest := []) ⟨hx, hb, hml, hown, hts⟩ (r_X8_fail_2 l dC dI L kd tys fr_369 H.size g.2.2.2.1 q0_ mq0_ kq0_ 7 (bd_sub kb_7 (by decide)) x_378 x_333 h_334 (g.fcts [6] rfl)) (cwV 2 hts (gV_ t_1215 t_1107 t_1108 t_184 t_1109) rfl rfl rfl (by decide +kernel) ⟨(Nat.le_of_ble_eq_true rfl), (Nat.le_of_ble_eq_true rfl)⟩) (pre3V g hK mq0_ kq0_ (by decide) (q := (RX8, TX8, 10)) rfl) rfl rfl hl.1 rfl (lv_room (Nat.le_of_ble_eq_true rfl)) dX0_closeParts_242 ⟨(Nat.le_of_ble_eq_true rfl), (Nat.le_of_ble_eq_true rfl)⟩) g hK (by decide) (by decide) (fx' := [(0, 12, a0_, .int 0), (0, 10, a0_, .int x_370), (7, 6, q1_, .int x_365), (0, 11, a0_, .int y_360), (0, 8, a0_, .int y_348), (8, 8, q0_, .int x_333), (0, 4, a0_, .ref a_330), (0, 3, a0_, .ref g76_0_3_a0_), (0, 0, a0_, .ref q0_), (0, 2, a0_, .ref q1_)]) rfl (fun fr_379 H locs hp hMr_379 g => ?_)
                                      have hF_380 := hp
                                      have g := g.more hF_380
                                      obtain ⟨y_381, ey_381⟩ : ∃ z : Int32, z = v4_3 + 1 := ⟨_, rfl⟩
                                      refine lv_iinc (v := y_381) (lv' := [(3, .int y_381), (6, .int y_368), (2, .int 1), (5, .int 1), (4, .int x_350), (0, .ref a0_), (1, .int x1_)]) hx hb dX0_closeParts_245 hl (k := 4) rfl (by rw [ey_381]; rfl) (by decide) rfl (fun ls hl => ?_)
                                      have ty_381 := add_bd ey_381 b_341 kb_1 (by decide)
                                      have b_382 : bd 2 300 y_381 := add_rg ty_381 b_341 kb_1 (by decide)
                                      refine lv_goto (tgt := 4) hx hb dX0_closeParts_248 (by decide) ?_
                                      have hl9 := lv_sub hl [0, 1, 2, 3, 4, 5, 6] (by rfl : lv_pick [(3, .int y_381), (6, .int y_368), (2, .int 1), (5, .int 1), (4, .int x_350), (0, .ref a0_), (1, .int x1_)] [0, 1, 2, 3, 4, 5, 6] = [(3, .int y_381), (6, .int y_368), (2, .int 1), (5, .int 1), (4, .int x_350), (0, .ref a0_), (1, .int x1_)])
                                      have g9 := g.sub (fx' := [(8, 6, q0_, .int 1201), (8, 8, q0_, .int x_333), (0, 4, a0_, .ref a_330), (0, 12, a0_, .int 0), (0, 10, a0_, .int x_370), (7, 6, q1_, .int x_365), (0, 8, a0_, .int y_348), (0, 3, a0_, .ref g76_0_3_a0_), (0, 0, a0_, .ref q0_), (0, 2, a0_, .ref q1_)]) [0, 6, 7, 1, 2, 3, 5, 8, 9, 10] rfl
                                      exact ih4  y_381 y_368 1 1 x_350 x_370 x_365 y_348 (bd_sub b_382 (by decide)) (bd_sub kb_1 (by decide)) (bd_sub kb_1 (by decide)) h_371 h_366 (bd_sub b_349 (by decide)) (by have h9_0 := b_349; unfold bd at h9_0; have h9_1 := b_352; unfold bd at h9_1; have h9_2 := b_377; unfold bd at h9_2; have h9_3 := b_382; unfold bd at h9_3; have h9_4 := bdT v4_4; unfold bd at h9_4; have h9_5 := bdT v4_6; unfold bd at h9_5; have h9_6 := bv4_2; unfold bd at h9_6; have h9_7 := bv4_3; unfold bd at h9_7; have h9_8 := bv4_5; unfold bd at h9_8; have h9_9 := bw4_0_10_a0_; unfold bd at h9_9; have h9_10 := bw4_0_8_a0_; unfold bd at h9_10; have h9_11 := bw4_7_6_q1_; unfold bd at h9_11; have h9_12 := h_366; unfold bd at h9_12; have h9_13 := h_371; unfold bd at h9_13; have h9_14 := kb_0; unfold bd at h9_14; have h9_15 := kb_1; unfold bd at h9_15; have h9_16 := kb_12; unfold bd at h9_16; have h9_17 := kb_300; unfold bd at h9_17; have h9_18 := kb_6; unfold bd at h9_18; have h9_19 := kb_7; unfold bd at h9_19; omega) _ _ _ _ g9  hl9
                                · have fc_351 := neq_f c_351
                                  refine lv_iload hx hb dX0_closeParts_42 (lv_at hl 0 rfl) ?_
                                  refine lv_bipush (v := 7) hx hb dX0_closeParts_44 (by decide) ?_
                                  refine lv_icmp_ne (tgt := 53) hx hb dX0_closeParts_46 (by decide) (fun c_383 => ?_) (fun c_383 => ?_)
                                  · have fc_383 := neq_f c_383
                                    refine lv_iconst (v := 0) hx hb dX0_closeParts_53 (by decide) ?_
                                    refine lv_istore (lv' := [(5, .int 0), (4, .int x_350), (3, .int v4_3), (6, .int v4_6), (2, .int v4_2), (0, .ref a0_), (1, .int x1_)]) hx hb dX0_closeParts_54 hl (by decide) rfl (fun ls hl => ?_)
                                    refine lv_iload hx hb dX0_closeParts_56 (lv_at hl 0 rfl) ?_
                                    refine lv_if_ne (tgt := 70) hx hb dX0_closeParts_58 (by decide) (fun c_ => absurd c_ (by decide)) (fun c_ => ?_)
                                    refine lv_iload hx hb dX0_closeParts_61 (lv_at hl 1 rfl) ?_
                                    refine g_calli (va_runS (As := [.int x_350]) (rest := []) ⟨hx, hb, hml, hown, hts⟩ (r_X0_levelOf l dC dI L kd tys f H.size g.2.2.2.1 x_350) (va_cwS 1 hts (gS_ t_1191 t_1192 t_190 t_1193) rfl rfl rfl (by decide +kernel) ⟨(Nat.le_of_ble_eq_true rfl), (Nat.le_of_ble_eq_true rfl)⟩) (pre3S g hK) rfl rfl hl.1 rfl (lv_room (Nat.le_of_ble_eq_true rfl)) dX0_closeParts_63 ⟨(Nat.le_of_ble_eq_true rfl), (Nat.le_of_ble_eq_true rfl)⟩) g hK (by decide) (by decide) (fx' := [(8, 6, q0_, .int 1201), (8, 8, q0_, .int x_333), (0, 4, a0_, .ref a_330), (0, 12, a0_, .int 0), (0, 10, a0_, .int w4_0_10_a0_), (7, 6, q1_, .int w4_7_6_q1_), (0, 8, a0_, .int w4_0_8_a0_), (0, 3, a0_, .ref g76_0_3_a0_), (0, 0, a0_, .ref q0_), (0, 2, a0_, .ref q1_)]) rfl (fun r_384 fr_384 H locs hp hMr_384 g => ?_)
                                    rcases hp with ⟨h_385, -⟩ | ⟨h_386, h_387, -⟩
                                    · obtain rfl : r_384 = 0 := h_385
                                      refine lv_iload_n hx hb dX0_closeParts_66 rfl (lv_at hl 6 rfl) ?_
                                      refine lv_icmp_lt (tgt := 74) hx hb dX0_closeParts_67 (by decide) (fun c_388 => ?_) (fun c_388 => ?_)
                                      · have fc_388 := lt_f c_388
                                        have b_389 : bd 1 2147483647 x1_ := ltR fc_388 kb_0 (bdT x1_) (by decide)
                                        refine lv_iconst (v := 0) hx hb dX0_closeParts_74 (by decide) ?_
                                        refine lv_istore_n (lv' := [(2, .int 0), (5, .int 0), (4, .int x_350), (3, .int v4_3), (6, .int v4_6), (0, .ref a0_), (1, .int x1_)]) hx hb dX0_closeParts_75 rfl hl (by decide) rfl (fun ls hl => ?_)
                                        refine lv_iload_n hx hb dX0_closeParts_76 rfl (lv_at hl 0 rfl) ?_
                                        refine lv_if_eq (tgt := 245) hx hb dX0_closeParts_77 (by decide) (fun c_ => ?_) (fun c_ => absurd (by decide) c_)
                                        obtain ⟨y_390, ey_390⟩ : ∃ z : Int32, z = v4_3 + 1 := ⟨_, rfl⟩
                                        refine lv_iinc (v := y_390) (lv' := [(3, .int y_390), (2, .int 0), (5, .int 0), (4, .int x_350), (6, .int v4_6), (0, .ref a0_), (1, .int x1_)]) hx hb dX0_closeParts_245 hl (k := 3) rfl (by rw [ey_390]; rfl) (by decide) rfl (fun ls hl => ?_)
                                        have ty_390 := add_bd ey_390 b_341 kb_1 (by decide)
                                        have b_391 : bd 2 300 y_390 := add_rg ty_390 b_341 kb_1 (by decide)
                                        refine lv_goto (tgt := 4) hx hb dX0_closeParts_248 (by decide) ?_
                                        have hl9 := lv_sub hl [0, 4, 1, 2, 3, 5, 6] (by rfl : lv_pick [(3, .int y_390), (2, .int 0), (5, .int 0), (4, .int x_350), (6, .int v4_6), (0, .ref a0_), (1, .int x1_)] [0, 4, 1, 2, 3, 5, 6] = [(3, .int y_390), (6, .int v4_6), (2, .int 0), (5, .int 0), (4, .int x_350), (0, .ref a0_), (1, .int x1_)])
                                        have g9 := g.sub (fx' := [(8, 6, q0_, .int 1201), (8, 8, q0_, .int x_333), (0, 4, a0_, .ref a_330), (0, 12, a0_, .int 0), (0, 10, a0_, .int w4_0_10_a0_), (7, 6, q1_, .int w4_7_6_q1_), (0, 8, a0_, .int w4_0_8_a0_), (0, 3, a0_, .ref g76_0_3_a0_), (0, 0, a0_, .ref q0_), (0, 2, a0_, .ref q1_)]) [0, 1, 2, 3, 4, 5, 6, 7, 8, 9] rfl
                                        exact ih4  y_390 v4_6 0 0 x_350 w4_0_10_a0_ w4_7_6_q1_ w4_0_8_a0_ (bd_sub b_391 (by decide)) (bd_sub kb_0 (by decide)) (bd_sub kb_0 (by decide)) bw4_0_10_a0_ bw4_7_6_q1_ (bd_sub b_347 (by decide)) (by have h9_0 := b_347; unfold bd at h9_0; have h9_1 := b_391; unfold bd at h9_1; have h9_2 := bdT v4_4; unfold bd at h9_2; have h9_3 := bdT v4_6; unfold bd at h9_3; have h9_4 := bdT x_350; unfold bd at h9_4; have h9_5 := bv4_2; unfold bd at h9_5; have h9_6 := bv4_3; unfold bd at h9_6; have h9_7 := bv4_5; unfold bd at h9_7; have h9_8 := bw4_0_10_a0_; unfold bd at h9_8; have h9_9 := bw4_0_8_a0_; unfold bd at h9_9; have h9_10 := bw4_7_6_q1_; unfold bd at h9_10; have h9_11 := kb_0; unfold bd at h9_11; have h9_12 := kb_1; unfold bd at h9_12; have h9_13 := kb_12; unfold bd at h9_13; have h9_14 := kb_300; unfold bd at h9_14; have h9_15 := kb_6; unfold bd at h9_15; have h9_16 := kb_7; unfold bd at h9_16; omega) _ _ _ _ g9  hl9
                                      · have fc_388 := nlt_f c_388
                                        have b_392 : bd (-2147483648) 0 x1_ := leL fc_388 (bdT x1_) kb_0 (by decide)
                                        refine lv_iconst (v := 1) hx hb dX0_closeParts_70 (by decide) ?_
                                        refine lv_goto (tgt := 75) hx hb dX0_closeParts_71 (by decide) ?_
                                        refine lv_istore_n (lv' := [(2, .int 1), (5, .int 0), (4, .int x_350), (3, .int v4_3), (6, .int v4_6), (0, .ref a0_), (1, .int x1_)]) hx hb dX0_closeParts_75 rfl hl (by decide) rfl (fun ls hl => ?_)
                                        refine lv_iload_n hx hb dX0_closeParts_76 rfl (lv_at hl 0 rfl) ?_
                                        refine lv_if_eq (tgt := 245) hx hb dX0_closeParts_77 (by decide) (fun c_ => absurd c_ (by decide)) (fun c_ => ?_)
                                        refine lv_aload_n hx hb dX0_closeParts_80 rfl (lv_at hl 5 rfl) ?_
                                        refine lv_dup hx hb dX0_closeParts_81 rfl ?_
                                        refine g_getk (C := RX0) (T := TX0) (N := 14) hx hb hts (mc_ inX0) hown hK g rfl 8 (by decide) rfl (hts _ (List.mem_cons_of_mem _ t_381)) (fun _ h9 => h9) 6 rfl dX0_closeParts_82 ?_
                                        refine lv_iconst (v := 1) hx hb dX0_closeParts_85 (by decide) ?_
                                        refine lv_isub hx hb dX0_closeParts_86 ?_
                                        refine lv_topi (fun y_393 ey_393 => ?_)
                                        obtain rfl : y_348 = y_393 := ey_348.trans ey_393.symm
                                        refine g_put (C := RX0) (T := TX0) (N := 14) hx hb hts (mc_ inX0) tyX0 tyX0_ok nmX0 hown hK g ma0_ ka0_ (by decide) rfl 8 (by decide) (hts _ (List.mem_cons_of_mem _ t_381)) (fun _ h9 => h9) rfl rfl (okV_i (bd_sub b_349 (by decide))) rfl rfl (by decide) (Or.inr (Or.inl (by decide))) (fx' := [(8, 6, q0_, .int 1201), (8, 8, q0_, .int x_333), (0, 4, a0_, .ref a_330), (0, 12, a0_, .int 0), (0, 10, a0_, .int w4_0_10_a0_), (7, 6, q1_, .int w4_7_6_q1_), (0, 3, a0_, .ref g76_0_3_a0_), (0, 0, a0_, .ref q0_), (0, 2, a0_, .ref q1_)]) rfl dX0_closeParts_87 (fun f H locs hM_394 g => ?_)
                                        refine lv_aload_n hx hb dX0_closeParts_90 rfl (lv_at hl 5 rfl) ?_
                                        refine g_calli (va_runV (As := []) (rest := []) ⟨hx, hb, hml, hown, hts⟩ (r_X0_takeHeight l dC dI L kd tys f H.size g.2.2.2.1 a0_ ma0_ ka0_) (cwV 0 hts (gV_ t_1199 t_1201 t_16 t_190 t_1202) rfl rfl rfl (by decide +kernel) ⟨(Nat.le_of_ble_eq_true rfl), (Nat.le_of_ble_eq_true rfl)⟩) (pre3V g hK ma0_ ka0_ (by decide) (q := (RX0, TX0, 14)) rfl) rfl rfl hl.1 rfl (lv_room (Nat.le_of_ble_eq_true rfl)) dX0_closeParts_91 ⟨(Nat.le_of_ble_eq_true rfl), (Nat.le_of_ble_eq_true rfl)⟩) g hK (by decide) (by decide) (fx' := [(0, 8, a0_, .int y_348), (8, 6, q0_, .int 1201), (8, 8, q0_, .int x_333), (0, 4, a0_, .ref a_330), (0, 12, a0_, .int 0), (7, 6, q1_, .int w4_7_6_q1_), (0, 3, a0_, .ref g76_0_3_a0_), (0, 0, a0_, .ref q0_), (0, 2, a0_, .ref q1_)]) rfl (fun r_395 fr_395 H locs hp hMr_395 g => ?_)
                                        obtain ⟨x_396, h_397, hF_398⟩ := hp
                                        have g := g.more hF_398
                                        refine lv_istore (lv' := [(6, .int r_395), (2, .int 1), (5, .int 0), (4, .int x_350), (3, .int v4_3), (0, .ref a0_), (1, .int x1_)]) hx hb dX0_closeParts_94 hl (by decide) rfl (fun ls hl => ?_)
                                        refine lv_iload hx hb dX0_closeParts_96 (lv_at hl 2 rfl) ?_
                                        refine lv_if_eq (tgt := 136) hx hb dX0_closeParts_98 (by decide) (fun c_ => ?_) (fun c_ => absurd (by decide) c_)
                                        refine lv_iload hx hb dX0_closeParts_136 (lv_at hl 3 rfl) ?_
                                        refine lv_sipush (v := 205) hx hb dX0_closeParts_138 (by decide) ?_
                                        have kb_205 : bd 205 205 (205 : Int32) := ⟨by decide, by decide⟩
                                        refine lv_icmp_eq (tgt := 152) hx hb dX0_closeParts_141 (by decide) (fun c_399 => ?_) (fun c_399 => ?_)
                                        · have fc_399 := eq_f c_399
                                          have b_400 : bd 205 205 x_350 := eqX fc_399 (bdT x_350) kb_205 (by decide)
                                          refine lv_aload_n hx hb dX0_closeParts_152 rfl (lv_at hl 5 rfl) ?_
                                          refine g_getk (C := RX0) (T := TX0) (N := 14) hx hb hts (mc_ inX0) hown hK g rfl 2 (by decide) rfl (hts _ (List.mem_cons_of_mem _ t_375)) (fun _ h9 => h9) 9 rfl dX0_closeParts_153 ?_
                                          refine lv_bipush (v := 8) hx hb dX0_closeParts_156 (by decide) ?_
                                          refine lv_iconst (v := 0) hx hb dX0_closeParts_158 (by decide) ?_
                                          refine g_callv (va_runV (As := [.int 8, .int 0]) (rest := []) ⟨hx, hb, hml, hown, hts⟩ (r_X7_emit l dC dI L kd tys fr_395 H.size g.2.2.2.1 q1_ mq1_ kq1_ 8 0) (cwV 2 hts (gV_ t_1203 t_1204 t_1205 t_191 t_1206) rfl rfl rfl (by decide +kernel) ⟨(Nat.le_of_ble_eq_true rfl), (Nat.le_of_ble_eq_true rfl)⟩) (pre3V g hK mq1_ kq1_ (by decide) (q := (RX7, TX7, 19)) rfl) rfl rfl hl.1 rfl (lv_room (Nat.le_of_ble_eq_true rfl)) dX0_closeParts_159 ⟨(Nat.le_of_ble_eq_true rfl), (Nat.le_of_ble_eq_true rfl)⟩) g hK (by decide) (by decide) (fx' := [(0, 10, a0_, .int x_396), (0, 8, a0_, .int y_348), (8, 6, q0_, .int 1201), (8, 8, q0_, .int x_333), (0, 4, a0_, .ref a_330), (0, 12, a0_, .int 0), (0, 3, a0_, .ref g76_0_3_a0_), (0, 0, a0_, .ref q0_), (0, 2, a0_, .ref q1_)]) rfl (fun fr_401 H locs hp hMr_401 g => ?_)
                                          obtain ⟨x_402, h_403, hF_404⟩ := hp
                                          have g := g.more hF_404
                                          refine lv_aload_n hx hb dX0_closeParts_162 rfl (lv_at hl 5 rfl) ?_
                                          refine g_getk (C := RX0) (T := TX0) (N := 14) hx hb hts (mc_ inX0) hown hK g rfl 2 (by decide) rfl (hts _ (List.mem_cons_of_mem _ t_375)) (fun _ h9 => h9) 9 rfl dX0_closeParts_163 ?_
                                          refine lv_aload_n hx hb dX0_closeParts_166 rfl (lv_at hl 5 rfl) ?_
                                          refine g_getr (K := 112) (C := RX0) (T := TX0) (N := 14) hx hb hts (mc_ inX0) hown hK g ma0_ ka0_ (by decide) rfl 5 (by decide) rfl (hts _ (List.mem_cons_of_mem _ t_378)) (fun _ h9 => h9) rfl dX0_closeParts_167 (fun a_405 ma_405 ka_405 g => ?_)
                                          refine lv_aload_n hx hb dX0_closeParts_170 rfl (lv_at hl 5 rfl) ?_
                                          refine g_getk (C := RX0) (T := TX0) (N := 14) hx hb hts (mc_ inX0) hown hK g rfl 8 (by decide) rfl (hts _ (List.mem_cons_of_mem _ t_381)) (fun _ h9 => h9) 3 rfl dX0_closeParts_171 ?_
                                          refine g_iald hx hb hK g ma_405 ka_405 (by decide) rfl (in_bd b_349 (by decide)) dX0_closeParts_174 (fun x_406 bx_406 cx_406 => ?_)
                                          refine g_callv (va_runV (As := [.int x_406]) (rest := []) ⟨hx, hb, hml, hown, hts⟩ (r_X7_leadHere l dC dI L kd tys fr_401 H.size g.2.2.2.1 q1_ mq1_ kq1_ x_406) (cwV 1 hts (gV_ t_1207 t_1208 t_1209 t_191 t_1210) rfl rfl rfl (by decide +kernel) ⟨(Nat.le_of_ble_eq_true rfl), (Nat.le_of_ble_eq_true rfl)⟩) (pre3V g hK mq1_ kq1_ (by decide) (q := (RX7, TX7, 19)) rfl) rfl rfl hl.1 rfl (lv_room (Nat.le_of_ble_eq_true rfl)) dX0_closeParts_175 ⟨(Nat.le_of_ble_eq_true rfl), (Nat.le_of_ble_eq_true rfl)⟩) g hK (by decide) (by decide) (fx' := [(0, 5, a0_, .ref a_405), (7, 6, q1_, .int x_402), (0, 10, a0_, .int x_396), (0, 8, a0_, .int y_348), (8, 6, q0_, .int 1201), (8, 8, q0_, .int x_333), (0, 4, a0_, .ref a_330), (0, 12, a0_, .int 0), (0, 3, a0_, .ref g76_0_3_a0_), (0, 0, a0_, .ref q0_), (0, 2, a0_, .ref q1_)]) rfl (fun fr_407 H locs hp hMr_407 g => ?_)
                                          refine lv_goto (tgt := 191) hx hb dX0_closeParts_178 (by decide) ?_
                                          refine lv_iconst (v := 1) hx hb dX0_closeParts_191 (by decide) ?_
                                          refine lv_iload hx hb dX0_closeParts_192 (lv_at hl 2 rfl) ?_
                                          refine lv_if_eq (tgt := 202) hx hb dX0_closeParts_194 (by decide) (fun c_ => ?_) (fun c_ => absurd (by decide) c_)
                                          refine lv_iload hx hb dX0_closeParts_202 (lv_at hl 0 rfl) ?_
                                          refine lv_aload_n hx hb dX0_closeParts_204 rfl (lv_at hl 5 rfl) ?_
                                          refine g_calli (va_runV (As := []) (rest := [.int r_395, .int 1]) ⟨hx, hb, hml, hown, hts⟩ (r_X0_takeHeight l dC dI L kd tys fr_407 H.size g.2.2.2.1 a0_ ma0_ ka0_) (cwV 0 hts (gV_ t_1199 t_1201 t_16 t_190 t_1202) rfl rfl rfl (by decide +kernel) ⟨(Nat.le_of_ble_eq_true rfl), (Nat.le_of_ble_eq_true rfl)⟩) (pre3V g hK ma0_ ka0_ (by decide) (q := (RX0, TX0, 14)) rfl) rfl rfl hl.1 rfl (lv_room (Nat.le_of_ble_eq_true rfl)) dX0_closeParts_205 ⟨(Nat.le_of_ble_eq_true rfl), (Nat.le_of_ble_eq_true rfl)⟩) g hK (by decide) (by decide) (fx' := [(0, 5, a0_, .ref a_405), (7, 6, q1_, .int x_402), (0, 8, a0_, .int y_348), (8, 6, q0_, .int 1201), (8, 8, q0_, .int x_333), (0, 4, a0_, .ref a_330), (0, 12, a0_, .int 0), (0, 3, a0_, .ref g76_0_3_a0_), (0, 0, a0_, .ref q0_), (0, 2, a0_, .ref q1_)]) rfl (fun r_408 fr_408 H locs hp hMr_408 g => ?_)
                                          obtain ⟨x_409, h_410, hF_411⟩ := hp
                                          have g := g.more hF_411
                                          refine va_mmax hx hb (hml.trans hl.1.symm) hown (hts _ (List.mem_cons_of_mem _ t_1194)) (hts _ (List.mem_cons_of_mem _ t_1041)) (hts _ (List.mem_cons_of_mem _ t_204)) (hts _ (List.mem_cons_of_mem _ t_1042)) (Nat.le_of_ble_eq_true rfl) (Nat.le_of_ble_eq_true rfl) (Nat.le_of_ble_eq_true rfl) (Nat.le_of_ble_eq_true rfl) dX0_closeParts_208 ?_
                                          refine lv_topi (fun y_412 ey_412 => ?_)
                                          have ty_412 : y_412.toInt = max r_395.toInt r_408.toInt := by rw [ey_412]; exact mmax_ok _ _
                                          have b_413 : bd (-2147483648) 2147483647 y_412 := max_rg ty_412 (bdT r_395) (bdT r_408) (by decide)
                                          refine lv_iadd hx hb dX0_closeParts_211 ?_
                                          refine lv_topi (fun y_414 ey_414 => ?_)
                                          refine lv_istore (lv' := [(6, .int y_414), (2, .int 1), (5, .int 0), (4, .int x_350), (3, .int v4_3), (0, .ref a0_), (1, .int x1_)]) hx hb dX0_closeParts_212 hl (by decide) rfl (fun ls hl => ?_)
                                          refine lv_aload_n hx hb dX0_closeParts_214 rfl (lv_at hl 5 rfl) ?_
                                          refine lv_iload hx hb dX0_closeParts_215 (lv_at hl 0 rfl) ?_
                                          refine g_callv (va_runV (As := [.int y_414]) (rest := []) ⟨hx, hb, hml, hown, hts⟩ (r_X0_addWhole l dC dI L kd tys fr_408 H.size g.2.2.2.1 a0_ ma0_ ka0_ y_414) (cwV 1 hts (gV_ t_1211 t_1213 t_17 t_190 t_1214) rfl rfl rfl (by decide +kernel) ⟨(Nat.le_of_ble_eq_true rfl), (Nat.le_of_ble_eq_true rfl)⟩) (pre3V g hK ma0_ ka0_ (by decide) (q := (RX0, TX0, 14)) rfl) rfl rfl hl.1 rfl (lv_room (Nat.le_of_ble_eq_true rfl)) dX0_closeParts_217 ⟨(Nat.le_of_ble_eq_true rfl), (Nat.le_of_ble_eq_true rfl)⟩) g hK (by decide) (by decide) (fx' := [(0, 5, a0_, .ref a_405), (7, 6, q1_, .int x_402), (0, 8, a0_, .int y_348), (8, 6, q0_, .int 1201), (8, 8, q0_, .int x_333), (0, 4, a0_, .ref a_330), (0, 3, a0_, .ref g76_0_3_a0_), (0, 0, a0_, .ref q0_), (0, 2, a0_, .ref q1_)]) rfl (fun fr_415 H locs hp hMr_415 g => ?_)
                                          obtain ⟨x_416, h_417, hF_418⟩ := hp
                                          have g := g.more hF_418
                                          refine lv_iload hx hb dX0_closeParts_220 (lv_at hl 0 rfl) ?_
                                          refine lv_bipush (v := 12) hx hb dX0_closeParts_222 (by decide) ?_
                                          refine lv_icmp_le (tgt := 245) hx hb dX0_closeParts_224 (by decide) (fun c_419 => ?_) (fun c_419 => ?_)
                                          · have fc_419 := le_f c_419
                                            have b_420 : bd (-2147483648) 12 y_414 := leL fc_419 (bdT y_414) kb_12 (by decide)
                                            obtain ⟨y_421, ey_421⟩ : ∃ z : Int32, z = v4_3 + 1 := ⟨_, rfl⟩
                                            refine lv_iinc (v := y_421) (lv' := [(3, .int y_421), (6, .int y_414), (2, .int 1), (5, .int 0), (4, .int x_350), (0, .ref a0_), (1, .int x1_)]) hx hb dX0_closeParts_245 hl (k := 4) rfl (by rw [ey_421]; rfl) (by decide) rfl (fun ls hl => ?_)
                                            have ty_421 := add_bd ey_421 b_341 kb_1 (by decide)
                                            have b_422 : bd 2 300 y_421 := add_rg ty_421 b_341 kb_1 (by decide)
                                            refine lv_goto (tgt := 4) hx hb dX0_closeParts_248 (by decide) ?_
                                            have hl9 := lv_sub hl [0, 1, 2, 3, 4, 5, 6] (by rfl : lv_pick [(3, .int y_421), (6, .int y_414), (2, .int 1), (5, .int 0), (4, .int x_350), (0, .ref a0_), (1, .int x1_)] [0, 1, 2, 3, 4, 5, 6] = [(3, .int y_421), (6, .int y_414), (2, .int 1), (5, .int 0), (4, .int x_350), (0, .ref a0_), (1, .int x1_)])
                                            have g9 := g.sub (fx' := [(8, 6, q0_, .int 1201), (8, 8, q0_, .int x_333), (0, 4, a0_, .ref a_330), (0, 12, a0_, .int 0), (0, 10, a0_, .int x_416), (7, 6, q1_, .int x_402), (0, 8, a0_, .int y_348), (0, 3, a0_, .ref g76_0_3_a0_), (0, 0, a0_, .ref q0_), (0, 2, a0_, .ref q1_)]) [5, 6, 7, 0, 1, 3, 4, 8, 9, 10] rfl
                                            exact ih4  y_421 y_414 1 0 x_350 x_416 x_402 y_348 (bd_sub b_422 (by decide)) (bd_sub kb_1 (by decide)) (bd_sub kb_0 (by decide)) h_417 h_403 (bd_sub b_349 (by decide)) (by have h9_0 := b_349; unfold bd at h9_0; have h9_1 := b_400; unfold bd at h9_1; have h9_2 := b_420; unfold bd at h9_2; have h9_3 := b_422; unfold bd at h9_3; have h9_4 := bdT v4_4; unfold bd at h9_4; have h9_5 := bdT v4_6; unfold bd at h9_5; have h9_6 := bv4_2; unfold bd at h9_6; have h9_7 := bv4_3; unfold bd at h9_7; have h9_8 := bv4_5; unfold bd at h9_8; have h9_9 := bw4_0_10_a0_; unfold bd at h9_9; have h9_10 := bw4_0_8_a0_; unfold bd at h9_10; have h9_11 := bw4_7_6_q1_; unfold bd at h9_11; have h9_12 := h_403; unfold bd at h9_12; have h9_13 := h_417; unfold bd at h9_13; have h9_14 := kb_0; unfold bd at h9_14; have h9_15 := kb_1; unfold bd at h9_15; have h9_16 := kb_12; unfold bd at h9_16; have h9_17 := kb_205; unfold bd at h9_17; have h9_18 := kb_300; unfold bd at h9_18; have h9_19 := kb_6; unfold bd at h9_19; have h9_20 := kb_7; unfold bd at h9_20; omega) _ _ _ _ g9  hl9
                                          · have fc_419 := nle_f c_419
                                            have b_423 : bd 13 2147483647 y_414 := ltR fc_419 kb_12 (bdT y_414) (by decide)
                                            refine lv_aload_n hx hb dX0_closeParts_227 rfl (lv_at hl 5 rfl) ?_
                                            refine g_getk (C := RX0) (T := TX0) (N := 14) hx hb hts (mc_ inX0) hown hK g rfl 0 (by decide) rfl (hts _ (List.mem_cons_of_mem _ t_373)) (fun _ h9 => h9) 9 rfl dX0_closeParts_228 ?_
                                            refine lv_bipush (v := 7) hx hb dX0_closeParts_231 (by decide) ?_
                                            refine lv_aload_n hx hb dX0_closeParts_233 rfl (lv_at hl 5 rfl) ?_
                                            refine g_getk (C := RX0) (T := TX0) (N := 14) hx hb hts (mc_ inX0) hown hK g rfl 4 (by decide) rfl (hts _ (List.mem_cons_of_mem _ t_377)) (fun _ h9 => h9) 7 rfl dX0_closeParts_234 ?_
                                            refine lv_aload_n hx hb dX0_closeParts_237 rfl (lv_at hl 5 rfl) ?_
                                            refine g_getk (C := RX0) (T := TX0) (N := 14) hx hb hts (mc_ inX0) hown hK g rfl 8 (by decide) rfl (hts _ (List.mem_cons_of_mem _ t_381)) (fun _ h9 => h9) 4 rfl dX0_closeParts_238 ?_
                                            refine g_iald hx hb hK g ma_330 ka_330 (by decide) rfl (in_bd b_349 (by decide)) dX0_closeParts_241 (fun x_424 bx_424 cx_424 => ?_)
                                            refine g_callv (va_runV (As := [.int 7, .int x_424]) (rest := []) ⟨hx, hb, hml, hown, hts⟩ (r_X8_fail_2 l dC dI L kd tys fr_415 H.size g.2.2.2.1 q0_ mq0_ kq0_ 7 (bd_sub kb_7 (by decide)) x_424 x_333 h_334 (g.fcts [6] rfl)) (cwV 2 hts (gV_ t_1215 t_1107 t_1108 t_184 t_1109) rfl rfl rfl (by decide +kernel) ⟨(Nat.le_of_ble_eq_true rfl), (Nat.le_of_ble_eq_true rfl)⟩) (pre3V g hK mq0_ kq0_ (by decide) (q := (RX8, TX8, 10)) rfl) rfl rfl hl.1 rfl (lv_room (Nat.le_of_ble_eq_true rfl)) dX0_closeParts_242 ⟨(Nat.le_of_ble_eq_true rfl), (Nat.le_of_ble_eq_true rfl)⟩) g hK (by decide) (by decide) (fx' := [(0, 12, a0_, .int 0), (0, 10, a0_, .int x_416), (0, 5, a0_, .ref a_405), (7, 6, q1_, .int x_402), (0, 8, a0_, .int y_348), (8, 8, q0_, .int x_333), (0, 4, a0_, .ref a_330), (0, 3, a0_, .ref g76_0_3_a0_), (0, 0, a0_, .ref q0_), (0, 2, a0_, .ref q1_)]) rfl (fun fr_425 H locs hp hMr_425 g => ?_)
                                            have hF_426 := hp
                                            have g := g.more hF_426
                                            obtain ⟨y_427, ey_427⟩ : ∃ z : Int32, z = v4_3 + 1 := ⟨_, rfl⟩
                                            refine lv_iinc (v := y_427) (lv' := [(3, .int y_427), (6, .int y_414), (2, .int 1), (5, .int 0), (4, .int x_350), (0, .ref a0_), (1, .int x1_)]) hx hb dX0_closeParts_245 hl (k := 4) rfl (by rw [ey_427]; rfl) (by decide) rfl (fun ls hl => ?_)
                                            have ty_427 := add_bd ey_427 b_341 kb_1 (by decide)
                                            have b_428 : bd 2 300 y_427 := add_rg ty_427 b_341 kb_1 (by decide)
                                            refine lv_goto (tgt := 4) hx hb dX0_closeParts_248 (by decide) ?_
                                            have hl9 := lv_sub hl [0, 1, 2, 3, 4, 5, 6] (by rfl : lv_pick [(3, .int y_427), (6, .int y_414), (2, .int 1), (5, .int 0), (4, .int x_350), (0, .ref a0_), (1, .int x1_)] [0, 1, 2, 3, 4, 5, 6] = [(3, .int y_427), (6, .int y_414), (2, .int 1), (5, .int 0), (4, .int x_350), (0, .ref a0_), (1, .int x1_)])
                                            have g9 := g.sub (fx' := [(8, 6, q0_, .int 1201), (8, 8, q0_, .int x_333), (0, 4, a0_, .ref a_330), (0, 12, a0_, .int 0), (0, 10, a0_, .int x_416), (7, 6, q1_, .int x_402), (0, 8, a0_, .int y_348), (0, 3, a0_, .ref g76_0_3_a0_), (0, 0, a0_, .ref q0_), (0, 2, a0_, .ref q1_)]) [0, 6, 7, 1, 2, 4, 5, 8, 9, 10] rfl
                                            exact ih4  y_427 y_414 1 0 x_350 x_416 x_402 y_348 (bd_sub b_428 (by decide)) (bd_sub kb_1 (by decide)) (bd_sub kb_0 (by decide)) h_417 h_403 (bd_sub b_349 (by decide)) (by have h9_0 := b_349; unfold bd at h9_0; have h9_1 := b_400; unfold bd at h9_1; have h9_2 := b_423; unfold bd at h9_2; have h9_3 := b_428; unfold bd at h9_3; have h9_4 := bdT v4_4; unfold bd at h9_4; have h9_5 := bdT v4_6; unfold bd at h9_5; have h9_6 := bv4_2; unfold bd at h9_6; have h9_7 := bv4_3; unfold bd at h9_7; have h9_8 := bv4_5; unfold bd at h9_8; have h9_9 := bw4_0_10_a0_; unfold bd at h9_9; have h9_10 := bw4_0_8_a0_; unfold bd at h9_10; have h9_11 := bw4_7_6_q1_; unfold bd at h9_11; have h9_12 := h_403; unfold bd at h9_12; have h9_13 := h_417; unfold bd at h9_13; have h9_14 := kb_0; unfold bd at h9_14; have h9_15 := kb_1; unfold bd at h9_15; have h9_16 := kb_12; unfold bd at h9_16; have h9_17 := kb_205; unfold bd at h9_17; have h9_18 := kb_300; unfold bd at h9_18; have h9_19 := kb_6; unfold bd at h9_19; have h9_20 := kb_7; unfold bd at h9_20; omega) _ _ _ _ g9  hl9
                                        · have fc_399 := neq_f c_399
                                          refine lv_iload hx hb dX0_closeParts_144 (lv_at hl 3 rfl) ?_
                                          refine lv_sipush (v := 206) hx hb dX0_closeParts_146 (by decide) ?_
                                          have kb_206 : bd 206 206 (206 : Int32) := ⟨by decide, by decide⟩
                                          refine lv_icmp_ne (tgt := 181) hx hb dX0_closeParts_149 (by decide) (fun c_429 => ?_) (fun c_429 => ?_)
                                          · have fc_429 := neq_f c_429
                                            refine lv_aload_n hx hb dX0_closeParts_181 rfl (lv_at hl 5 rfl) ?_
                                            refine g_getk (C := RX0) (T := TX0) (N := 14) hx hb hts (mc_ inX0) hown hK g rfl 2 (by decide) rfl (hts _ (List.mem_cons_of_mem _ t_375)) (fun _ h9 => h9) 9 rfl dX0_closeParts_182 ?_
                                            refine lv_iload hx hb dX0_closeParts_185 (lv_at hl 3 rfl) ?_
                                            refine lv_iconst (v := 0) hx hb dX0_closeParts_187 (by decide) ?_
                                            refine g_callv (va_runV (As := [.int x_350, .int 0]) (rest := []) ⟨hx, hb, hml, hown, hts⟩ (r_X7_emit l dC dI L kd tys fr_395 H.size g.2.2.2.1 q1_ mq1_ kq1_ x_350 0) (cwV 2 hts (gV_ t_1203 t_1204 t_1205 t_191 t_1206) rfl rfl rfl (by decide +kernel) ⟨(Nat.le_of_ble_eq_true rfl), (Nat.le_of_ble_eq_true rfl)⟩) (pre3V g hK mq1_ kq1_ (by decide) (q := (RX7, TX7, 19)) rfl) rfl rfl hl.1 rfl (lv_room (Nat.le_of_ble_eq_true rfl)) dX0_closeParts_188 ⟨(Nat.le_of_ble_eq_true rfl), (Nat.le_of_ble_eq_true rfl)⟩) g hK (by decide) (by decide) (fx' := [(0, 10, a0_, .int x_396), (0, 8, a0_, .int y_348), (8, 6, q0_, .int 1201), (8, 8, q0_, .int x_333), (0, 4, a0_, .ref a_330), (0, 12, a0_, .int 0), (0, 3, a0_, .ref g76_0_3_a0_), (0, 0, a0_, .ref q0_), (0, 2, a0_, .ref q1_)]) rfl (fun fr_430 H locs hp hMr_430 g => ?_)
                                            obtain ⟨x_431, h_432, hF_433⟩ := hp
                                            have g := g.more hF_433
                                            refine lv_iconst (v := 1) hx hb dX0_closeParts_191 (by decide) ?_
                                            refine lv_iload hx hb dX0_closeParts_192 (lv_at hl 2 rfl) ?_
                                            refine lv_if_eq (tgt := 202) hx hb dX0_closeParts_194 (by decide) (fun c_ => ?_) (fun c_ => absurd (by decide) c_)
                                            refine lv_iload hx hb dX0_closeParts_202 (lv_at hl 0 rfl) ?_
                                            refine lv_aload_n hx hb dX0_closeParts_204 rfl (lv_at hl 5 rfl) ?_
                                            refine g_calli (va_runV (As := []) (rest := [.int r_395, .int 1]) ⟨hx, hb, hml, hown, hts⟩ (r_X0_takeHeight l dC dI L kd tys fr_430 H.size g.2.2.2.1 a0_ ma0_ ka0_) (cwV 0 hts (gV_ t_1199 t_1201 t_16 t_190 t_1202) rfl rfl rfl (by decide +kernel) ⟨(Nat.le_of_ble_eq_true rfl), (Nat.le_of_ble_eq_true rfl)⟩) (pre3V g hK ma0_ ka0_ (by decide) (q := (RX0, TX0, 14)) rfl) rfl rfl hl.1 rfl (lv_room (Nat.le_of_ble_eq_true rfl)) dX0_closeParts_205 ⟨(Nat.le_of_ble_eq_true rfl), (Nat.le_of_ble_eq_true rfl)⟩) g hK (by decide) (by decide) (fx' := [(7, 6, q1_, .int x_431), (0, 8, a0_, .int y_348), (8, 6, q0_, .int 1201), (8, 8, q0_, .int x_333), (0, 4, a0_, .ref a_330), (0, 12, a0_, .int 0), (0, 3, a0_, .ref g76_0_3_a0_), (0, 0, a0_, .ref q0_), (0, 2, a0_, .ref q1_)]) rfl (fun r_434 fr_434 H locs hp hMr_434 g => ?_)
                                            obtain ⟨x_435, h_436, hF_437⟩ := hp
                                            have g := g.more hF_437
                                            refine va_mmax hx hb (hml.trans hl.1.symm) hown (hts _ (List.mem_cons_of_mem _ t_1194)) (hts _ (List.mem_cons_of_mem _ t_1041)) (hts _ (List.mem_cons_of_mem _ t_204)) (hts _ (List.mem_cons_of_mem _ t_1042)) (Nat.le_of_ble_eq_true rfl) (Nat.le_of_ble_eq_true rfl) (Nat.le_of_ble_eq_true rfl) (Nat.le_of_ble_eq_true rfl) dX0_closeParts_208 ?_
                                            refine lv_topi (fun y_438 ey_438 => ?_)
                                            have ty_438 : y_438.toInt = max r_395.toInt r_434.toInt := by rw [ey_438]; exact mmax_ok _ _
                                            have b_439 : bd (-2147483648) 2147483647 y_438 := max_rg ty_438 (bdT r_395) (bdT r_434) (by decide)
                                            refine lv_iadd hx hb dX0_closeParts_211 ?_
                                            refine lv_topi (fun y_440 ey_440 => ?_)
                                            refine lv_istore (lv' := [(6, .int y_440), (2, .int 1), (5, .int 0), (4, .int x_350), (3, .int v4_3), (0, .ref a0_), (1, .int x1_)]) hx hb dX0_closeParts_212 hl (by decide) rfl (fun ls hl => ?_)
                                            refine lv_aload_n hx hb dX0_closeParts_214 rfl (lv_at hl 5 rfl) ?_
                                            refine lv_iload hx hb dX0_closeParts_215 (lv_at hl 0 rfl) ?_
                                            refine g_callv (va_runV (As := [.int y_440]) (rest := []) ⟨hx, hb, hml, hown, hts⟩ (r_X0_addWhole l dC dI L kd tys fr_434 H.size g.2.2.2.1 a0_ ma0_ ka0_ y_440) (cwV 1 hts (gV_ t_1211 t_1213 t_17 t_190 t_1214) rfl rfl rfl (by decide +kernel) ⟨(Nat.le_of_ble_eq_true rfl), (Nat.le_of_ble_eq_true rfl)⟩) (pre3V g hK ma0_ ka0_ (by decide) (q := (RX0, TX0, 14)) rfl) rfl rfl hl.1 rfl (lv_room (Nat.le_of_ble_eq_true rfl)) dX0_closeParts_217 ⟨(Nat.le_of_ble_eq_true rfl), (Nat.le_of_ble_eq_true rfl)⟩) g hK (by decide) (by decide) (fx' := [(7, 6, q1_, .int x_431), (0, 8, a0_, .int y_348), (8, 6, q0_, .int 1201), (8, 8, q0_, .int x_333), (0, 4, a0_, .ref a_330), (0, 3, a0_, .ref g76_0_3_a0_), (0, 0, a0_, .ref q0_), (0, 2, a0_, .ref q1_)]) rfl (fun fr_441 H locs hp hMr_441 g => ?_)
                                            obtain ⟨x_442, h_443, hF_444⟩ := hp
                                            have g := g.more hF_444
                                            refine lv_iload hx hb dX0_closeParts_220 (lv_at hl 0 rfl) ?_
                                            refine lv_bipush (v := 12) hx hb dX0_closeParts_222 (by decide) ?_
                                            refine lv_icmp_le (tgt := 245) hx hb dX0_closeParts_224 (by decide) (fun c_445 => ?_) (fun c_445 => ?_)
                                            · have fc_445 := le_f c_445
                                              have b_446 : bd (-2147483648) 12 y_440 := leL fc_445 (bdT y_440) kb_12 (by decide)
                                              obtain ⟨y_447, ey_447⟩ : ∃ z : Int32, z = v4_3 + 1 := ⟨_, rfl⟩
                                              refine lv_iinc (v := y_447) (lv' := [(3, .int y_447), (6, .int y_440), (2, .int 1), (5, .int 0), (4, .int x_350), (0, .ref a0_), (1, .int x1_)]) hx hb dX0_closeParts_245 hl (k := 4) rfl (by rw [ey_447]; rfl) (by decide) rfl (fun ls hl => ?_)
                                              have ty_447 := add_bd ey_447 b_341 kb_1 (by decide)
                                              have b_448 : bd 2 300 y_447 := add_rg ty_447 b_341 kb_1 (by decide)
                                              refine lv_goto (tgt := 4) hx hb dX0_closeParts_248 (by decide) ?_
                                              have hl9 := lv_sub hl [0, 1, 2, 3, 4, 5, 6] (by rfl : lv_pick [(3, .int y_447), (6, .int y_440), (2, .int 1), (5, .int 0), (4, .int x_350), (0, .ref a0_), (1, .int x1_)] [0, 1, 2, 3, 4, 5, 6] = [(3, .int y_447), (6, .int y_440), (2, .int 1), (5, .int 0), (4, .int x_350), (0, .ref a0_), (1, .int x1_)])
                                              have g9 := g.sub (fx' := [(8, 6, q0_, .int 1201), (8, 8, q0_, .int x_333), (0, 4, a0_, .ref a_330), (0, 12, a0_, .int 0), (0, 10, a0_, .int x_442), (7, 6, q1_, .int x_431), (0, 8, a0_, .int y_348), (0, 3, a0_, .ref g76_0_3_a0_), (0, 0, a0_, .ref q0_), (0, 2, a0_, .ref q1_)]) [4, 5, 6, 0, 1, 2, 3, 7, 8, 9] rfl
                                              exact ih4  y_447 y_440 1 0 x_350 x_442 x_431 y_348 (bd_sub b_448 (by decide)) (bd_sub kb_1 (by decide)) (bd_sub kb_0 (by decide)) h_443 h_432 (bd_sub b_349 (by decide)) (by have h9_0 := b_349; unfold bd at h9_0; have h9_1 := b_446; unfold bd at h9_1; have h9_2 := b_448; unfold bd at h9_2; have h9_3 := bdT v4_4; unfold bd at h9_3; have h9_4 := bdT v4_6; unfold bd at h9_4; have h9_5 := bdT x_350; unfold bd at h9_5; have h9_6 := bv4_2; unfold bd at h9_6; have h9_7 := bv4_3; unfold bd at h9_7; have h9_8 := bv4_5; unfold bd at h9_8; have h9_9 := bw4_0_10_a0_; unfold bd at h9_9; have h9_10 := bw4_0_8_a0_; unfold bd at h9_10; have h9_11 := bw4_7_6_q1_; unfold bd at h9_11; have h9_12 := h_432; unfold bd at h9_12; have h9_13 := h_443; unfold bd at h9_13; have h9_14 := kb_0; unfold bd at h9_14; have h9_15 := kb_1; unfold bd at h9_15; have h9_16 := kb_12; unfold bd at h9_16; have h9_17 := kb_205; unfold bd at h9_17; have h9_18 := kb_206; unfold bd at h9_18; have h9_19 := kb_300; unfold bd at h9_19; have h9_20 := kb_6; unfold bd at h9_20; have h9_21 := kb_7; unfold bd at h9_21; omega) _ _ _ _ g9  hl9
                                            · have fc_445 := nle_f c_445
                                              have b_449 : bd 13 2147483647 y_440 := ltR fc_445 kb_12 (bdT y_440) (by decide)
                                              refine lv_aload_n hx hb dX0_closeParts_227 rfl (lv_at hl 5 rfl) ?_
                                              refine g_getk (C := RX0) (T := TX0) (N := 14) hx hb hts (mc_ inX0) hown hK g rfl 0 (by decide) rfl (hts _ (List.mem_cons_of_mem _ t_373)) (fun _ h9 => h9) 8 rfl dX0_closeParts_228 ?_
                                              refine lv_bipush (v := 7) hx hb dX0_closeParts_231 (by decide) ?_
                                              refine lv_aload_n hx hb dX0_closeParts_233 rfl (lv_at hl 5 rfl) ?_
                                              refine g_getk (C := RX0) (T := TX0) (N := 14) hx hb hts (mc_ inX0) hown hK g rfl 4 (by decide) rfl (hts _ (List.mem_cons_of_mem _ t_377)) (fun _ h9 => h9) 6 rfl dX0_closeParts_234 ?_
                                              refine lv_aload_n hx hb dX0_closeParts_237 rfl (lv_at hl 5 rfl) ?_
                                              refine g_getk (C := RX0) (T := TX0) (N := 14) hx hb hts (mc_ inX0) hown hK g rfl 8 (by decide) rfl (hts _ (List.mem_cons_of_mem _ t_381)) (fun _ h9 => h9) 3 rfl dX0_closeParts_238 ?_
                                              refine g_iald hx hb hK g ma_330 ka_330 (by decide) rfl (in_bd b_349 (by decide)) dX0_closeParts_241 (fun x_450 bx_450 cx_450 => ?_)
                                              refine g_callv (va_runV (As := [.int 7, .int x_450]) (rest := []) ⟨hx, hb, hml, hown, hts⟩ (r_X8_fail_2 l dC dI L kd tys fr_441 H.size g.2.2.2.1 q0_ mq0_ kq0_ 7 (bd_sub kb_7 (by decide)) x_450 x_333 h_334 (g.fcts [5] rfl)) (cwV 2 hts (gV_ t_1215 t_1107 t_1108 t_184 t_1109) rfl rfl rfl (by decide +kernel) ⟨(Nat.le_of_ble_eq_true rfl), (Nat.le_of_ble_eq_true rfl)⟩) (pre3V g hK mq0_ kq0_ (by decide) (q := (RX8, TX8, 10)) rfl) rfl rfl hl.1 rfl (lv_room (Nat.le_of_ble_eq_true rfl)) dX0_closeParts_242 ⟨(Nat.le_of_ble_eq_true rfl), (Nat.le_of_ble_eq_true rfl)⟩) g hK (by decide) (by decide) (fx' := [(0, 12, a0_, .int 0), (0, 10, a0_, .int x_442), (7, 6, q1_, .int x_431), (0, 8, a0_, .int y_348), (8, 8, q0_, .int x_333), (0, 4, a0_, .ref a_330), (0, 3, a0_, .ref g76_0_3_a0_), (0, 0, a0_, .ref q0_), (0, 2, a0_, .ref q1_)]) rfl (fun fr_451 H locs hp hMr_451 g => ?_)
                                              have hF_452 := hp
                                              have g := g.more hF_452
                                              obtain ⟨y_453, ey_453⟩ : ∃ z : Int32, z = v4_3 + 1 := ⟨_, rfl⟩
                                              refine lv_iinc (v := y_453) (lv' := [(3, .int y_453), (6, .int y_440), (2, .int 1), (5, .int 0), (4, .int x_350), (0, .ref a0_), (1, .int x1_)]) hx hb dX0_closeParts_245 hl (k := 4) rfl (by rw [ey_453]; rfl) (by decide) rfl (fun ls hl => ?_)
                                              have ty_453 := add_bd ey_453 b_341 kb_1 (by decide)
                                              have b_454 : bd 2 300 y_453 := add_rg ty_453 b_341 kb_1 (by decide)
                                              refine lv_goto (tgt := 4) hx hb dX0_closeParts_248 (by decide) ?_
                                              have hl9 := lv_sub hl [0, 1, 2, 3, 4, 5, 6] (by rfl : lv_pick [(3, .int y_453), (6, .int y_440), (2, .int 1), (5, .int 0), (4, .int x_350), (0, .ref a0_), (1, .int x1_)] [0, 1, 2, 3, 4, 5, 6] = [(3, .int y_453), (6, .int y_440), (2, .int 1), (5, .int 0), (4, .int x_350), (0, .ref a0_), (1, .int x1_)])
                                              have g9 := g.sub (fx' := [(8, 6, q0_, .int 1201), (8, 8, q0_, .int x_333), (0, 4, a0_, .ref a_330), (0, 12, a0_, .int 0), (0, 10, a0_, .int x_442), (7, 6, q1_, .int x_431), (0, 8, a0_, .int y_348), (0, 3, a0_, .ref g76_0_3_a0_), (0, 0, a0_, .ref q0_), (0, 2, a0_, .ref q1_)]) [0, 5, 6, 1, 2, 3, 4, 7, 8, 9] rfl
                                              exact ih4  y_453 y_440 1 0 x_350 x_442 x_431 y_348 (bd_sub b_454 (by decide)) (bd_sub kb_1 (by decide)) (bd_sub kb_0 (by decide)) h_443 h_432 (bd_sub b_349 (by decide)) (by have h9_0 := b_349; unfold bd at h9_0; have h9_1 := b_449; unfold bd at h9_1; have h9_2 := b_454; unfold bd at h9_2; have h9_3 := bdT v4_4; unfold bd at h9_3; have h9_4 := bdT v4_6; unfold bd at h9_4; have h9_5 := bdT x_350; unfold bd at h9_5; have h9_6 := bv4_2; unfold bd at h9_6; have h9_7 := bv4_3; unfold bd at h9_7; have h9_8 := bv4_5; unfold bd at h9_8; have h9_9 := bw4_0_10_a0_; unfold bd at h9_9; have h9_10 := bw4_0_8_a0_; unfold bd at h9_10; have h9_11 := bw4_7_6_q1_; unfold bd at h9_11; have h9_12 := h_432; unfold bd at h9_12; have h9_13 := h_443; unfold bd at h9_13; have h9_14 := kb_0; unfold bd at h9_14; have h9_15 := kb_1; unfold bd at h9_15; have h9_16 := kb_12; unfold bd at h9_16; have h9_17 := kb_205; unfold bd at h9_17; have h9_18 := kb_206; unfold bd at h9_18; have h9_19 := kb_300; unfold bd at h9_19; have h9_20 := kb_6; unfold bd at h9_20; have h9_21 := kb_7; unfold bd at h9_21; omega) _ _ _ _ g9  hl9
                                          · have fc_429 := eq_f c_429
                                            have b_455 : bd 206 206 x_350 := eqX fc_429 (bdT x_350) kb_206 (by decide)
                                            refine lv_aload_n hx hb dX0_closeParts_152 rfl (lv_at hl 5 rfl) ?_
                                            refine g_getk (C := RX0) (T := TX0) (N := 14) hx hb hts (mc_ inX0) hown hK g rfl 2 (by decide) rfl (hts _ (List.mem_cons_of_mem _ t_375)) (fun _ h9 => h9) 9 rfl dX0_closeParts_153 ?_
                                            refine lv_bipush (v := 8) hx hb dX0_closeParts_156 (by decide) ?_
                                            refine lv_iconst (v := 0) hx hb dX0_closeParts_158 (by decide) ?_
                                            refine g_callv (va_runV (As := [.int 8, .int 0]) (rest := []) ⟨hx, hb, hml, hown, hts⟩ (r_X7_emit l dC dI L kd tys fr_395 H.size g.2.2.2.1 q1_ mq1_ kq1_ 8 0) (cwV 2 hts (gV_ t_1203 t_1204 t_1205 t_191 t_1206) rfl rfl rfl (by decide +kernel) ⟨(Nat.le_of_ble_eq_true rfl), (Nat.le_of_ble_eq_true rfl)⟩) (pre3V g hK mq1_ kq1_ (by decide) (q := (RX7, TX7, 19)) rfl) rfl rfl hl.1 rfl (lv_room (Nat.le_of_ble_eq_true rfl)) dX0_closeParts_159 ⟨(Nat.le_of_ble_eq_true rfl), (Nat.le_of_ble_eq_true rfl)⟩) g hK (by decide) (by decide) (fx' := [(0, 10, a0_, .int x_396), (0, 8, a0_, .int y_348), (8, 6, q0_, .int 1201), (8, 8, q0_, .int x_333), (0, 4, a0_, .ref a_330), (0, 12, a0_, .int 0), (0, 3, a0_, .ref g76_0_3_a0_), (0, 0, a0_, .ref q0_), (0, 2, a0_, .ref q1_)]) rfl (fun fr_456 H locs hp hMr_456 g => ?_)
                                            obtain ⟨x_457, h_458, hF_459⟩ := hp
                                            have g := g.more hF_459
                                            refine lv_aload_n hx hb dX0_closeParts_162 rfl (lv_at hl 5 rfl) ?_
                                            refine g_getk (C := RX0) (T := TX0) (N := 14) hx hb hts (mc_ inX0) hown hK g rfl 2 (by decide) rfl (hts _ (List.mem_cons_of_mem _ t_375)) (fun _ h9 => h9) 9 rfl dX0_closeParts_163 ?_
                                            refine lv_aload_n hx hb dX0_closeParts_166 rfl (lv_at hl 5 rfl) ?_
                                            refine g_getr (K := 112) (C := RX0) (T := TX0) (N := 14) hx hb hts (mc_ inX0) hown hK g ma0_ ka0_ (by decide) rfl 5 (by decide) rfl (hts _ (List.mem_cons_of_mem _ t_378)) (fun _ h9 => h9) rfl dX0_closeParts_167 (fun a_460 ma_460 ka_460 g => ?_)
                                            refine lv_aload_n hx hb dX0_closeParts_170 rfl (lv_at hl 5 rfl) ?_
                                            refine g_getk (C := RX0) (T := TX0) (N := 14) hx hb hts (mc_ inX0) hown hK g rfl 8 (by decide) rfl (hts _ (List.mem_cons_of_mem _ t_381)) (fun _ h9 => h9) 3 rfl dX0_closeParts_171 ?_
                                            refine g_iald hx hb hK g ma_460 ka_460 (by decide) rfl (in_bd b_349 (by decide)) dX0_closeParts_174 (fun x_461 bx_461 cx_461 => ?_)
                                            refine g_callv (va_runV (As := [.int x_461]) (rest := []) ⟨hx, hb, hml, hown, hts⟩ (r_X7_leadHere l dC dI L kd tys fr_456 H.size g.2.2.2.1 q1_ mq1_ kq1_ x_461) (cwV 1 hts (gV_ t_1207 t_1208 t_1209 t_191 t_1210) rfl rfl rfl (by decide +kernel) ⟨(Nat.le_of_ble_eq_true rfl), (Nat.le_of_ble_eq_true rfl)⟩) (pre3V g hK mq1_ kq1_ (by decide) (q := (RX7, TX7, 19)) rfl) rfl rfl hl.1 rfl (lv_room (Nat.le_of_ble_eq_true rfl)) dX0_closeParts_175 ⟨(Nat.le_of_ble_eq_true rfl), (Nat.le_of_ble_eq_true rfl)⟩) g hK (by decide) (by decide) (fx' := [(0, 5, a0_, .ref a_460), (7, 6, q1_, .int x_457), (0, 10, a0_, .int x_396), (0, 8, a0_, .int y_348), (8, 6, q0_, .int 1201), (8, 8, q0_, .int x_333), (0, 4, a0_, .ref a_330), (0, 12, a0_, .int 0), (0, 3, a0_, .ref g76_0_3_a0_), (0, 0, a0_, .ref q0_), (0, 2, a0_, .ref q1_)]) rfl (fun fr_462 H locs hp hMr_462 g => ?_)
                                            refine lv_goto (tgt := 191) hx hb dX0_closeParts_178 (by decide) ?_
                                            refine lv_iconst (v := 1) hx hb dX0_closeParts_191 (by decide) ?_
                                            refine lv_iload hx hb dX0_closeParts_192 (lv_at hl 2 rfl) ?_
                                            refine lv_if_eq (tgt := 202) hx hb dX0_closeParts_194 (by decide) (fun c_ => ?_) (fun c_ => absurd (by decide) c_)
                                            refine lv_iload hx hb dX0_closeParts_202 (lv_at hl 0 rfl) ?_
                                            refine lv_aload_n hx hb dX0_closeParts_204 rfl (lv_at hl 5 rfl) ?_
                                            refine g_calli (va_runV (As := []) (rest := [.int r_395, .int 1]) ⟨hx, hb, hml, hown, hts⟩ (r_X0_takeHeight l dC dI L kd tys fr_462 H.size g.2.2.2.1 a0_ ma0_ ka0_) (cwV 0 hts (gV_ t_1199 t_1201 t_16 t_190 t_1202) rfl rfl rfl (by decide +kernel) ⟨(Nat.le_of_ble_eq_true rfl), (Nat.le_of_ble_eq_true rfl)⟩) (pre3V g hK ma0_ ka0_ (by decide) (q := (RX0, TX0, 14)) rfl) rfl rfl hl.1 rfl (lv_room (Nat.le_of_ble_eq_true rfl)) dX0_closeParts_205 ⟨(Nat.le_of_ble_eq_true rfl), (Nat.le_of_ble_eq_true rfl)⟩) g hK (by decide) (by decide) (fx' := [(0, 5, a0_, .ref a_460), (7, 6, q1_, .int x_457), (0, 8, a0_, .int y_348), (8, 6, q0_, .int 1201), (8, 8, q0_, .int x_333), (0, 4, a0_, .ref a_330), (0, 12, a0_, .int 0), (0, 3, a0_, .ref g76_0_3_a0_), (0, 0, a0_, .ref q0_), (0, 2, a0_, .ref q1_)]) rfl (fun r_463 fr_463 H locs hp hMr_463 g => ?_)
                                            obtain ⟨x_464, h_465, hF_466⟩ := hp
                                            have g := g.more hF_466
                                            refine va_mmax hx hb (hml.trans hl.1.symm) hown (hts _ (List.mem_cons_of_mem _ t_1194)) (hts _ (List.mem_cons_of_mem _ t_1041)) (hts _ (List.mem_cons_of_mem _ t_204)) (hts _ (List.mem_cons_of_mem _ t_1042)) (Nat.le_of_ble_eq_true rfl) (Nat.le_of_ble_eq_true rfl) (Nat.le_of_ble_eq_true rfl) (Nat.le_of_ble_eq_true rfl) dX0_closeParts_208 ?_
                                            refine lv_topi (fun y_467 ey_467 => ?_)
                                            have ty_467 : y_467.toInt = max r_395.toInt r_463.toInt := by rw [ey_467]; exact mmax_ok _ _
                                            have b_468 : bd (-2147483648) 2147483647 y_467 := max_rg ty_467 (bdT r_395) (bdT r_463) (by decide)
                                            refine lv_iadd hx hb dX0_closeParts_211 ?_
                                            refine lv_topi (fun y_469 ey_469 => ?_)
                                            refine lv_istore (lv' := [(6, .int y_469), (2, .int 1), (5, .int 0), (4, .int x_350), (3, .int v4_3), (0, .ref a0_), (1, .int x1_)]) hx hb dX0_closeParts_212 hl (by decide) rfl (fun ls hl => ?_)
                                            refine lv_aload_n hx hb dX0_closeParts_214 rfl (lv_at hl 5 rfl) ?_
                                            refine lv_iload hx hb dX0_closeParts_215 (lv_at hl 0 rfl) ?_
                                            refine g_callv (va_runV (As := [.int y_469]) (rest := []) ⟨hx, hb, hml, hown, hts⟩ (r_X0_addWhole l dC dI L kd tys fr_463 H.size g.2.2.2.1 a0_ ma0_ ka0_ y_469) (cwV 1 hts (gV_ t_1211 t_1213 t_17 t_190 t_1214) rfl rfl rfl (by decide +kernel) ⟨(Nat.le_of_ble_eq_true rfl), (Nat.le_of_ble_eq_true rfl)⟩) (pre3V g hK ma0_ ka0_ (by decide) (q := (RX0, TX0, 14)) rfl) rfl rfl hl.1 rfl (lv_room (Nat.le_of_ble_eq_true rfl)) dX0_closeParts_217 ⟨(Nat.le_of_ble_eq_true rfl), (Nat.le_of_ble_eq_true rfl)⟩) g hK (by decide) (by decide) (fx' := [(0, 5, a0_, .ref a_460), (7, 6, q1_, .int x_457), (0, 8, a0_, .int y_348), (8, 6, q0_, .int 1201), (8, 8, q0_, .int x_333), (0, 4, a0_, .ref a_330), (0, 3, a0_, .ref g76_0_3_a0_), (0, 0, a0_, .ref q0_), (0, 2, a0_, .ref q1_)]) rfl (fun fr_470 H locs hp hMr_470 g => ?_)
                                            obtain ⟨x_471, h_472, hF_473⟩ := hp
                                            have g := g.more hF_473
                                            refine lv_iload hx hb dX0_closeParts_220 (lv_at hl 0 rfl) ?_
                                            refine lv_bipush (v := 12) hx hb dX0_closeParts_222 (by decide) ?_
                                            refine lv_icmp_le (tgt := 245) hx hb dX0_closeParts_224 (by decide) (fun c_474 => ?_) (fun c_474 => ?_)
                                            · have fc_474 := le_f c_474
                                              have b_475 : bd (-2147483648) 12 y_469 := leL fc_474 (bdT y_469) kb_12 (by decide)
                                              obtain ⟨y_476, ey_476⟩ : ∃ z : Int32, z = v4_3 + 1 := ⟨_, rfl⟩
                                              refine lv_iinc (v := y_476) (lv' := [(3, .int y_476), (6, .int y_469), (2, .int 1), (5, .int 0), (4, .int x_350), (0, .ref a0_), (1, .int x1_)]) hx hb dX0_closeParts_245 hl (k := 4) rfl (by rw [ey_476]; rfl) (by decide) rfl (fun ls hl => ?_)
                                              have ty_476 := add_bd ey_476 b_341 kb_1 (by decide)
                                              have b_477 : bd 2 300 y_476 := add_rg ty_476 b_341 kb_1 (by decide)
                                              refine lv_goto (tgt := 4) hx hb dX0_closeParts_248 (by decide) ?_
                                              have hl9 := lv_sub hl [0, 1, 2, 3, 4, 5, 6] (by rfl : lv_pick [(3, .int y_476), (6, .int y_469), (2, .int 1), (5, .int 0), (4, .int x_350), (0, .ref a0_), (1, .int x1_)] [0, 1, 2, 3, 4, 5, 6] = [(3, .int y_476), (6, .int y_469), (2, .int 1), (5, .int 0), (4, .int x_350), (0, .ref a0_), (1, .int x1_)])
                                              have g9 := g.sub (fx' := [(8, 6, q0_, .int 1201), (8, 8, q0_, .int x_333), (0, 4, a0_, .ref a_330), (0, 12, a0_, .int 0), (0, 10, a0_, .int x_471), (7, 6, q1_, .int x_457), (0, 8, a0_, .int y_348), (0, 3, a0_, .ref g76_0_3_a0_), (0, 0, a0_, .ref q0_), (0, 2, a0_, .ref q1_)]) [5, 6, 7, 0, 1, 3, 4, 8, 9, 10] rfl
                                              exact ih4  y_476 y_469 1 0 x_350 x_471 x_457 y_348 (bd_sub b_477 (by decide)) (bd_sub kb_1 (by decide)) (bd_sub kb_0 (by decide)) h_472 h_458 (bd_sub b_349 (by decide)) (by have h9_0 := b_349; unfold bd at h9_0; have h9_1 := b_455; unfold bd at h9_1; have h9_2 := b_475; unfold bd at h9_2; have h9_3 := b_477; unfold bd at h9_3; have h9_4 := bdT v4_4; unfold bd at h9_4; have h9_5 := bdT v4_6; unfold bd at h9_5; have h9_6 := bv4_2; unfold bd at h9_6; have h9_7 := bv4_3; unfold bd at h9_7; have h9_8 := bv4_5; unfold bd at h9_8; have h9_9 := bw4_0_10_a0_; unfold bd at h9_9; have h9_10 := bw4_0_8_a0_; unfold bd at h9_10; have h9_11 := bw4_7_6_q1_; unfold bd at h9_11; have h9_12 := h_458; unfold bd at h9_12; have h9_13 := h_472; unfold bd at h9_13; have h9_14 := kb_0; unfold bd at h9_14; have h9_15 := kb_1; unfold bd at h9_15; have h9_16 := kb_12; unfold bd at h9_16; have h9_17 := kb_205; unfold bd at h9_17; have h9_18 := kb_206; unfold bd at h9_18; have h9_19 := kb_300; unfold bd at h9_19; have h9_20 := kb_6; unfold bd at h9_20; have h9_21 := kb_7; unfold bd at h9_21; omega) _ _ _ _ g9  hl9
                                            · have fc_474 := nle_f c_474
                                              have b_478 : bd 13 2147483647 y_469 := ltR fc_474 kb_12 (bdT y_469) (by decide)
                                              refine lv_aload_n hx hb dX0_closeParts_227 rfl (lv_at hl 5 rfl) ?_
                                              refine g_getk (C := RX0) (T := TX0) (N := 14) hx hb hts (mc_ inX0) hown hK g rfl 0 (by decide) rfl (hts _ (List.mem_cons_of_mem _ t_373)) (fun _ h9 => h9) 9 rfl dX0_closeParts_228 ?_
                                              refine lv_bipush (v := 7) hx hb dX0_closeParts_231 (by decide) ?_
                                              refine lv_aload_n hx hb dX0_closeParts_233 rfl (lv_at hl 5 rfl) ?_
                                              refine g_getk (C := RX0) (T := TX0) (N := 14) hx hb hts (mc_ inX0) hown hK g rfl 4 (by decide) rfl (hts _ (List.mem_cons_of_mem _ t_377)) (fun _ h9 => h9) 7 rfl dX0_closeParts_234 ?_
                                              refine lv_aload_n hx hb dX0_closeParts_237 rfl (lv_at hl 5 rfl) ?_
                                              refine g_getk (C := RX0) (T := TX0) (N := 14) hx hb hts (mc_ inX0) hown hK g rfl 8 (by decide) rfl (hts _ (List.mem_cons_of_mem _ t_381)) (fun _ h9 => h9) 4 rfl dX0_closeParts_238 ?_
                                              refine g_iald hx hb hK g ma_330 ka_330 (by decide) rfl (in_bd b_349 (by decide)) dX0_closeParts_241 (fun x_479 bx_479 cx_479 => ?_)
                                              refine g_callv (va_runV (As := [.int 7, .int x_479]) (rest := []) ⟨hx, hb, hml, hown, hts⟩ (r_X8_fail_2 l dC dI L kd tys fr_470 H.size g.2.2.2.1 q0_ mq0_ kq0_ 7 (bd_sub kb_7 (by decide)) x_479 x_333 h_334 (g.fcts [6] rfl)) (cwV 2 hts (gV_ t_1215 t_1107 t_1108 t_184 t_1109) rfl rfl rfl (by decide +kernel) ⟨(Nat.le_of_ble_eq_true rfl), (Nat.le_of_ble_eq_true rfl)⟩) (pre3V g hK mq0_ kq0_ (by decide) (q := (RX8, TX8, 10)) rfl) rfl rfl hl.1 rfl (lv_room (Nat.le_of_ble_eq_true rfl)) dX0_closeParts_242 ⟨(Nat.le_of_ble_eq_true rfl), (Nat.le_of_ble_eq_true rfl)⟩) g hK (by decide) (by decide) (fx' := [(0, 12, a0_, .int 0), (0, 10, a0_, .int x_471), (0, 5, a0_, .ref a_460), (7, 6, q1_, .int x_457), (0, 8, a0_, .int y_348), (8, 8, q0_, .int x_333), (0, 4, a0_, .ref a_330), (0, 3, a0_, .ref g76_0_3_a0_), (0, 0, a0_, .ref q0_), (0, 2, a0_, .ref q1_)]) rfl (fun fr_480 H locs hp hMr_480 g => ?_)
                                              have hF_481 := hp
                                              have g := g.more hF_481
                                              obtain ⟨y_482, ey_482⟩ : ∃ z : Int32, z = v4_3 + 1 := ⟨_, rfl⟩
                                              refine lv_iinc (v := y_482) (lv' := [(3, .int y_482), (6, .int y_469), (2, .int 1), (5, .int 0), (4, .int x_350), (0, .ref a0_), (1, .int x1_)]) hx hb dX0_closeParts_245 hl (k := 4) rfl (by rw [ey_482]; rfl) (by decide) rfl (fun ls hl => ?_)
                                              have ty_482 := add_bd ey_482 b_341 kb_1 (by decide)
                                              have b_483 : bd 2 300 y_482 := add_rg ty_482 b_341 kb_1 (by decide)
                                              refine lv_goto (tgt := 4) hx hb dX0_closeParts_248 (by decide) ?_
                                              have hl9 := lv_sub hl [0, 1, 2, 3, 4, 5, 6] (by rfl : lv_pick [(3, .int y_482), (6, .int y_469), (2, .int 1), (5, .int 0), (4, .int x_350), (0, .ref a0_), (1, .int x1_)] [0, 1, 2, 3, 4, 5, 6] = [(3, .int y_482), (6, .int y_469), (2, .int 1), (5, .int 0), (4, .int x_350), (0, .ref a0_), (1, .int x1_)])
                                              have g9 := g.sub (fx' := [(8, 6, q0_, .int 1201), (8, 8, q0_, .int x_333), (0, 4, a0_, .ref a_330), (0, 12, a0_, .int 0), (0, 10, a0_, .int x_471), (7, 6, q1_, .int x_457), (0, 8, a0_, .int y_348), (0, 3, a0_, .ref g76_0_3_a0_), (0, 0, a0_, .ref q0_), (0, 2, a0_, .ref q1_)]) [0, 6, 7, 1, 2, 4, 5, 8, 9, 10] rfl
                                              exact ih4  y_482 y_469 1 0 x_350 x_471 x_457 y_348 (bd_sub b_483 (by decide)) (bd_sub kb_1 (by decide)) (bd_sub kb_0 (by decide)) h_472 h_458 (bd_sub b_349 (by decide)) (by have h9_0 := b_349; unfold bd at h9_0; have h9_1 := b_455; unfold bd at h9_1; have h9_2 := b_478; unfold bd at h9_2; have h9_3 := b_483; unfold bd at h9_3; have h9_4 := bdT v4_4; unfold bd at h9_4; have h9_5 := bdT v4_6; unfold bd at h9_5; have h9_6 := bv4_2; unfold bd at h9_6; have h9_7 := bv4_3; unfold bd at h9_7; have h9_8 := bv4_5; unfold bd at h9_8; have h9_9 := bw4_0_10_a0_; unfold bd at h9_9; have h9_10 := bw4_0_8_a0_; unfold bd at h9_10; have h9_11 := bw4_7_6_q1_; unfold bd at h9_11; have h9_12 := h_458; unfold bd at h9_12; have h9_13 := h_472; unfold bd at h9_13; have h9_14 := kb_0; unfold bd at h9_14; have h9_15 := kb_1; unfold bd at h9_15; have h9_16 := kb_12; unfold bd at h9_16; have h9_17 := kb_205; unfold bd at h9_17; have h9_18 := kb_206; unfold bd at h9_18; have h9_19 := kb_300; unfold bd at h9_19; have h9_20 := kb_6; unfold bd at h9_20; have h9_21 := kb_7; unfold bd at h9_21; omega) _ _ _ _ g9  hl9
                                    · have b_484 : bd 37 206 x_350 := eqX rfl (bdT x_350) h_387 (by decide)
                                      refine lv_iload_n hx hb dX0_closeParts_66 rfl (lv_at hl 6 rfl) ?_
                                      refine lv_icmp_lt (tgt := 74) hx hb dX0_closeParts_67 (by decide) (fun c_485 => ?_) (fun c_485 => ?_)
                                      · have fc_485 := lt_f c_485
                                        have b_486 : bd 2 2147483647 x1_ := ltR fc_485 h_386 (bdT x1_) (by decide)
                                        refine lv_iconst (v := 0) hx hb dX0_closeParts_74 (by decide) ?_
                                        refine lv_istore_n (lv' := [(2, .int 0), (5, .int 0), (4, .int x_350), (3, .int v4_3), (6, .int v4_6), (0, .ref a0_), (1, .int x1_)]) hx hb dX0_closeParts_75 rfl hl (by decide) rfl (fun ls hl => ?_)
                                        refine lv_iload_n hx hb dX0_closeParts_76 rfl (lv_at hl 0 rfl) ?_
                                        refine lv_if_eq (tgt := 245) hx hb dX0_closeParts_77 (by decide) (fun c_ => ?_) (fun c_ => absurd (by decide) c_)
                                        obtain ⟨y_487, ey_487⟩ : ∃ z : Int32, z = v4_3 + 1 := ⟨_, rfl⟩
                                        refine lv_iinc (v := y_487) (lv' := [(3, .int y_487), (2, .int 0), (5, .int 0), (4, .int x_350), (6, .int v4_6), (0, .ref a0_), (1, .int x1_)]) hx hb dX0_closeParts_245 hl (k := 3) rfl (by rw [ey_487]; rfl) (by decide) rfl (fun ls hl => ?_)
                                        have ty_487 := add_bd ey_487 b_341 kb_1 (by decide)
                                        have b_488 : bd 2 300 y_487 := add_rg ty_487 b_341 kb_1 (by decide)
                                        refine lv_goto (tgt := 4) hx hb dX0_closeParts_248 (by decide) ?_
                                        have hl9 := lv_sub hl [0, 4, 1, 2, 3, 5, 6] (by rfl : lv_pick [(3, .int y_487), (2, .int 0), (5, .int 0), (4, .int x_350), (6, .int v4_6), (0, .ref a0_), (1, .int x1_)] [0, 4, 1, 2, 3, 5, 6] = [(3, .int y_487), (6, .int v4_6), (2, .int 0), (5, .int 0), (4, .int x_350), (0, .ref a0_), (1, .int x1_)])
                                        have g9 := g.sub (fx' := [(8, 6, q0_, .int 1201), (8, 8, q0_, .int x_333), (0, 4, a0_, .ref a_330), (0, 12, a0_, .int 0), (0, 10, a0_, .int w4_0_10_a0_), (7, 6, q1_, .int w4_7_6_q1_), (0, 8, a0_, .int w4_0_8_a0_), (0, 3, a0_, .ref g76_0_3_a0_), (0, 0, a0_, .ref q0_), (0, 2, a0_, .ref q1_)]) [0, 1, 2, 3, 4, 5, 6, 7, 8, 9] rfl
                                        exact ih4  y_487 v4_6 0 0 x_350 w4_0_10_a0_ w4_7_6_q1_ w4_0_8_a0_ (bd_sub b_488 (by decide)) (bd_sub kb_0 (by decide)) (bd_sub kb_0 (by decide)) bw4_0_10_a0_ bw4_7_6_q1_ (bd_sub b_347 (by decide)) (by have h9_0 := b_347; unfold bd at h9_0; have h9_1 := b_484; unfold bd at h9_1; have h9_2 := b_488; unfold bd at h9_2; have h9_3 := bdT v4_4; unfold bd at h9_3; have h9_4 := bdT v4_6; unfold bd at h9_4; have h9_5 := bv4_2; unfold bd at h9_5; have h9_6 := bv4_3; unfold bd at h9_6; have h9_7 := bv4_5; unfold bd at h9_7; have h9_8 := bw4_0_10_a0_; unfold bd at h9_8; have h9_9 := bw4_0_8_a0_; unfold bd at h9_9; have h9_10 := bw4_7_6_q1_; unfold bd at h9_10; have h9_11 := kb_0; unfold bd at h9_11; have h9_12 := kb_1; unfold bd at h9_12; have h9_13 := kb_12; unfold bd at h9_13; have h9_14 := kb_300; unfold bd at h9_14; have h9_15 := kb_6; unfold bd at h9_15; have h9_16 := kb_7; unfold bd at h9_16; omega) _ _ _ _ g9  hl9
                                      · have fc_485 := nlt_f c_485
                                        have b_489 : bd (-2147483648) 5 x1_ := leL fc_485 (bdT x1_) h_386 (by decide)
                                        refine lv_iconst (v := 1) hx hb dX0_closeParts_70 (by decide) ?_
                                        refine lv_goto (tgt := 75) hx hb dX0_closeParts_71 (by decide) ?_
                                        refine lv_istore_n (lv' := [(2, .int 1), (5, .int 0), (4, .int x_350), (3, .int v4_3), (6, .int v4_6), (0, .ref a0_), (1, .int x1_)]) hx hb dX0_closeParts_75 rfl hl (by decide) rfl (fun ls hl => ?_)
                                        refine lv_iload_n hx hb dX0_closeParts_76 rfl (lv_at hl 0 rfl) ?_
                                        refine lv_if_eq (tgt := 245) hx hb dX0_closeParts_77 (by decide) (fun c_ => absurd c_ (by decide)) (fun c_ => ?_)
                                        refine lv_aload_n hx hb dX0_closeParts_80 rfl (lv_at hl 5 rfl) ?_
                                        refine lv_dup hx hb dX0_closeParts_81 rfl ?_
                                        refine g_getk (C := RX0) (T := TX0) (N := 14) hx hb hts (mc_ inX0) hown hK g rfl 8 (by decide) rfl (hts _ (List.mem_cons_of_mem _ t_381)) (fun _ h9 => h9) 6 rfl dX0_closeParts_82 ?_
                                        refine lv_iconst (v := 1) hx hb dX0_closeParts_85 (by decide) ?_
                                        refine lv_isub hx hb dX0_closeParts_86 ?_
                                        refine lv_topi (fun y_490 ey_490 => ?_)
                                        obtain rfl : y_348 = y_490 := ey_348.trans ey_490.symm
                                        refine g_put (C := RX0) (T := TX0) (N := 14) hx hb hts (mc_ inX0) tyX0 tyX0_ok nmX0 hown hK g ma0_ ka0_ (by decide) rfl 8 (by decide) (hts _ (List.mem_cons_of_mem _ t_381)) (fun _ h9 => h9) rfl rfl (okV_i (bd_sub b_349 (by decide))) rfl rfl (by decide) (Or.inr (Or.inl (by decide))) (fx' := [(8, 6, q0_, .int 1201), (8, 8, q0_, .int x_333), (0, 4, a0_, .ref a_330), (0, 12, a0_, .int 0), (0, 10, a0_, .int w4_0_10_a0_), (7, 6, q1_, .int w4_7_6_q1_), (0, 3, a0_, .ref g76_0_3_a0_), (0, 0, a0_, .ref q0_), (0, 2, a0_, .ref q1_)]) rfl dX0_closeParts_87 (fun f H locs hM_491 g => ?_)
                                        refine lv_aload_n hx hb dX0_closeParts_90 rfl (lv_at hl 5 rfl) ?_
                                        refine g_calli (va_runV (As := []) (rest := []) ⟨hx, hb, hml, hown, hts⟩ (r_X0_takeHeight l dC dI L kd tys f H.size g.2.2.2.1 a0_ ma0_ ka0_) (cwV 0 hts (gV_ t_1199 t_1201 t_16 t_190 t_1202) rfl rfl rfl (by decide +kernel) ⟨(Nat.le_of_ble_eq_true rfl), (Nat.le_of_ble_eq_true rfl)⟩) (pre3V g hK ma0_ ka0_ (by decide) (q := (RX0, TX0, 14)) rfl) rfl rfl hl.1 rfl (lv_room (Nat.le_of_ble_eq_true rfl)) dX0_closeParts_91 ⟨(Nat.le_of_ble_eq_true rfl), (Nat.le_of_ble_eq_true rfl)⟩) g hK (by decide) (by decide) (fx' := [(0, 8, a0_, .int y_348), (8, 6, q0_, .int 1201), (8, 8, q0_, .int x_333), (0, 4, a0_, .ref a_330), (0, 12, a0_, .int 0), (7, 6, q1_, .int w4_7_6_q1_), (0, 3, a0_, .ref g76_0_3_a0_), (0, 0, a0_, .ref q0_), (0, 2, a0_, .ref q1_)]) rfl (fun r_492 fr_492 H locs hp hMr_492 g => ?_)
                                        obtain ⟨x_493, h_494, hF_495⟩ := hp
                                        have g := g.more hF_495
                                        refine lv_istore (lv' := [(6, .int r_492), (2, .int 1), (5, .int 0), (4, .int x_350), (3, .int v4_3), (0, .ref a0_), (1, .int x1_)]) hx hb dX0_closeParts_94 hl (by decide) rfl (fun ls hl => ?_)
                                        refine lv_iload hx hb dX0_closeParts_96 (lv_at hl 2 rfl) ?_
                                        refine lv_if_eq (tgt := 136) hx hb dX0_closeParts_98 (by decide) (fun c_ => ?_) (fun c_ => absurd (by decide) c_)
                                        refine lv_iload hx hb dX0_closeParts_136 (lv_at hl 3 rfl) ?_
                                        refine lv_sipush (v := 205) hx hb dX0_closeParts_138 (by decide) ?_
                                        have kb_205 : bd 205 205 (205 : Int32) := ⟨by decide, by decide⟩
                                        refine lv_icmp_eq (tgt := 152) hx hb dX0_closeParts_141 (by decide) (fun c_496 => ?_) (fun c_496 => ?_)
                                        · have fc_496 := eq_f c_496
                                          have b_497 : bd 205 205 x_350 := eqX fc_496 b_484 kb_205 (by decide)
                                          refine lv_aload_n hx hb dX0_closeParts_152 rfl (lv_at hl 5 rfl) ?_
                                          refine g_getk (C := RX0) (T := TX0) (N := 14) hx hb hts (mc_ inX0) hown hK g rfl 2 (by decide) rfl (hts _ (List.mem_cons_of_mem _ t_375)) (fun _ h9 => h9) 9 rfl dX0_closeParts_153 ?_
                                          refine lv_bipush (v := 8) hx hb dX0_closeParts_156 (by decide) ?_
                                          refine lv_iconst (v := 0) hx hb dX0_closeParts_158 (by decide) ?_
                                          refine g_callv (va_runV (As := [.int 8, .int 0]) (rest := []) ⟨hx, hb, hml, hown, hts⟩ (r_X7_emit l dC dI L kd tys fr_492 H.size g.2.2.2.1 q1_ mq1_ kq1_ 8 0) (cwV 2 hts (gV_ t_1203 t_1204 t_1205 t_191 t_1206) rfl rfl rfl (by decide +kernel) ⟨(Nat.le_of_ble_eq_true rfl), (Nat.le_of_ble_eq_true rfl)⟩) (pre3V g hK mq1_ kq1_ (by decide) (q := (RX7, TX7, 19)) rfl) rfl rfl hl.1 rfl (lv_room (Nat.le_of_ble_eq_true rfl)) dX0_closeParts_159 ⟨(Nat.le_of_ble_eq_true rfl), (Nat.le_of_ble_eq_true rfl)⟩) g hK (by decide) (by decide) (fx' := [(0, 10, a0_, .int x_493), (0, 8, a0_, .int y_348), (8, 6, q0_, .int 1201), (8, 8, q0_, .int x_333), (0, 4, a0_, .ref a_330), (0, 12, a0_, .int 0), (0, 3, a0_, .ref g76_0_3_a0_), (0, 0, a0_, .ref q0_), (0, 2, a0_, .ref q1_)]) rfl (fun fr_498 H locs hp hMr_498 g => ?_)
                                          obtain ⟨x_499, h_500, hF_501⟩ := hp
                                          have g := g.more hF_501
                                          refine lv_aload_n hx hb dX0_closeParts_162 rfl (lv_at hl 5 rfl) ?_
                                          refine g_getk (C := RX0) (T := TX0) (N := 14) hx hb hts (mc_ inX0) hown hK g rfl 2 (by decide) rfl (hts _ (List.mem_cons_of_mem _ t_375)) (fun _ h9 => h9) 9 rfl dX0_closeParts_163 ?_
                                          refine lv_aload_n hx hb dX0_closeParts_166 rfl (lv_at hl 5 rfl) ?_
                                          refine g_getr (K := 112) (C := RX0) (T := TX0) (N := 14) hx hb hts (mc_ inX0) hown hK g ma0_ ka0_ (by decide) rfl 5 (by decide) rfl (hts _ (List.mem_cons_of_mem _ t_378)) (fun _ h9 => h9) rfl dX0_closeParts_167 (fun a_502 ma_502 ka_502 g => ?_)
                                          refine lv_aload_n hx hb dX0_closeParts_170 rfl (lv_at hl 5 rfl) ?_
                                          refine g_getk (C := RX0) (T := TX0) (N := 14) hx hb hts (mc_ inX0) hown hK g rfl 8 (by decide) rfl (hts _ (List.mem_cons_of_mem _ t_381)) (fun _ h9 => h9) 3 rfl dX0_closeParts_171 ?_
                                          refine g_iald hx hb hK g ma_502 ka_502 (by decide) rfl (in_bd b_349 (by decide)) dX0_closeParts_174 (fun x_503 bx_503 cx_503 => ?_)
                                          refine g_callv (va_runV (As := [.int x_503]) (rest := []) ⟨hx, hb, hml, hown, hts⟩ (r_X7_leadHere l dC dI L kd tys fr_498 H.size g.2.2.2.1 q1_ mq1_ kq1_ x_503) (cwV 1 hts (gV_ t_1207 t_1208 t_1209 t_191 t_1210) rfl rfl rfl (by decide +kernel) ⟨(Nat.le_of_ble_eq_true rfl), (Nat.le_of_ble_eq_true rfl)⟩) (pre3V g hK mq1_ kq1_ (by decide) (q := (RX7, TX7, 19)) rfl) rfl rfl hl.1 rfl (lv_room (Nat.le_of_ble_eq_true rfl)) dX0_closeParts_175 ⟨(Nat.le_of_ble_eq_true rfl), (Nat.le_of_ble_eq_true rfl)⟩) g hK (by decide) (by decide) (fx' := [(0, 5, a0_, .ref a_502), (7, 6, q1_, .int x_499), (0, 10, a0_, .int x_493), (0, 8, a0_, .int y_348), (8, 6, q0_, .int 1201), (8, 8, q0_, .int x_333), (0, 4, a0_, .ref a_330), (0, 12, a0_, .int 0), (0, 3, a0_, .ref g76_0_3_a0_), (0, 0, a0_, .ref q0_), (0, 2, a0_, .ref q1_)]) rfl (fun fr_504 H locs hp hMr_504 g => ?_)
                                          refine lv_goto (tgt := 191) hx hb dX0_closeParts_178 (by decide) ?_
                                          refine lv_iconst (v := 1) hx hb dX0_closeParts_191 (by decide) ?_
                                          refine lv_iload hx hb dX0_closeParts_192 (lv_at hl 2 rfl) ?_
                                          refine lv_if_eq (tgt := 202) hx hb dX0_closeParts_194 (by decide) (fun c_ => ?_) (fun c_ => absurd (by decide) c_)
                                          refine lv_iload hx hb dX0_closeParts_202 (lv_at hl 0 rfl) ?_
                                          refine lv_aload_n hx hb dX0_closeParts_204 rfl (lv_at hl 5 rfl) ?_
                                          refine g_calli (va_runV (As := []) (rest := [.int r_492, .int 1]) ⟨hx, hb, hml, hown, hts⟩ (r_X0_takeHeight l dC dI L kd tys fr_504 H.size g.2.2.2.1 a0_ ma0_ ka0_) (cwV 0 hts (gV_ t_1199 t_1201 t_16 t_190 t_1202) rfl rfl rfl (by decide +kernel) ⟨(Nat.le_of_ble_eq_true rfl), (Nat.le_of_ble_eq_true rfl)⟩) (pre3V g hK ma0_ ka0_ (by decide) (q := (RX0, TX0, 14)) rfl) rfl rfl hl.1 rfl (lv_room (Nat.le_of_ble_eq_true rfl)) dX0_closeParts_205 ⟨(Nat.le_of_ble_eq_true rfl), (Nat.le_of_ble_eq_true rfl)⟩) g hK (by decide) (by decide) (fx' := [(0, 5, a0_, .ref a_502), (7, 6, q1_, .int x_499), (0, 8, a0_, .int y_348), (8, 6, q0_, .int 1201), (8, 8, q0_, .int x_333), (0, 4, a0_, .ref a_330), (0, 12, a0_, .int 0), (0, 3, a0_, .ref g76_0_3_a0_), (0, 0, a0_, .ref q0_), (0, 2, a0_, .ref q1_)]) rfl (fun r_505 fr_505 H locs hp hMr_505 g => ?_)
                                          obtain ⟨x_506, h_507, hF_508⟩ := hp
                                          have g := g.more hF_508
                                          refine va_mmax hx hb (hml.trans hl.1.symm) hown (hts _ (List.mem_cons_of_mem _ t_1194)) (hts _ (List.mem_cons_of_mem _ t_1041)) (hts _ (List.mem_cons_of_mem _ t_204)) (hts _ (List.mem_cons_of_mem _ t_1042)) (Nat.le_of_ble_eq_true rfl) (Nat.le_of_ble_eq_true rfl) (Nat.le_of_ble_eq_true rfl) (Nat.le_of_ble_eq_true rfl) dX0_closeParts_208 ?_
                                          refine lv_topi (fun y_509 ey_509 => ?_)
                                          have ty_509 : y_509.toInt = max r_492.toInt r_505.toInt := by rw [ey_509]; exact mmax_ok _ _
                                          have b_510 : bd (-2147483648) 2147483647 y_509 := max_rg ty_509 (bdT r_492) (bdT r_505) (by decide)
                                          refine lv_iadd hx hb dX0_closeParts_211 ?_
                                          refine lv_topi (fun y_511 ey_511 => ?_)
                                          refine lv_istore (lv' := [(6, .int y_511), (2, .int 1), (5, .int 0), (4, .int x_350), (3, .int v4_3), (0, .ref a0_), (1, .int x1_)]) hx hb dX0_closeParts_212 hl (by decide) rfl (fun ls hl => ?_)
                                          refine lv_aload_n hx hb dX0_closeParts_214 rfl (lv_at hl 5 rfl) ?_
                                          refine lv_iload hx hb dX0_closeParts_215 (lv_at hl 0 rfl) ?_
                                          refine g_callv (va_runV (As := [.int y_511]) (rest := []) ⟨hx, hb, hml, hown, hts⟩ (r_X0_addWhole l dC dI L kd tys fr_505 H.size g.2.2.2.1 a0_ ma0_ ka0_ y_511) (cwV 1 hts (gV_ t_1211 t_1213 t_17 t_190 t_1214) rfl rfl rfl (by decide +kernel) ⟨(Nat.le_of_ble_eq_true rfl), (Nat.le_of_ble_eq_true rfl)⟩) (pre3V g hK ma0_ ka0_ (by decide) (q := (RX0, TX0, 14)) rfl) rfl rfl hl.1 rfl (lv_room (Nat.le_of_ble_eq_true rfl)) dX0_closeParts_217 ⟨(Nat.le_of_ble_eq_true rfl), (Nat.le_of_ble_eq_true rfl)⟩) g hK (by decide) (by decide) (fx' := [(0, 5, a0_, .ref a_502), (7, 6, q1_, .int x_499), (0, 8, a0_, .int y_348), (8, 6, q0_, .int 1201), (8, 8, q0_, .int x_333), (0, 4, a0_, .ref a_330), (0, 3, a0_, .ref g76_0_3_a0_), (0, 0, a0_, .ref q0_), (0, 2, a0_, .ref q1_)]) rfl (fun fr_512 H locs hp hMr_512 g => ?_)
                                          obtain ⟨x_513, h_514, hF_515⟩ := hp
                                          have g := g.more hF_515
                                          refine lv_iload hx hb dX0_closeParts_220 (lv_at hl 0 rfl) ?_
                                          refine lv_bipush (v := 12) hx hb dX0_closeParts_222 (by decide) ?_
                                          refine lv_icmp_le (tgt := 245) hx hb dX0_closeParts_224 (by decide) (fun c_516 => ?_) (fun c_516 => ?_)
                                          · have fc_516 := le_f c_516
                                            have b_517 : bd (-2147483648) 12 y_511 := leL fc_516 (bdT y_511) kb_12 (by decide)
                                            obtain ⟨y_518, ey_518⟩ : ∃ z : Int32, z = v4_3 + 1 := ⟨_, rfl⟩
                                            refine lv_iinc (v := y_518) (lv' := [(3, .int y_518), (6, .int y_511), (2, .int 1), (5, .int 0), (4, .int x_350), (0, .ref a0_), (1, .int x1_)]) hx hb dX0_closeParts_245 hl (k := 4) rfl (by rw [ey_518]; rfl) (by decide) rfl (fun ls hl => ?_)
                                            have ty_518 := add_bd ey_518 b_341 kb_1 (by decide)
                                            have b_519 : bd 2 300 y_518 := add_rg ty_518 b_341 kb_1 (by decide)
                                            refine lv_goto (tgt := 4) hx hb dX0_closeParts_248 (by decide) ?_
                                            have hl9 := lv_sub hl [0, 1, 2, 3, 4, 5, 6] (by rfl : lv_pick [(3, .int y_518), (6, .int y_511), (2, .int 1), (5, .int 0), (4, .int x_350), (0, .ref a0_), (1, .int x1_)] [0, 1, 2, 3, 4, 5, 6] = [(3, .int y_518), (6, .int y_511), (2, .int 1), (5, .int 0), (4, .int x_350), (0, .ref a0_), (1, .int x1_)])
                                            have g9 := g.sub (fx' := [(8, 6, q0_, .int 1201), (8, 8, q0_, .int x_333), (0, 4, a0_, .ref a_330), (0, 12, a0_, .int 0), (0, 10, a0_, .int x_513), (7, 6, q1_, .int x_499), (0, 8, a0_, .int y_348), (0, 3, a0_, .ref g76_0_3_a0_), (0, 0, a0_, .ref q0_), (0, 2, a0_, .ref q1_)]) [5, 6, 7, 0, 1, 3, 4, 8, 9, 10] rfl
                                            exact ih4  y_518 y_511 1 0 x_350 x_513 x_499 y_348 (bd_sub b_519 (by decide)) (bd_sub kb_1 (by decide)) (bd_sub kb_0 (by decide)) h_514 h_500 (bd_sub b_349 (by decide)) (by have h9_0 := b_349; unfold bd at h9_0; have h9_1 := b_497; unfold bd at h9_1; have h9_2 := b_517; unfold bd at h9_2; have h9_3 := b_519; unfold bd at h9_3; have h9_4 := bdT v4_4; unfold bd at h9_4; have h9_5 := bdT v4_6; unfold bd at h9_5; have h9_6 := bv4_2; unfold bd at h9_6; have h9_7 := bv4_3; unfold bd at h9_7; have h9_8 := bv4_5; unfold bd at h9_8; have h9_9 := bw4_0_10_a0_; unfold bd at h9_9; have h9_10 := bw4_0_8_a0_; unfold bd at h9_10; have h9_11 := bw4_7_6_q1_; unfold bd at h9_11; have h9_12 := h_500; unfold bd at h9_12; have h9_13 := h_514; unfold bd at h9_13; have h9_14 := kb_0; unfold bd at h9_14; have h9_15 := kb_1; unfold bd at h9_15; have h9_16 := kb_12; unfold bd at h9_16; have h9_17 := kb_205; unfold bd at h9_17; have h9_18 := kb_300; unfold bd at h9_18; have h9_19 := kb_6; unfold bd at h9_19; have h9_20 := kb_7; unfold bd at h9_20; omega) _ _ _ _ g9  hl9
                                          · have fc_516 := nle_f c_516
                                            have b_520 : bd 13 2147483647 y_511 := ltR fc_516 kb_12 (bdT y_511) (by decide)
                                            refine lv_aload_n hx hb dX0_closeParts_227 rfl (lv_at hl 5 rfl) ?_
                                            refine g_getk (C := RX0) (T := TX0) (N := 14) hx hb hts (mc_ inX0) hown hK g rfl 0 (by decide) rfl (hts _ (List.mem_cons_of_mem _ t_373)) (fun _ h9 => h9) 9 rfl dX0_closeParts_228 ?_
                                            refine lv_bipush (v := 7) hx hb dX0_closeParts_231 (by decide) ?_
                                            refine lv_aload_n hx hb dX0_closeParts_233 rfl (lv_at hl 5 rfl) ?_
                                            refine g_getk (C := RX0) (T := TX0) (N := 14) hx hb hts (mc_ inX0) hown hK g rfl 4 (by decide) rfl (hts _ (List.mem_cons_of_mem _ t_377)) (fun _ h9 => h9) 7 rfl dX0_closeParts_234 ?_
                                            refine lv_aload_n hx hb dX0_closeParts_237 rfl (lv_at hl 5 rfl) ?_
                                            refine g_getk (C := RX0) (T := TX0) (N := 14) hx hb hts (mc_ inX0) hown hK g rfl 8 (by decide) rfl (hts _ (List.mem_cons_of_mem _ t_381)) (fun _ h9 => h9) 4 rfl dX0_closeParts_238 ?_
                                            refine g_iald hx hb hK g ma_330 ka_330 (by decide) rfl (in_bd b_349 (by decide)) dX0_closeParts_241 (fun x_521 bx_521 cx_521 => ?_)
                                            refine g_callv (va_runV (As := [.int 7, .int x_521]) (rest := []) ⟨hx, hb, hml, hown, hts⟩ (r_X8_fail_2 l dC dI L kd tys fr_512 H.size g.2.2.2.1 q0_ mq0_ kq0_ 7 (bd_sub kb_7 (by decide)) x_521 x_333 h_334 (g.fcts [6] rfl)) (cwV 2 hts (gV_ t_1215 t_1107 t_1108 t_184 t_1109) rfl rfl rfl (by decide +kernel) ⟨(Nat.le_of_ble_eq_true rfl), (Nat.le_of_ble_eq_true rfl)⟩) (pre3V g hK mq0_ kq0_ (by decide) (q := (RX8, TX8, 10)) rfl) rfl rfl hl.1 rfl (lv_room (Nat.le_of_ble_eq_true rfl)) dX0_closeParts_242 ⟨(Nat.le_of_ble_eq_true rfl), (Nat.le_of_ble_eq_true rfl)⟩) g hK (by decide) (by decide) (fx' := [(0, 12, a0_, .int 0), (0, 10, a0_, .int x_513), (0, 5, a0_, .ref a_502), (7, 6, q1_, .int x_499), (0, 8, a0_, .int y_348), (8, 8, q0_, .int x_333), (0, 4, a0_, .ref a_330), (0, 3, a0_, .ref g76_0_3_a0_), (0, 0, a0_, .ref q0_), (0, 2, a0_, .ref q1_)]) rfl (fun fr_522 H locs hp hMr_522 g => ?_)
                                            have hF_523 := hp
                                            have g := g.more hF_523
                                            obtain ⟨y_524, ey_524⟩ : ∃ z : Int32, z = v4_3 + 1 := ⟨_, rfl⟩
                                            refine lv_iinc (v := y_524) (lv' := [(3, .int y_524), (6, .int y_511), (2, .int 1), (5, .int 0), (4, .int x_350), (0, .ref a0_), (1, .int x1_)]) hx hb dX0_closeParts_245 hl (k := 4) rfl (by rw [ey_524]; rfl) (by decide) rfl (fun ls hl => ?_)
                                            have ty_524 := add_bd ey_524 b_341 kb_1 (by decide)
                                            have b_525 : bd 2 300 y_524 := add_rg ty_524 b_341 kb_1 (by decide)
                                            refine lv_goto (tgt := 4) hx hb dX0_closeParts_248 (by decide) ?_
                                            have hl9 := lv_sub hl [0, 1, 2, 3, 4, 5, 6] (by rfl : lv_pick [(3, .int y_524), (6, .int y_511), (2, .int 1), (5, .int 0), (4, .int x_350), (0, .ref a0_), (1, .int x1_)] [0, 1, 2, 3, 4, 5, 6] = [(3, .int y_524), (6, .int y_511), (2, .int 1), (5, .int 0), (4, .int x_350), (0, .ref a0_), (1, .int x1_)])
                                            have g9 := g.sub (fx' := [(8, 6, q0_, .int 1201), (8, 8, q0_, .int x_333), (0, 4, a0_, .ref a_330), (0, 12, a0_, .int 0), (0, 10, a0_, .int x_513), (7, 6, q1_, .int x_499), (0, 8, a0_, .int y_348), (0, 3, a0_, .ref g76_0_3_a0_), (0, 0, a0_, .ref q0_), (0, 2, a0_, .ref q1_)]) [0, 6, 7, 1, 2, 4, 5, 8, 9, 10] rfl
                                            exact ih4  y_524 y_511 1 0 x_350 x_513 x_499 y_348 (bd_sub b_525 (by decide)) (bd_sub kb_1 (by decide)) (bd_sub kb_0 (by decide)) h_514 h_500 (bd_sub b_349 (by decide)) (by have h9_0 := b_349; unfold bd at h9_0; have h9_1 := b_497; unfold bd at h9_1; have h9_2 := b_520; unfold bd at h9_2; have h9_3 := b_525; unfold bd at h9_3; have h9_4 := bdT v4_4; unfold bd at h9_4; have h9_5 := bdT v4_6; unfold bd at h9_5; have h9_6 := bv4_2; unfold bd at h9_6; have h9_7 := bv4_3; unfold bd at h9_7; have h9_8 := bv4_5; unfold bd at h9_8; have h9_9 := bw4_0_10_a0_; unfold bd at h9_9; have h9_10 := bw4_0_8_a0_; unfold bd at h9_10; have h9_11 := bw4_7_6_q1_; unfold bd at h9_11; have h9_12 := h_500; unfold bd at h9_12; have h9_13 := h_514; unfold bd at h9_13; have h9_14 := kb_0; unfold bd at h9_14; have h9_15 := kb_1; unfold bd at h9_15; have h9_16 := kb_12; unfold bd at h9_16; have h9_17 := kb_205; unfold bd at h9_17; have h9_18 := kb_300; unfold bd at h9_18; have h9_19 := kb_6; unfold bd at h9_19; have h9_20 := kb_7; unfold bd at h9_20; omega) _ _ _ _ g9  hl9
                                        · have fc_496 := neq_f c_496
                                          refine lv_iload hx hb dX0_closeParts_144 (lv_at hl 3 rfl) ?_
                                          refine lv_sipush (v := 206) hx hb dX0_closeParts_146 (by decide) ?_
                                          have kb_206 : bd 206 206 (206 : Int32) := ⟨by decide, by decide⟩
                                          refine lv_icmp_ne (tgt := 181) hx hb dX0_closeParts_149 (by decide) (fun c_526 => ?_) (fun c_526 => ?_)
                                          · have fc_526 := neq_f c_526
                                            have b_527 : bd 37 205 x_350 := neX fc_526 b_484 kb_206 (by decide)
                                            refine lv_aload_n hx hb dX0_closeParts_181 rfl (lv_at hl 5 rfl) ?_
                                            refine g_getk (C := RX0) (T := TX0) (N := 14) hx hb hts (mc_ inX0) hown hK g rfl 2 (by decide) rfl (hts _ (List.mem_cons_of_mem _ t_375)) (fun _ h9 => h9) 9 rfl dX0_closeParts_182 ?_
                                            refine lv_iload hx hb dX0_closeParts_185 (lv_at hl 3 rfl) ?_
                                            refine lv_iconst (v := 0) hx hb dX0_closeParts_187 (by decide) ?_
                                            refine g_callv (va_runV (As := [.int x_350, .int 0]) (rest := []) ⟨hx, hb, hml, hown, hts⟩ (r_X7_emit l dC dI L kd tys fr_492 H.size g.2.2.2.1 q1_ mq1_ kq1_ x_350 0) (cwV 2 hts (gV_ t_1203 t_1204 t_1205 t_191 t_1206) rfl rfl rfl (by decide +kernel) ⟨(Nat.le_of_ble_eq_true rfl), (Nat.le_of_ble_eq_true rfl)⟩) (pre3V g hK mq1_ kq1_ (by decide) (q := (RX7, TX7, 19)) rfl) rfl rfl hl.1 rfl (lv_room (Nat.le_of_ble_eq_true rfl)) dX0_closeParts_188 ⟨(Nat.le_of_ble_eq_true rfl), (Nat.le_of_ble_eq_true rfl)⟩) g hK (by decide) (by decide) (fx' := [(0, 10, a0_, .int x_493), (0, 8, a0_, .int y_348), (8, 6, q0_, .int 1201), (8, 8, q0_, .int x_333), (0, 4, a0_, .ref a_330), (0, 12, a0_, .int 0), (0, 3, a0_, .ref g76_0_3_a0_), (0, 0, a0_, .ref q0_), (0, 2, a0_, .ref q1_)]) rfl (fun fr_528 H locs hp hMr_528 g => ?_)
                                            obtain ⟨x_529, h_530, hF_531⟩ := hp
                                            have g := g.more hF_531
                                            refine lv_iconst (v := 1) hx hb dX0_closeParts_191 (by decide) ?_
                                            refine lv_iload hx hb dX0_closeParts_192 (lv_at hl 2 rfl) ?_
                                            refine lv_if_eq (tgt := 202) hx hb dX0_closeParts_194 (by decide) (fun c_ => ?_) (fun c_ => absurd (by decide) c_)
                                            refine lv_iload hx hb dX0_closeParts_202 (lv_at hl 0 rfl) ?_
                                            refine lv_aload_n hx hb dX0_closeParts_204 rfl (lv_at hl 5 rfl) ?_
                                            refine g_calli (va_runV (As := []) (rest := [.int r_492, .int 1]) ⟨hx, hb, hml, hown, hts⟩ (r_X0_takeHeight l dC dI L kd tys fr_528 H.size g.2.2.2.1 a0_ ma0_ ka0_) (cwV 0 hts (gV_ t_1199 t_1201 t_16 t_190 t_1202) rfl rfl rfl (by decide +kernel) ⟨(Nat.le_of_ble_eq_true rfl), (Nat.le_of_ble_eq_true rfl)⟩) (pre3V g hK ma0_ ka0_ (by decide) (q := (RX0, TX0, 14)) rfl) rfl rfl hl.1 rfl (lv_room (Nat.le_of_ble_eq_true rfl)) dX0_closeParts_205 ⟨(Nat.le_of_ble_eq_true rfl), (Nat.le_of_ble_eq_true rfl)⟩) g hK (by decide) (by decide) (fx' := [(7, 6, q1_, .int x_529), (0, 8, a0_, .int y_348), (8, 6, q0_, .int 1201), (8, 8, q0_, .int x_333), (0, 4, a0_, .ref a_330), (0, 12, a0_, .int 0), (0, 3, a0_, .ref g76_0_3_a0_), (0, 0, a0_, .ref q0_), (0, 2, a0_, .ref q1_)]) rfl (fun r_532 fr_532 H locs hp hMr_532 g => ?_)
                                            obtain ⟨x_533, h_534, hF_535⟩ := hp
                                            have g := g.more hF_535
                                            refine va_mmax hx hb (hml.trans hl.1.symm) hown (hts _ (List.mem_cons_of_mem _ t_1194)) (hts _ (List.mem_cons_of_mem _ t_1041)) (hts _ (List.mem_cons_of_mem _ t_204)) (hts _ (List.mem_cons_of_mem _ t_1042)) (Nat.le_of_ble_eq_true rfl) (Nat.le_of_ble_eq_true rfl) (Nat.le_of_ble_eq_true rfl) (Nat.le_of_ble_eq_true rfl) dX0_closeParts_208 ?_
                                            refine lv_topi (fun y_536 ey_536 => ?_)
                                            have ty_536 : y_536.toInt = max r_492.toInt r_532.toInt := by rw [ey_536]; exact mmax_ok _ _
                                            have b_537 : bd (-2147483648) 2147483647 y_536 := max_rg ty_536 (bdT r_492) (bdT r_532) (by decide)
                                            refine lv_iadd hx hb dX0_closeParts_211 ?_
                                            refine lv_topi (fun y_538 ey_538 => ?_)
                                            refine lv_istore (lv' := [(6, .int y_538), (2, .int 1), (5, .int 0), (4, .int x_350), (3, .int v4_3), (0, .ref a0_), (1, .int x1_)]) hx hb dX0_closeParts_212 hl (by decide) rfl (fun ls hl => ?_)
                                            refine lv_aload_n hx hb dX0_closeParts_214 rfl (lv_at hl 5 rfl) ?_
                                            refine lv_iload hx hb dX0_closeParts_215 (lv_at hl 0 rfl) ?_
                                            refine g_callv (va_runV (As := [.int y_538]) (rest := []) ⟨hx, hb, hml, hown, hts⟩ (r_X0_addWhole l dC dI L kd tys fr_532 H.size g.2.2.2.1 a0_ ma0_ ka0_ y_538) (cwV 1 hts (gV_ t_1211 t_1213 t_17 t_190 t_1214) rfl rfl rfl (by decide +kernel) ⟨(Nat.le_of_ble_eq_true rfl), (Nat.le_of_ble_eq_true rfl)⟩) (pre3V g hK ma0_ ka0_ (by decide) (q := (RX0, TX0, 14)) rfl) rfl rfl hl.1 rfl (lv_room (Nat.le_of_ble_eq_true rfl)) dX0_closeParts_217 ⟨(Nat.le_of_ble_eq_true rfl), (Nat.le_of_ble_eq_true rfl)⟩) g hK (by decide) (by decide) (fx' := [(7, 6, q1_, .int x_529), (0, 8, a0_, .int y_348), (8, 6, q0_, .int 1201), (8, 8, q0_, .int x_333), (0, 4, a0_, .ref a_330), (0, 3, a0_, .ref g76_0_3_a0_), (0, 0, a0_, .ref q0_), (0, 2, a0_, .ref q1_)]) rfl (fun fr_539 H locs hp hMr_539 g => ?_)
                                            obtain ⟨x_540, h_541, hF_542⟩ := hp
                                            have g := g.more hF_542
                                            refine lv_iload hx hb dX0_closeParts_220 (lv_at hl 0 rfl) ?_
                                            refine lv_bipush (v := 12) hx hb dX0_closeParts_222 (by decide) ?_
                                            refine lv_icmp_le (tgt := 245) hx hb dX0_closeParts_224 (by decide) (fun c_543 => ?_) (fun c_543 => ?_)
                                            · have fc_543 := le_f c_543
                                              have b_544 : bd (-2147483648) 12 y_538 := leL fc_543 (bdT y_538) kb_12 (by decide)
                                              obtain ⟨y_545, ey_545⟩ : ∃ z : Int32, z = v4_3 + 1 := ⟨_, rfl⟩
                                              refine lv_iinc (v := y_545) (lv' := [(3, .int y_545), (6, .int y_538), (2, .int 1), (5, .int 0), (4, .int x_350), (0, .ref a0_), (1, .int x1_)]) hx hb dX0_closeParts_245 hl (k := 4) rfl (by rw [ey_545]; rfl) (by decide) rfl (fun ls hl => ?_)
                                              have ty_545 := add_bd ey_545 b_341 kb_1 (by decide)
                                              have b_546 : bd 2 300 y_545 := add_rg ty_545 b_341 kb_1 (by decide)
                                              refine lv_goto (tgt := 4) hx hb dX0_closeParts_248 (by decide) ?_
                                              have hl9 := lv_sub hl [0, 1, 2, 3, 4, 5, 6] (by rfl : lv_pick [(3, .int y_545), (6, .int y_538), (2, .int 1), (5, .int 0), (4, .int x_350), (0, .ref a0_), (1, .int x1_)] [0, 1, 2, 3, 4, 5, 6] = [(3, .int y_545), (6, .int y_538), (2, .int 1), (5, .int 0), (4, .int x_350), (0, .ref a0_), (1, .int x1_)])
                                              have g9 := g.sub (fx' := [(8, 6, q0_, .int 1201), (8, 8, q0_, .int x_333), (0, 4, a0_, .ref a_330), (0, 12, a0_, .int 0), (0, 10, a0_, .int x_540), (7, 6, q1_, .int x_529), (0, 8, a0_, .int y_348), (0, 3, a0_, .ref g76_0_3_a0_), (0, 0, a0_, .ref q0_), (0, 2, a0_, .ref q1_)]) [4, 5, 6, 0, 1, 2, 3, 7, 8, 9] rfl
                                              exact ih4  y_545 y_538 1 0 x_350 x_540 x_529 y_348 (bd_sub b_546 (by decide)) (bd_sub kb_1 (by decide)) (bd_sub kb_0 (by decide)) h_541 h_530 (bd_sub b_349 (by decide)) (by have h9_0 := b_349; unfold bd at h9_0; have h9_1 := b_527; unfold bd at h9_1; have h9_2 := b_544; unfold bd at h9_2; have h9_3 := b_546; unfold bd at h9_3; have h9_4 := bdT v4_4; unfold bd at h9_4; have h9_5 := bdT v4_6; unfold bd at h9_5; have h9_6 := bv4_2; unfold bd at h9_6; have h9_7 := bv4_3; unfold bd at h9_7; have h9_8 := bv4_5; unfold bd at h9_8; have h9_9 := bw4_0_10_a0_; unfold bd at h9_9; have h9_10 := bw4_0_8_a0_; unfold bd at h9_10; have h9_11 := bw4_7_6_q1_; unfold bd at h9_11; have h9_12 := h_530; unfold bd at h9_12; have h9_13 := h_541; unfold bd at h9_13; have h9_14 := kb_0; unfold bd at h9_14; have h9_15 := kb_1; unfold bd at h9_15; have h9_16 := kb_12; unfold bd at h9_16; have h9_17 := kb_205; unfold bd at h9_17; have h9_18 := kb_206; unfold bd at h9_18; have h9_19 := kb_300; unfold bd at h9_19; have h9_20 := kb_6; unfold bd at h9_20; have h9_21 := kb_7; unfold bd at h9_21; omega) _ _ _ _ g9  hl9
                                            · have fc_543 := nle_f c_543
                                              have b_547 : bd 13 2147483647 y_538 := ltR fc_543 kb_12 (bdT y_538) (by decide)
                                              refine lv_aload_n hx hb dX0_closeParts_227 rfl (lv_at hl 5 rfl) ?_
                                              refine g_getk (C := RX0) (T := TX0) (N := 14) hx hb hts (mc_ inX0) hown hK g rfl 0 (by decide) rfl (hts _ (List.mem_cons_of_mem _ t_373)) (fun _ h9 => h9) 8 rfl dX0_closeParts_228 ?_
                                              refine lv_bipush (v := 7) hx hb dX0_closeParts_231 (by decide) ?_
                                              refine lv_aload_n hx hb dX0_closeParts_233 rfl (lv_at hl 5 rfl) ?_
                                              refine g_getk (C := RX0) (T := TX0) (N := 14) hx hb hts (mc_ inX0) hown hK g rfl 4 (by decide) rfl (hts _ (List.mem_cons_of_mem _ t_377)) (fun _ h9 => h9) 6 rfl dX0_closeParts_234 ?_
                                              refine lv_aload_n hx hb dX0_closeParts_237 rfl (lv_at hl 5 rfl) ?_
                                              refine g_getk (C := RX0) (T := TX0) (N := 14) hx hb hts (mc_ inX0) hown hK g rfl 8 (by decide) rfl (hts _ (List.mem_cons_of_mem _ t_381)) (fun _ h9 => h9) 3 rfl dX0_closeParts_238 ?_
                                              refine g_iald hx hb hK g ma_330 ka_330 (by decide) rfl (in_bd b_349 (by decide)) dX0_closeParts_241 (fun x_548 bx_548 cx_548 => ?_)
                                              refine g_callv (va_runV (As := [.int 7, .int x_548]) (rest := []) ⟨hx, hb, hml, hown, hts⟩ (r_X8_fail_2 l dC dI L kd tys fr_539 H.size g.2.2.2.1 q0_ mq0_ kq0_ 7 (bd_sub kb_7 (by decide)) x_548 x_333 h_334 (g.fcts [5] rfl)) (cwV 2 hts (gV_ t_1215 t_1107 t_1108 t_184 t_1109) rfl rfl rfl (by decide +kernel) ⟨(Nat.le_of_ble_eq_true rfl), (Nat.le_of_ble_eq_true rfl)⟩) (pre3V g hK mq0_ kq0_ (by decide) (q := (RX8, TX8, 10)) rfl) rfl rfl hl.1 rfl (lv_room (Nat.le_of_ble_eq_true rfl)) dX0_closeParts_242 ⟨(Nat.le_of_ble_eq_true rfl), (Nat.le_of_ble_eq_true rfl)⟩) g hK (by decide) (by decide) (fx' := [(0, 12, a0_, .int 0), (0, 10, a0_, .int x_540), (7, 6, q1_, .int x_529), (0, 8, a0_, .int y_348), (8, 8, q0_, .int x_333), (0, 4, a0_, .ref a_330), (0, 3, a0_, .ref g76_0_3_a0_), (0, 0, a0_, .ref q0_), (0, 2, a0_, .ref q1_)]) rfl (fun fr_549 H locs hp hMr_549 g => ?_)
                                              have hF_550 := hp
                                              have g := g.more hF_550
                                              obtain ⟨y_551, ey_551⟩ : ∃ z : Int32, z = v4_3 + 1 := ⟨_, rfl⟩
                                              refine lv_iinc (v := y_551) (lv' := [(3, .int y_551), (6, .int y_538), (2, .int 1), (5, .int 0), (4, .int x_350), (0, .ref a0_), (1, .int x1_)]) hx hb dX0_closeParts_245 hl (k := 4) rfl (by rw [ey_551]; rfl) (by decide) rfl (fun ls hl => ?_)
                                              have ty_551 := add_bd ey_551 b_341 kb_1 (by decide)
                                              have b_552 : bd 2 300 y_551 := add_rg ty_551 b_341 kb_1 (by decide)
                                              refine lv_goto (tgt := 4) hx hb dX0_closeParts_248 (by decide) ?_
                                              have hl9 := lv_sub hl [0, 1, 2, 3, 4, 5, 6] (by rfl : lv_pick [(3, .int y_551), (6, .int y_538), (2, .int 1), (5, .int 0), (4, .int x_350), (0, .ref a0_), (1, .int x1_)] [0, 1, 2, 3, 4, 5, 6] = [(3, .int y_551), (6, .int y_538), (2, .int 1), (5, .int 0), (4, .int x_350), (0, .ref a0_), (1, .int x1_)])
                                              have g9 := g.sub (fx' := [(8, 6, q0_, .int 1201), (8, 8, q0_, .int x_333), (0, 4, a0_, .ref a_330), (0, 12, a0_, .int 0), (0, 10, a0_, .int x_540), (7, 6, q1_, .int x_529), (0, 8, a0_, .int y_348), (0, 3, a0_, .ref g76_0_3_a0_), (0, 0, a0_, .ref q0_), (0, 2, a0_, .ref q1_)]) [0, 5, 6, 1, 2, 3, 4, 7, 8, 9] rfl
                                              exact ih4  y_551 y_538 1 0 x_350 x_540 x_529 y_348 (bd_sub b_552 (by decide)) (bd_sub kb_1 (by decide)) (bd_sub kb_0 (by decide)) h_541 h_530 (bd_sub b_349 (by decide)) (by have h9_0 := b_349; unfold bd at h9_0; have h9_1 := b_527; unfold bd at h9_1; have h9_2 := b_547; unfold bd at h9_2; have h9_3 := b_552; unfold bd at h9_3; have h9_4 := bdT v4_4; unfold bd at h9_4; have h9_5 := bdT v4_6; unfold bd at h9_5; have h9_6 := bv4_2; unfold bd at h9_6; have h9_7 := bv4_3; unfold bd at h9_7; have h9_8 := bv4_5; unfold bd at h9_8; have h9_9 := bw4_0_10_a0_; unfold bd at h9_9; have h9_10 := bw4_0_8_a0_; unfold bd at h9_10; have h9_11 := bw4_7_6_q1_; unfold bd at h9_11; have h9_12 := h_530; unfold bd at h9_12; have h9_13 := h_541; unfold bd at h9_13; have h9_14 := kb_0; unfold bd at h9_14; have h9_15 := kb_1; unfold bd at h9_15; have h9_16 := kb_12; unfold bd at h9_16; have h9_17 := kb_205; unfold bd at h9_17; have h9_18 := kb_206; unfold bd at h9_18; have h9_19 := kb_300; unfold bd at h9_19; have h9_20 := kb_6; unfold bd at h9_20; have h9_21 := kb_7; unfold bd at h9_21; omega) _ _ _ _ g9  hl9
                                          · have fc_526 := eq_f c_526
                                            have b_553 : bd 206 206 x_350 := eqX fc_526 b_484 kb_206 (by decide)
                                            refine lv_aload_n hx hb dX0_closeParts_152 rfl (lv_at hl 5 rfl) ?_
                                            refine g_getk (C := RX0) (T := TX0) (N := 14) hx hb hts (mc_ inX0) hown hK g rfl 2 (by decide) rfl (hts _ (List.mem_cons_of_mem _ t_375)) (fun _ h9 => h9) 9 rfl dX0_closeParts_153 ?_
                                            refine lv_bipush (v := 8) hx hb dX0_closeParts_156 (by decide) ?_
                                            refine lv_iconst (v := 0) hx hb dX0_closeParts_158 (by decide) ?_
                                            refine g_callv (va_runV (As := [.int 8, .int 0]) (rest := []) ⟨hx, hb, hml, hown, hts⟩ (r_X7_emit l dC dI L kd tys fr_492 H.size g.2.2.2.1 q1_ mq1_ kq1_ 8 0) (cwV 2 hts (gV_ t_1203 t_1204 t_1205 t_191 t_1206) rfl rfl rfl (by decide +kernel) ⟨(Nat.le_of_ble_eq_true rfl), (Nat.le_of_ble_eq_true rfl)⟩) (pre3V g hK mq1_ kq1_ (by decide) (q := (RX7, TX7, 19)) rfl) rfl rfl hl.1 rfl (lv_room (Nat.le_of_ble_eq_true rfl)) dX0_closeParts_159 ⟨(Nat.le_of_ble_eq_true rfl), (Nat.le_of_ble_eq_true rfl)⟩) g hK (by decide) (by decide) (fx' := [(0, 10, a0_, .int x_493), (0, 8, a0_, .int y_348), (8, 6, q0_, .int 1201), (8, 8, q0_, .int x_333), (0, 4, a0_, .ref a_330), (0, 12, a0_, .int 0), (0, 3, a0_, .ref g76_0_3_a0_), (0, 0, a0_, .ref q0_), (0, 2, a0_, .ref q1_)]) rfl (fun fr_554 H locs hp hMr_554 g => ?_)
                                            obtain ⟨x_555, h_556, hF_557⟩ := hp
                                            have g := g.more hF_557
                                            refine lv_aload_n hx hb dX0_closeParts_162 rfl (lv_at hl 5 rfl) ?_
                                            refine g_getk (C := RX0) (T := TX0) (N := 14) hx hb hts (mc_ inX0) hown hK g rfl 2 (by decide) rfl (hts _ (List.mem_cons_of_mem _ t_375)) (fun _ h9 => h9) 9 rfl dX0_closeParts_163 ?_
                                            refine lv_aload_n hx hb dX0_closeParts_166 rfl (lv_at hl 5 rfl) ?_
                                            refine g_getr (K := 112) (C := RX0) (T := TX0) (N := 14) hx hb hts (mc_ inX0) hown hK g ma0_ ka0_ (by decide) rfl 5 (by decide) rfl (hts _ (List.mem_cons_of_mem _ t_378)) (fun _ h9 => h9) rfl dX0_closeParts_167 (fun a_558 ma_558 ka_558 g => ?_)
                                            refine lv_aload_n hx hb dX0_closeParts_170 rfl (lv_at hl 5 rfl) ?_
                                            refine g_getk (C := RX0) (T := TX0) (N := 14) hx hb hts (mc_ inX0) hown hK g rfl 8 (by decide) rfl (hts _ (List.mem_cons_of_mem _ t_381)) (fun _ h9 => h9) 3 rfl dX0_closeParts_171 ?_
                                            refine g_iald hx hb hK g ma_558 ka_558 (by decide) rfl (in_bd b_349 (by decide)) dX0_closeParts_174 (fun x_559 bx_559 cx_559 => ?_)
                                            refine g_callv (va_runV (As := [.int x_559]) (rest := []) ⟨hx, hb, hml, hown, hts⟩ (r_X7_leadHere l dC dI L kd tys fr_554 H.size g.2.2.2.1 q1_ mq1_ kq1_ x_559) (cwV 1 hts (gV_ t_1207 t_1208 t_1209 t_191 t_1210) rfl rfl rfl (by decide +kernel) ⟨(Nat.le_of_ble_eq_true rfl), (Nat.le_of_ble_eq_true rfl)⟩) (pre3V g hK mq1_ kq1_ (by decide) (q := (RX7, TX7, 19)) rfl) rfl rfl hl.1 rfl (lv_room (Nat.le_of_ble_eq_true rfl)) dX0_closeParts_175 ⟨(Nat.le_of_ble_eq_true rfl), (Nat.le_of_ble_eq_true rfl)⟩) g hK (by decide) (by decide) (fx' := [(0, 5, a0_, .ref a_558), (7, 6, q1_, .int x_555), (0, 10, a0_, .int x_493), (0, 8, a0_, .int y_348), (8, 6, q0_, .int 1201), (8, 8, q0_, .int x_333), (0, 4, a0_, .ref a_330), (0, 12, a0_, .int 0), (0, 3, a0_, .ref g76_0_3_a0_), (0, 0, a0_, .ref q0_), (0, 2, a0_, .ref q1_)]) rfl (fun fr_560 H locs hp hMr_560 g => ?_)
                                            refine lv_goto (tgt := 191) hx hb dX0_closeParts_178 (by decide) ?_
                                            refine lv_iconst (v := 1) hx hb dX0_closeParts_191 (by decide) ?_
                                            refine lv_iload hx hb dX0_closeParts_192 (lv_at hl 2 rfl) ?_
                                            refine lv_if_eq (tgt := 202) hx hb dX0_closeParts_194 (by decide) (fun c_ => ?_) (fun c_ => absurd (by decide) c_)
                                            refine lv_iload hx hb dX0_closeParts_202 (lv_at hl 0 rfl) ?_
                                            refine lv_aload_n hx hb dX0_closeParts_204 rfl (lv_at hl 5 rfl) ?_
                                            refine g_calli (va_runV (As := []) (rest := [.int r_492, .int 1]) ⟨hx, hb, hml, hown, hts⟩ (r_X0_takeHeight l dC dI L kd tys fr_560 H.size g.2.2.2.1 a0_ ma0_ ka0_) (cwV 0 hts (gV_ t_1199 t_1201 t_16 t_190 t_1202) rfl rfl rfl (by decide +kernel) ⟨(Nat.le_of_ble_eq_true rfl), (Nat.le_of_ble_eq_true rfl)⟩) (pre3V g hK ma0_ ka0_ (by decide) (q := (RX0, TX0, 14)) rfl) rfl rfl hl.1 rfl (lv_room (Nat.le_of_ble_eq_true rfl)) dX0_closeParts_205 ⟨(Nat.le_of_ble_eq_true rfl), (Nat.le_of_ble_eq_true rfl)⟩) g hK (by decide) (by decide) (fx' := [(0, 5, a0_, .ref a_558), (7, 6, q1_, .int x_555), (0, 8, a0_, .int y_348), (8, 6, q0_, .int 1201), (8, 8, q0_, .int x_333), (0, 4, a0_, .ref a_330), (0, 12, a0_, .int 0), (0, 3, a0_, .ref g76_0_3_a0_), (0, 0, a0_, .ref q0_), (0, 2, a0_, .ref q1_)]) rfl (fun r_561 fr_561 H locs hp hMr_561 g => ?_)
                                            obtain ⟨x_562, h_563, hF_564⟩ := hp
                                            have g := g.more hF_564
                                            refine va_mmax hx hb (hml.trans hl.1.symm) hown (hts _ (List.mem_cons_of_mem _ t_1194)) (hts _ (List.mem_cons_of_mem _ t_1041)) (hts _ (List.mem_cons_of_mem _ t_204)) (hts _ (List.mem_cons_of_mem _ t_1042)) (Nat.le_of_ble_eq_true rfl) (Nat.le_of_ble_eq_true rfl) (Nat.le_of_ble_eq_true rfl) (Nat.le_of_ble_eq_true rfl) dX0_closeParts_208 ?_
                                            refine lv_topi (fun y_565 ey_565 => ?_)
                                            have ty_565 : y_565.toInt = max r_492.toInt r_561.toInt := by rw [ey_565]; exact mmax_ok _ _
                                            have b_566 : bd (-2147483648) 2147483647 y_565 := max_rg ty_565 (bdT r_492) (bdT r_561) (by decide)
                                            refine lv_iadd hx hb dX0_closeParts_211 ?_
                                            refine lv_topi (fun y_567 ey_567 => ?_)
                                            refine lv_istore (lv' := [(6, .int y_567), (2, .int 1), (5, .int 0), (4, .int x_350), (3, .int v4_3), (0, .ref a0_), (1, .int x1_)]) hx hb dX0_closeParts_212 hl (by decide) rfl (fun ls hl => ?_)
                                            refine lv_aload_n hx hb dX0_closeParts_214 rfl (lv_at hl 5 rfl) ?_
                                            refine lv_iload hx hb dX0_closeParts_215 (lv_at hl 0 rfl) ?_
                                            refine g_callv (va_runV (As := [.int y_567]) (rest := []) ⟨hx, hb, hml, hown, hts⟩ (r_X0_addWhole l dC dI L kd tys fr_561 H.size g.2.2.2.1 a0_ ma0_ ka0_ y_567) (cwV 1 hts (gV_ t_1211 t_1213 t_17 t_190 t_1214) rfl rfl rfl (by decide +kernel) ⟨(Nat.le_of_ble_eq_true rfl), (Nat.le_of_ble_eq_true rfl)⟩) (pre3V g hK ma0_ ka0_ (by decide) (q := (RX0, TX0, 14)) rfl) rfl rfl hl.1 rfl (lv_room (Nat.le_of_ble_eq_true rfl)) dX0_closeParts_217 ⟨(Nat.le_of_ble_eq_true rfl), (Nat.le_of_ble_eq_true rfl)⟩) g hK (by decide) (by decide) (fx' := [(0, 5, a0_, .ref a_558), (7, 6, q1_, .int x_555), (0, 8, a0_, .int y_348), (8, 6, q0_, .int 1201), (8, 8, q0_, .int x_333), (0, 4, a0_, .ref a_330), (0, 3, a0_, .ref g76_0_3_a0_), (0, 0, a0_, .ref q0_), (0, 2, a0_, .ref q1_)]) rfl (fun fr_568 H locs hp hMr_568 g => ?_)
                                            obtain ⟨x_569, h_570, hF_571⟩ := hp
                                            have g := g.more hF_571
                                            refine lv_iload hx hb dX0_closeParts_220 (lv_at hl 0 rfl) ?_
                                            refine lv_bipush (v := 12) hx hb dX0_closeParts_222 (by decide) ?_
                                            refine lv_icmp_le (tgt := 245) hx hb dX0_closeParts_224 (by decide) (fun c_572 => ?_) (fun c_572 => ?_)
                                            · have fc_572 := le_f c_572
                                              have b_573 : bd (-2147483648) 12 y_567 := leL fc_572 (bdT y_567) kb_12 (by decide)
                                              obtain ⟨y_574, ey_574⟩ : ∃ z : Int32, z = v4_3 + 1 := ⟨_, rfl⟩
                                              refine lv_iinc (v := y_574) (lv' := [(3, .int y_574), (6, .int y_567), (2, .int 1), (5, .int 0), (4, .int x_350), (0, .ref a0_), (1, .int x1_)]) hx hb dX0_closeParts_245 hl (k := 4) rfl (by rw [ey_574]; rfl) (by decide) rfl (fun ls hl => ?_)
                                              have ty_574 := add_bd ey_574 b_341 kb_1 (by decide)
                                              have b_575 : bd 2 300 y_574 := add_rg ty_574 b_341 kb_1 (by decide)
                                              refine lv_goto (tgt := 4) hx hb dX0_closeParts_248 (by decide) ?_
                                              have hl9 := lv_sub hl [0, 1, 2, 3, 4, 5, 6] (by rfl : lv_pick [(3, .int y_574), (6, .int y_567), (2, .int 1), (5, .int 0), (4, .int x_350), (0, .ref a0_), (1, .int x1_)] [0, 1, 2, 3, 4, 5, 6] = [(3, .int y_574), (6, .int y_567), (2, .int 1), (5, .int 0), (4, .int x_350), (0, .ref a0_), (1, .int x1_)])
                                              have g9 := g.sub (fx' := [(8, 6, q0_, .int 1201), (8, 8, q0_, .int x_333), (0, 4, a0_, .ref a_330), (0, 12, a0_, .int 0), (0, 10, a0_, .int x_569), (7, 6, q1_, .int x_555), (0, 8, a0_, .int y_348), (0, 3, a0_, .ref g76_0_3_a0_), (0, 0, a0_, .ref q0_), (0, 2, a0_, .ref q1_)]) [5, 6, 7, 0, 1, 3, 4, 8, 9, 10] rfl
                                              exact ih4  y_574 y_567 1 0 x_350 x_569 x_555 y_348 (bd_sub b_575 (by decide)) (bd_sub kb_1 (by decide)) (bd_sub kb_0 (by decide)) h_570 h_556 (bd_sub b_349 (by decide)) (by have h9_0 := b_349; unfold bd at h9_0; have h9_1 := b_553; unfold bd at h9_1; have h9_2 := b_573; unfold bd at h9_2; have h9_3 := b_575; unfold bd at h9_3; have h9_4 := bdT v4_4; unfold bd at h9_4; have h9_5 := bdT v4_6; unfold bd at h9_5; have h9_6 := bv4_2; unfold bd at h9_6; have h9_7 := bv4_3; unfold bd at h9_7; have h9_8 := bv4_5; unfold bd at h9_8; have h9_9 := bw4_0_10_a0_; unfold bd at h9_9; have h9_10 := bw4_0_8_a0_; unfold bd at h9_10; have h9_11 := bw4_7_6_q1_; unfold bd at h9_11; have h9_12 := h_556; unfold bd at h9_12; have h9_13 := h_570; unfold bd at h9_13; have h9_14 := kb_0; unfold bd at h9_14; have h9_15 := kb_1; unfold bd at h9_15; have h9_16 := kb_12; unfold bd at h9_16; have h9_17 := kb_205; unfold bd at h9_17; have h9_18 := kb_206; unfold bd at h9_18; have h9_19 := kb_300; unfold bd at h9_19; have h9_20 := kb_6; unfold bd at h9_20; have h9_21 := kb_7; unfold bd at h9_21; omega) _ _ _ _ g9  hl9
                                            · have fc_572 := nle_f c_572
                                              have b_576 : bd 13 2147483647 y_567 := ltR fc_572 kb_12 (bdT y_567) (by decide)
                                              refine lv_aload_n hx hb dX0_closeParts_227 rfl (lv_at hl 5 rfl) ?_
                                              refine g_getk (C := RX0) (T := TX0) (N := 14) hx hb hts (mc_ inX0) hown hK g rfl 0 (by decide) rfl (hts _ (List.mem_cons_of_mem _ t_373)) (fun _ h9 => h9) 9 rfl dX0_closeParts_228 ?_
                                              refine lv_bipush (v := 7) hx hb dX0_closeParts_231 (by decide) ?_
                                              refine lv_aload_n hx hb dX0_closeParts_233 rfl (lv_at hl 5 rfl) ?_
                                              refine g_getk (C := RX0) (T := TX0) (N := 14) hx hb hts (mc_ inX0) hown hK g rfl 4 (by decide) rfl (hts _ (List.mem_cons_of_mem _ t_377)) (fun _ h9 => h9) 7 rfl dX0_closeParts_234 ?_
                                              refine lv_aload_n hx hb dX0_closeParts_237 rfl (lv_at hl 5 rfl) ?_
                                              refine g_getk (C := RX0) (T := TX0) (N := 14) hx hb hts (mc_ inX0) hown hK g rfl 8 (by decide) rfl (hts _ (List.mem_cons_of_mem _ t_381)) (fun _ h9 => h9) 4 rfl dX0_closeParts_238 ?_
                                              refine g_iald hx hb hK g ma_330 ka_330 (by decide) rfl (in_bd b_349 (by decide)) dX0_closeParts_241 (fun x_577 bx_577 cx_577 => ?_)
                                              refine g_callv (va_runV (As := [.int 7, .int x_577]) (rest := []) ⟨hx, hb, hml, hown, hts⟩ (r_X8_fail_2 l dC dI L kd tys fr_568 H.size g.2.2.2.1 q0_ mq0_ kq0_ 7 (bd_sub kb_7 (by decide)) x_577 x_333 h_334 (g.fcts [6] rfl)) (cwV 2 hts (gV_ t_1215 t_1107 t_1108 t_184 t_1109) rfl rfl rfl (by decide +kernel) ⟨(Nat.le_of_ble_eq_true rfl), (Nat.le_of_ble_eq_true rfl)⟩) (pre3V g hK mq0_ kq0_ (by decide) (q := (RX8, TX8, 10)) rfl) rfl rfl hl.1 rfl (lv_room (Nat.le_of_ble_eq_true rfl)) dX0_closeParts_242 ⟨(Nat.le_of_ble_eq_true rfl), (Nat.le_of_ble_eq_true rfl)⟩) g hK (by decide) (by decide) (fx' := [(0, 12, a0_, .int 0), (0, 10, a0_, .int x_569), (0, 5, a0_, .ref a_558), (7, 6, q1_, .int x_555), (0, 8, a0_, .int y_348), (8, 8, q0_, .int x_333), (0, 4, a0_, .ref a_330), (0, 3, a0_, .ref g76_0_3_a0_), (0, 0, a0_, .ref q0_), (0, 2, a0_, .ref q1_)]) rfl (fun fr_578 H locs hp hMr_578 g => ?_)
                                              have hF_579 := hp
                                              have g := g.more hF_579
                                              obtain ⟨y_580, ey_580⟩ : ∃ z : Int32, z = v4_3 + 1 := ⟨_, rfl⟩
                                              refine lv_iinc (v := y_580) (lv' := [(3, .int y_580), (6, .int y_567), (2, .int 1), (5, .int 0), (4, .int x_350), (0, .ref a0_), (1, .int x1_)]) hx hb dX0_closeParts_245 hl (k := 4) rfl (by rw [ey_580]; rfl) (by decide) rfl (fun ls hl => ?_)
                                              have ty_580 := add_bd ey_580 b_341 kb_1 (by decide)
                                              have b_581 : bd 2 300 y_580 := add_rg ty_580 b_341 kb_1 (by decide)
                                              refine lv_goto (tgt := 4) hx hb dX0_closeParts_248 (by decide) ?_
                                              have hl9 := lv_sub hl [0, 1, 2, 3, 4, 5, 6] (by rfl : lv_pick [(3, .int y_580), (6, .int y_567), (2, .int 1), (5, .int 0), (4, .int x_350), (0, .ref a0_), (1, .int x1_)] [0, 1, 2, 3, 4, 5, 6] = [(3, .int y_580), (6, .int y_567), (2, .int 1), (5, .int 0), (4, .int x_350), (0, .ref a0_), (1, .int x1_)])
                                              have g9 := g.sub (fx' := [(8, 6, q0_, .int 1201), (8, 8, q0_, .int x_333), (0, 4, a0_, .ref a_330), (0, 12, a0_, .int 0), (0, 10, a0_, .int x_569), (7, 6, q1_, .int x_555), (0, 8, a0_, .int y_348), (0, 3, a0_, .ref g76_0_3_a0_), (0, 0, a0_, .ref q0_), (0, 2, a0_, .ref q1_)]) [0, 6, 7, 1, 2, 4, 5, 8, 9, 10] rfl
                                              exact ih4  y_580 y_567 1 0 x_350 x_569 x_555 y_348 (bd_sub b_581 (by decide)) (bd_sub kb_1 (by decide)) (bd_sub kb_0 (by decide)) h_570 h_556 (bd_sub b_349 (by decide)) (by have h9_0 := b_349; unfold bd at h9_0; have h9_1 := b_553; unfold bd at h9_1; have h9_2 := b_576; unfold bd at h9_2; have h9_3 := b_581; unfold bd at h9_3; have h9_4 := bdT v4_4; unfold bd at h9_4; have h9_5 := bdT v4_6; unfold bd at h9_5; have h9_6 := bv4_2; unfold bd at h9_6; have h9_7 := bv4_3; unfold bd at h9_7; have h9_8 := bv4_5; unfold bd at h9_8; have h9_9 := bw4_0_10_a0_; unfold bd at h9_9; have h9_10 := bw4_0_8_a0_; unfold bd at h9_10; have h9_11 := bw4_7_6_q1_; unfold bd at h9_11; have h9_12 := h_556; unfold bd at h9_12; have h9_13 := h_570; unfold bd at h9_13; have h9_14 := kb_0; unfold bd at h9_14; have h9_15 := kb_1; unfold bd at h9_15; have h9_16 := kb_12; unfold bd at h9_16; have h9_17 := kb_205; unfold bd at h9_17; have h9_18 := kb_206; unfold bd at h9_18; have h9_19 := kb_300; unfold bd at h9_19; have h9_20 := kb_6; unfold bd at h9_20; have h9_21 := kb_7; unfold bd at h9_21; omega) _ _ _ _ g9  hl9
                                  · have fc_383 := eq_f c_383
                                    have b_582 : bd 7 7 x_350 := eqX fc_383 (bdT x_350) kb_7 (by decide)
                                    refine lv_iconst (v := 1) hx hb dX0_closeParts_49 (by decide) ?_
                                    refine lv_goto (tgt := 54) hx hb dX0_closeParts_50 (by decide) ?_
                                    refine lv_istore (lv' := [(5, .int 1), (4, .int x_350), (3, .int v4_3), (6, .int v4_6), (2, .int v4_2), (0, .ref a0_), (1, .int x1_)]) hx hb dX0_closeParts_54 hl (by decide) rfl (fun ls hl => ?_)
                                    refine lv_iload hx hb dX0_closeParts_56 (lv_at hl 0 rfl) ?_
                                    refine lv_if_ne (tgt := 70) hx hb dX0_closeParts_58 (by decide) (fun c_ => ?_) (fun c_ => absurd c_ (by decide))
                                    refine lv_iconst (v := 1) hx hb dX0_closeParts_70 (by decide) ?_
                                    refine lv_goto (tgt := 75) hx hb dX0_closeParts_71 (by decide) ?_
                                    refine lv_istore_n (lv' := [(2, .int 1), (5, .int 1), (4, .int x_350), (3, .int v4_3), (6, .int v4_6), (0, .ref a0_), (1, .int x1_)]) hx hb dX0_closeParts_75 rfl hl (by decide) rfl (fun ls hl => ?_)
                                    refine lv_iload_n hx hb dX0_closeParts_76 rfl (lv_at hl 0 rfl) ?_
                                    refine lv_if_eq (tgt := 245) hx hb dX0_closeParts_77 (by decide) (fun c_ => absurd c_ (by decide)) (fun c_ => ?_)
                                    refine lv_aload_n hx hb dX0_closeParts_80 rfl (lv_at hl 5 rfl) ?_
                                    refine lv_dup hx hb dX0_closeParts_81 rfl ?_
                                    refine g_getk (C := RX0) (T := TX0) (N := 14) hx hb hts (mc_ inX0) hown hK g rfl 8 (by decide) rfl (hts _ (List.mem_cons_of_mem _ t_381)) (fun _ h9 => h9) 6 rfl dX0_closeParts_82 ?_
                                    refine lv_iconst (v := 1) hx hb dX0_closeParts_85 (by decide) ?_
                                    refine lv_isub hx hb dX0_closeParts_86 ?_
                                    refine lv_topi (fun y_583 ey_583 => ?_)
                                    obtain rfl : y_348 = y_583 := ey_348.trans ey_583.symm
                                    refine g_put (C := RX0) (T := TX0) (N := 14) hx hb hts (mc_ inX0) tyX0 tyX0_ok nmX0 hown hK g ma0_ ka0_ (by decide) rfl 8 (by decide) (hts _ (List.mem_cons_of_mem _ t_381)) (fun _ h9 => h9) rfl rfl (okV_i (bd_sub b_349 (by decide))) rfl rfl (by decide) (Or.inr (Or.inl (by decide))) (fx' := [(8, 6, q0_, .int 1201), (8, 8, q0_, .int x_333), (0, 4, a0_, .ref a_330), (0, 12, a0_, .int 0), (0, 10, a0_, .int w4_0_10_a0_), (7, 6, q1_, .int w4_7_6_q1_), (0, 3, a0_, .ref g76_0_3_a0_), (0, 0, a0_, .ref q0_), (0, 2, a0_, .ref q1_)]) rfl dX0_closeParts_87 (fun f H locs hM_584 g => ?_)
                                    refine lv_aload_n hx hb dX0_closeParts_90 rfl (lv_at hl 5 rfl) ?_
                                    refine g_calli (va_runV (As := []) (rest := []) ⟨hx, hb, hml, hown, hts⟩ (r_X0_takeHeight l dC dI L kd tys f H.size g.2.2.2.1 a0_ ma0_ ka0_) (cwV 0 hts (gV_ t_1199 t_1201 t_16 t_190 t_1202) rfl rfl rfl (by decide +kernel) ⟨(Nat.le_of_ble_eq_true rfl), (Nat.le_of_ble_eq_true rfl)⟩) (pre3V g hK ma0_ ka0_ (by decide) (q := (RX0, TX0, 14)) rfl) rfl rfl hl.1 rfl (lv_room (Nat.le_of_ble_eq_true rfl)) dX0_closeParts_91 ⟨(Nat.le_of_ble_eq_true rfl), (Nat.le_of_ble_eq_true rfl)⟩) g hK (by decide) (by decide) (fx' := [(0, 8, a0_, .int y_348), (8, 6, q0_, .int 1201), (8, 8, q0_, .int x_333), (0, 4, a0_, .ref a_330), (0, 12, a0_, .int 0), (7, 6, q1_, .int w4_7_6_q1_), (0, 3, a0_, .ref g76_0_3_a0_), (0, 0, a0_, .ref q0_), (0, 2, a0_, .ref q1_)]) rfl (fun r_585 fr_585 H locs hp hMr_585 g => ?_)
                                    obtain ⟨x_586, h_587, hF_588⟩ := hp
                                    have g := g.more hF_588
                                    refine lv_istore (lv' := [(6, .int r_585), (2, .int 1), (5, .int 1), (4, .int x_350), (3, .int v4_3), (0, .ref a0_), (1, .int x1_)]) hx hb dX0_closeParts_94 hl (by decide) rfl (fun ls hl => ?_)
                                    refine lv_iload hx hb dX0_closeParts_96 (lv_at hl 2 rfl) ?_
                                    refine lv_if_eq (tgt := 136) hx hb dX0_closeParts_98 (by decide) (fun c_ => absurd c_ (by decide)) (fun c_ => ?_)
                                    refine lv_aload_n hx hb dX0_closeParts_101 rfl (lv_at hl 5 rfl) ?_
                                    refine lv_dup hx hb dX0_closeParts_102 rfl ?_
                                    refine g_geti (C := RX0) (T := TX0) (N := 14) hx hb hts (mc_ inX0) hown hK g ma0_ ka0_ (by decide) rfl 11 (by decide) rfl (hts _ (List.mem_cons_of_mem _ t_384)) (fun _ h9 => h9) rfl dX0_closeParts_103 (fun x_589 bx_589 g => ?_)
                                    refine lv_iconst (v := 1) hx hb dX0_closeParts_106 (by decide) ?_
                                    refine lv_isub hx hb dX0_closeParts_107 ?_
                                    refine lv_topi (fun y_590 ey_590 => ?_)
                                    refine g_put (C := RX0) (T := TX0) (N := 14) hx hb hts (mc_ inX0) tyX0 tyX0_ok nmX0 hown hK g ma0_ ka0_ (by decide) rfl 11 (by decide) (hts _ (List.mem_cons_of_mem _ t_384)) (fun _ h9 => h9) rfl rfl (okV_i (bdT y_590)) rfl rfl (by decide) (Or.inr (Or.inl (by decide))) (fx' := [(0, 10, a0_, .int x_586), (0, 8, a0_, .int y_348), (8, 6, q0_, .int 1201), (8, 8, q0_, .int x_333), (0, 4, a0_, .ref a_330), (0, 12, a0_, .int 0), (7, 6, q1_, .int w4_7_6_q1_), (0, 3, a0_, .ref g76_0_3_a0_), (0, 0, a0_, .ref q0_), (0, 2, a0_, .ref q1_)]) rfl dX0_closeParts_108 (fun f H locs hM_591 g => ?_)
                                    refine lv_aload_n hx hb dX0_closeParts_111 rfl (lv_at hl 5 rfl) ?_
                                    refine g_getk (C := RX0) (T := TX0) (N := 14) hx hb hts (mc_ inX0) hown hK g rfl 2 (by decide) rfl (hts _ (List.mem_cons_of_mem _ t_375)) (fun _ h9 => h9) 10 rfl dX0_closeParts_112 ?_
                                    refine lv_iload hx hb dX0_closeParts_115 (lv_at hl 3 rfl) ?_
                                    refine lv_bipush (v := 6) hx hb dX0_closeParts_117 (by decide) ?_
                                    refine lv_icmp_ne (tgt := 127) hx hb dX0_closeParts_119 (by decide) (fun c_592 => ?_) (fun c_592 => ?_)
                                    · have fc_592 := neq_f c_592
                                      refine lv_bipush (v := 7) hx hb dX0_closeParts_127 (by decide) ?_
                                      refine lv_iconst (v := 0) hx hb dX0_closeParts_129 (by decide) ?_
                                      refine g_callv (va_runV (As := [.int 7, .int 0]) (rest := []) ⟨hx, hb, hml, hown, hts⟩ (r_X7_emit l dC dI L kd tys f H.size g.2.2.2.1 q1_ mq1_ kq1_ 7 0) (cwV 2 hts (gV_ t_1203 t_1204 t_1205 t_191 t_1206) rfl rfl rfl (by decide +kernel) ⟨(Nat.le_of_ble_eq_true rfl), (Nat.le_of_ble_eq_true rfl)⟩) (pre3V g hK mq1_ kq1_ (by decide) (q := (RX7, TX7, 19)) rfl) rfl rfl hl.1 rfl (lv_room (Nat.le_of_ble_eq_true rfl)) dX0_closeParts_130 ⟨(Nat.le_of_ble_eq_true rfl), (Nat.le_of_ble_eq_true rfl)⟩) g hK (by decide) (by decide) (fx' := [(0, 11, a0_, .int y_590), (0, 10, a0_, .int x_586), (0, 8, a0_, .int y_348), (8, 6, q0_, .int 1201), (8, 8, q0_, .int x_333), (0, 4, a0_, .ref a_330), (0, 12, a0_, .int 0), (0, 3, a0_, .ref g76_0_3_a0_), (0, 0, a0_, .ref q0_), (0, 2, a0_, .ref q1_)]) rfl (fun fr_593 H locs hp hMr_593 g => ?_)
                                      obtain ⟨x_594, h_595, hF_596⟩ := hp
                                      have g := g.more hF_596
                                      refine lv_goto (tgt := 191) hx hb dX0_closeParts_133 (by decide) ?_
                                      refine lv_iconst (v := 1) hx hb dX0_closeParts_191 (by decide) ?_
                                      refine lv_iload hx hb dX0_closeParts_192 (lv_at hl 2 rfl) ?_
                                      refine lv_if_eq (tgt := 202) hx hb dX0_closeParts_194 (by decide) (fun c_ => absurd c_ (by decide)) (fun c_ => ?_)
                                      refine lv_iload hx hb dX0_closeParts_197 (lv_at hl 0 rfl) ?_
                                      refine lv_goto (tgt := 211) hx hb dX0_closeParts_199 (by decide) ?_
                                      refine lv_iadd hx hb dX0_closeParts_211 ?_
                                      refine lv_topi (fun y_597 ey_597 => ?_)
                                      refine lv_istore (lv' := [(6, .int y_597), (2, .int 1), (5, .int 1), (4, .int x_350), (3, .int v4_3), (0, .ref a0_), (1, .int x1_)]) hx hb dX0_closeParts_212 hl (by decide) rfl (fun ls hl => ?_)
                                      refine lv_aload_n hx hb dX0_closeParts_214 rfl (lv_at hl 5 rfl) ?_
                                      refine lv_iload hx hb dX0_closeParts_215 (lv_at hl 0 rfl) ?_
                                      refine g_callv (va_runV (As := [.int y_597]) (rest := []) ⟨hx, hb, hml, hown, hts⟩ (r_X0_addWhole l dC dI L kd tys fr_593 H.size g.2.2.2.1 a0_ ma0_ ka0_ y_597) (cwV 1 hts (gV_ t_1211 t_1213 t_17 t_190 t_1214) rfl rfl rfl (by decide +kernel) ⟨(Nat.le_of_ble_eq_true rfl), (Nat.le_of_ble_eq_true rfl)⟩) (pre3V g hK ma0_ ka0_ (by decide) (q := (RX0, TX0, 14)) rfl) rfl rfl hl.1 rfl (lv_room (Nat.le_of_ble_eq_true rfl)) dX0_closeParts_217 ⟨(Nat.le_of_ble_eq_true rfl), (Nat.le_of_ble_eq_true rfl)⟩) g hK (by decide) (by decide) (fx' := [(7, 6, q1_, .int x_594), (0, 11, a0_, .int y_590), (0, 8, a0_, .int y_348), (8, 6, q0_, .int 1201), (8, 8, q0_, .int x_333), (0, 4, a0_, .ref a_330), (0, 3, a0_, .ref g76_0_3_a0_), (0, 0, a0_, .ref q0_), (0, 2, a0_, .ref q1_)]) rfl (fun fr_598 H locs hp hMr_598 g => ?_)
                                      obtain ⟨x_599, h_600, hF_601⟩ := hp
                                      have g := g.more hF_601
                                      refine lv_iload hx hb dX0_closeParts_220 (lv_at hl 0 rfl) ?_
                                      refine lv_bipush (v := 12) hx hb dX0_closeParts_222 (by decide) ?_
                                      refine lv_icmp_le (tgt := 245) hx hb dX0_closeParts_224 (by decide) (fun c_602 => ?_) (fun c_602 => ?_)
                                      · have fc_602 := le_f c_602
                                        have b_603 : bd (-2147483648) 12 y_597 := leL fc_602 (bdT y_597) kb_12 (by decide)
                                        obtain ⟨y_604, ey_604⟩ : ∃ z : Int32, z = v4_3 + 1 := ⟨_, rfl⟩
                                        refine lv_iinc (v := y_604) (lv' := [(3, .int y_604), (6, .int y_597), (2, .int 1), (5, .int 1), (4, .int x_350), (0, .ref a0_), (1, .int x1_)]) hx hb dX0_closeParts_245 hl (k := 4) rfl (by rw [ey_604]; rfl) (by decide) rfl (fun ls hl => ?_)
                                        have ty_604 := add_bd ey_604 b_341 kb_1 (by decide)
                                        have b_605 : bd 2 300 y_604 := add_rg ty_604 b_341 kb_1 (by decide)
                                        refine lv_goto (tgt := 4) hx hb dX0_closeParts_248 (by decide) ?_
                                        have hl9 := lv_sub hl [0, 1, 2, 3, 4, 5, 6] (by rfl : lv_pick [(3, .int y_604), (6, .int y_597), (2, .int 1), (5, .int 1), (4, .int x_350), (0, .ref a0_), (1, .int x1_)] [0, 1, 2, 3, 4, 5, 6] = [(3, .int y_604), (6, .int y_597), (2, .int 1), (5, .int 1), (4, .int x_350), (0, .ref a0_), (1, .int x1_)])
                                        have g9 := g.sub (fx' := [(8, 6, q0_, .int 1201), (8, 8, q0_, .int x_333), (0, 4, a0_, .ref a_330), (0, 12, a0_, .int 0), (0, 10, a0_, .int x_599), (7, 6, q1_, .int x_594), (0, 8, a0_, .int y_348), (0, 3, a0_, .ref g76_0_3_a0_), (0, 0, a0_, .ref q0_), (0, 2, a0_, .ref q1_)]) [5, 6, 7, 0, 1, 2, 4, 8, 9, 10] rfl
                                        exact ih4  y_604 y_597 1 1 x_350 x_599 x_594 y_348 (bd_sub b_605 (by decide)) (bd_sub kb_1 (by decide)) (bd_sub kb_1 (by decide)) h_600 h_595 (bd_sub b_349 (by decide)) (by have h9_0 := b_349; unfold bd at h9_0; have h9_1 := b_582; unfold bd at h9_1; have h9_2 := b_603; unfold bd at h9_2; have h9_3 := b_605; unfold bd at h9_3; have h9_4 := bdT v4_4; unfold bd at h9_4; have h9_5 := bdT v4_6; unfold bd at h9_5; have h9_6 := bv4_2; unfold bd at h9_6; have h9_7 := bv4_3; unfold bd at h9_7; have h9_8 := bv4_5; unfold bd at h9_8; have h9_9 := bw4_0_10_a0_; unfold bd at h9_9; have h9_10 := bw4_0_8_a0_; unfold bd at h9_10; have h9_11 := bw4_7_6_q1_; unfold bd at h9_11; have h9_12 := h_595; unfold bd at h9_12; have h9_13 := h_600; unfold bd at h9_13; have h9_14 := kb_0; unfold bd at h9_14; have h9_15 := kb_1; unfold bd at h9_15; have h9_16 := kb_12; unfold bd at h9_16; have h9_17 := kb_300; unfold bd at h9_17; have h9_18 := kb_6; unfold bd at h9_18; have h9_19 := kb_7; unfold bd at h9_19; omega) _ _ _ _ g9  hl9
                                      · have fc_602 := nle_f c_602
                                        have b_606 : bd 13 2147483647 y_597 := ltR fc_602 kb_12 (bdT y_597) (by decide)
                                        refine lv_aload_n hx hb dX0_closeParts_227 rfl (lv_at hl 5 rfl) ?_
                                        refine g_getk (C := RX0) (T := TX0) (N := 14) hx hb hts (mc_ inX0) hown hK g rfl 0 (by decide) rfl (hts _ (List.mem_cons_of_mem _ t_373)) (fun _ h9 => h9) 9 rfl dX0_closeParts_228 ?_
                                        refine lv_bipush (v := 7) hx hb dX0_closeParts_231 (by decide) ?_
                                        refine lv_aload_n hx hb dX0_closeParts_233 rfl (lv_at hl 5 rfl) ?_
                                        refine g_getk (C := RX0) (T := TX0) (N := 14) hx hb hts (mc_ inX0) hown hK g rfl 4 (by decide) rfl (hts _ (List.mem_cons_of_mem _ t_377)) (fun _ h9 => h9) 7 rfl dX0_closeParts_234 ?_
                                        refine lv_aload_n hx hb dX0_closeParts_237 rfl (lv_at hl 5 rfl) ?_
                                        refine g_getk (C := RX0) (T := TX0) (N := 14) hx hb hts (mc_ inX0) hown hK g rfl 8 (by decide) rfl (hts _ (List.mem_cons_of_mem _ t_381)) (fun _ h9 => h9) 4 rfl dX0_closeParts_238 ?_
                                        refine g_iald hx hb hK g ma_330 ka_330 (by decide) rfl (in_bd b_349 (by decide)) dX0_closeParts_241 (fun x_607 bx_607 cx_607 => ?_)
                                        refine g_callv (va_runV (As := [.int 7, .int x_607]) (rest := []) ⟨hx, hb, hml, hown, hts⟩ (r_X8_fail_2 l dC dI L kd tys fr_598 H.size g.2.2.2.1 q0_ mq0_ kq0_ 7 (bd_sub kb_7 (by decide)) x_607 x_333 h_334 (g.fcts [6] rfl)) (cwV 2 hts (gV_ t_1215 t_1107 t_1108 t_184 t_1109) rfl rfl rfl (by decide +kernel) ⟨(Nat.le_of_ble_eq_true rfl), (Nat.le_of_ble_eq_true rfl)⟩) (pre3V g hK mq0_ kq0_ (by decide) (q := (RX8, TX8, 10)) rfl) rfl rfl hl.1 rfl (lv_room (Nat.le_of_ble_eq_true rfl)) dX0_closeParts_242 ⟨(Nat.le_of_ble_eq_true rfl), (Nat.le_of_ble_eq_true rfl)⟩) g hK (by decide) (by decide) (fx' := [(0, 12, a0_, .int 0), (0, 10, a0_, .int x_599), (7, 6, q1_, .int x_594), (0, 11, a0_, .int y_590), (0, 8, a0_, .int y_348), (8, 8, q0_, .int x_333), (0, 4, a0_, .ref a_330), (0, 3, a0_, .ref g76_0_3_a0_), (0, 0, a0_, .ref q0_), (0, 2, a0_, .ref q1_)]) rfl (fun fr_608 H locs hp hMr_608 g => ?_)
                                        have hF_609 := hp
                                        have g := g.more hF_609
                                        obtain ⟨y_610, ey_610⟩ : ∃ z : Int32, z = v4_3 + 1 := ⟨_, rfl⟩
                                        refine lv_iinc (v := y_610) (lv' := [(3, .int y_610), (6, .int y_597), (2, .int 1), (5, .int 1), (4, .int x_350), (0, .ref a0_), (1, .int x1_)]) hx hb dX0_closeParts_245 hl (k := 4) rfl (by rw [ey_610]; rfl) (by decide) rfl (fun ls hl => ?_)
                                        have ty_610 := add_bd ey_610 b_341 kb_1 (by decide)
                                        have b_611 : bd 2 300 y_610 := add_rg ty_610 b_341 kb_1 (by decide)
                                        refine lv_goto (tgt := 4) hx hb dX0_closeParts_248 (by decide) ?_
                                        have hl9 := lv_sub hl [0, 1, 2, 3, 4, 5, 6] (by rfl : lv_pick [(3, .int y_610), (6, .int y_597), (2, .int 1), (5, .int 1), (4, .int x_350), (0, .ref a0_), (1, .int x1_)] [0, 1, 2, 3, 4, 5, 6] = [(3, .int y_610), (6, .int y_597), (2, .int 1), (5, .int 1), (4, .int x_350), (0, .ref a0_), (1, .int x1_)])
                                        have g9 := g.sub (fx' := [(8, 6, q0_, .int 1201), (8, 8, q0_, .int x_333), (0, 4, a0_, .ref a_330), (0, 12, a0_, .int 0), (0, 10, a0_, .int x_599), (7, 6, q1_, .int x_594), (0, 8, a0_, .int y_348), (0, 3, a0_, .ref g76_0_3_a0_), (0, 0, a0_, .ref q0_), (0, 2, a0_, .ref q1_)]) [0, 6, 7, 1, 2, 3, 5, 8, 9, 10] rfl
                                        exact ih4  y_610 y_597 1 1 x_350 x_599 x_594 y_348 (bd_sub b_611 (by decide)) (bd_sub kb_1 (by decide)) (bd_sub kb_1 (by decide)) h_600 h_595 (bd_sub b_349 (by decide)) (by have h9_0 := b_349; unfold bd at h9_0; have h9_1 := b_582; unfold bd at h9_1; have h9_2 := b_606; unfold bd at h9_2; have h9_3 := b_611; unfold bd at h9_3; have h9_4 := bdT v4_4; unfold bd at h9_4; have h9_5 := bdT v4_6; unfold bd at h9_5; have h9_6 := bv4_2; unfold bd at h9_6; have h9_7 := bv4_3; unfold bd at h9_7; have h9_8 := bv4_5; unfold bd at h9_8; have h9_9 := bw4_0_10_a0_; unfold bd at h9_9; have h9_10 := bw4_0_8_a0_; unfold bd at h9_10; have h9_11 := bw4_7_6_q1_; unfold bd at h9_11; have h9_12 := h_595; unfold bd at h9_12; have h9_13 := h_600; unfold bd at h9_13; have h9_14 := kb_0; unfold bd at h9_14; have h9_15 := kb_1; unfold bd at h9_15; have h9_16 := kb_12; unfold bd at h9_16; have h9_17 := kb_300; unfold bd at h9_17; have h9_18 := kb_6; unfold bd at h9_18; have h9_19 := kb_7; unfold bd at h9_19; omega) _ _ _ _ g9  hl9
                                    · have fc_592 := eq_f c_592
                                      exact absurd fc_592 fc_351
                      have hl9 := lv_sub hl [0, 1, 2, 3, 4, 5, 6] (by rfl : lv_pick [(3, .int y_336), (6, .int y_320), (2, .int j76_2), (5, .int j76_5), (4, .int j76_4), (0, .ref a0_), (1, .int x1_)] [0, 1, 2, 3, 4, 5, 6] = [(3, .int y_336), (6, .int y_320), (2, .int j76_2), (5, .int j76_5), (4, .int j76_4), (0, .ref a0_), (1, .int x1_)])
                      have g9 := g.sub (fx' := [(8, 6, q0_, .int 1201), (8, 8, q0_, .int x_333), (0, 4, a0_, .ref a_330), (0, 12, a0_, .int 0), (0, 10, a0_, .int x_322), (7, 6, q1_, .int g191_7_6_q1_), (0, 8, a0_, .int g191_0_8_a0_), (0, 3, a0_, .ref g76_0_3_a0_), (0, 0, a0_, .ref q0_), (0, 2, a0_, .ref q1_)]) [0, 1, 2, 3, 4, 5, 6, 7, 8, 9] rfl
                      exact loop_338 (601) y_336 y_320 j76_2 j76_5 j76_4 x_322 g191_7_6_q1_ g191_0_8_a0_ b_337 (bd_sub b_17 (by decide)) (bd_sub b_319 (by decide)) h_323 bg191_7_6_q1_ bg191_0_8_a0_ (by have h9_0 := b_17; unfold bd at h9_0; have h9_1 := b_319; unfold bd at h9_1; have h9_2 := b_329; unfold bd at h9_2; have h9_3 := b_337; unfold bd at h9_3; have h9_4 := bdT j76_4; unfold bd at h9_4; have h9_5 := bg191_0_8_a0_; unfold bd at h9_5; have h9_6 := bg191_7_6_q1_; unfold bd at h9_6; have h9_7 := h_323; unfold bd at h9_7; have h9_8 := kb_0; unfold bd at h9_8; have h9_9 := kb_1; unfold bd at h9_9; have h9_10 := kb_12; unfold bd at h9_10; have h9_11 := kb_300; unfold bd at h9_11; have h9_12 := kb_7; unfold bd at h9_12; omega) _ _ _ _ g9  hl9
                refine lv_aload_n hx hb dX0_closeParts_80 rfl (lv_at hl 4 rfl) ?_
                refine lv_dup hx hb dX0_closeParts_81 rfl ?_
                refine g_getk (C := RX0) (T := TX0) (N := 14) hx hb hts (mc_ inX0) hown hK g rfl 8 (by decide) rfl (hts _ (List.mem_cons_of_mem _ t_381)) (fun _ h9 => h9) 1 rfl dX0_closeParts_82 ?_
                refine lv_iconst (v := 1) hx hb dX0_closeParts_85 (by decide) ?_
                have kb_1 : bd 1 1 (1 : Int32) := ⟨by decide, by decide⟩
                refine lv_isub hx hb dX0_closeParts_86 ?_
                refine lv_topi (fun y_612 ey_612 => ?_)
                have ty_612 := sub_bd ey_612 b_11 kb_1 (by decide)
                have b_613 : bd 0 299 y_612 := sub_rg ty_612 b_11 kb_1 (by decide)
                refine g_put (C := RX0) (T := TX0) (N := 14) hx hb hts (mc_ inX0) tyX0 tyX0_ok nmX0 hown hK g ma0_ ka0_ (by decide) rfl 8 (by decide) (hts _ (List.mem_cons_of_mem _ t_381)) (fun _ h9 => h9) rfl rfl (okV_i (bd_sub b_613 (by decide))) rfl rfl (by decide) (Or.inr (Or.inl (by decide))) (fx' := [(0, 3, a0_, .ref g76_0_3_a0_), (0, 0, a0_, .ref q0_), (0, 2, a0_, .ref q1_), (8, 8, q0_, .int y0_)]) rfl dX0_closeParts_87 (fun f H locs hM_614 g => ?_)
                refine lv_aload_n hx hb dX0_closeParts_90 rfl (lv_at hl 4 rfl) ?_
                refine g_calli (va_runV (As := []) (rest := []) ⟨hx, hb, hml, hown, hts⟩ (r_X0_takeHeight l dC dI L kd tys f H.size g.2.2.2.1 a0_ ma0_ ka0_) (cwV 0 hts (gV_ t_1199 t_1201 t_16 t_190 t_1202) rfl rfl rfl (by decide +kernel) ⟨(Nat.le_of_ble_eq_true rfl), (Nat.le_of_ble_eq_true rfl)⟩) (pre3V g hK ma0_ ka0_ (by decide) (q := (RX0, TX0, 14)) rfl) rfl rfl hl.1 rfl (lv_room (Nat.le_of_ble_eq_true rfl)) dX0_closeParts_91 ⟨(Nat.le_of_ble_eq_true rfl), (Nat.le_of_ble_eq_true rfl)⟩) g hK (by decide) (by decide) (fx' := [(0, 8, a0_, .int y_612), (0, 3, a0_, .ref g76_0_3_a0_), (0, 0, a0_, .ref q0_), (0, 2, a0_, .ref q1_), (8, 8, q0_, .int y0_)]) rfl (fun r_615 fr_615 H locs hp hMr_615 g => ?_)
                obtain ⟨x_616, h_617, hF_618⟩ := hp
                have g := g.more hF_618
                refine lv_istore (lv' := [(6, .int r_615), (2, .int j76_2), (5, .int j76_5), (4, .int j76_4), (3, .int v4_3), (0, .ref a0_), (1, .int x1_)]) hx hb dX0_closeParts_94 hl (by decide) rfl (fun ls hl => ?_)
                refine lv_iload hx hb dX0_closeParts_96 (lv_at hl 2 rfl) ?_
                refine lv_if_eq (tgt := 136) hx hb dX0_closeParts_98 (by decide) (fun c_619 => ?_) (fun c_619 => ?_)
                · have fc_619 := eq_f c_619
                  have b_620 : bd 0 0 j76_5 := eqX fc_619 bj76_5 kb_0 (by decide)
                  refine lv_iload hx hb dX0_closeParts_136 (lv_at hl 3 rfl) ?_
                  refine lv_sipush (v := 205) hx hb dX0_closeParts_138 (by decide) ?_
                  have kb_205 : bd 205 205 (205 : Int32) := ⟨by decide, by decide⟩
                  refine lv_icmp_eq (tgt := 152) hx hb dX0_closeParts_141 (by decide) (fun c_621 => ?_) (fun c_621 => ?_)
                  · have fc_621 := eq_f c_621
                    have b_622 : bd 205 205 j76_4 := eqX fc_621 (bdT j76_4) kb_205 (by decide)
                    refine lv_aload_n hx hb dX0_closeParts_152 rfl (lv_at hl 5 rfl) ?_
                    refine g_getk (C := RX0) (T := TX0) (N := 14) hx hb hts (mc_ inX0) hown hK g rfl 2 (by decide) rfl (hts _ (List.mem_cons_of_mem _ t_375)) (fun _ h9 => h9) 4 rfl dX0_closeParts_153 ?_
                    refine lv_bipush (v := 8) hx hb dX0_closeParts_156 (by decide) ?_
                    refine lv_iconst (v := 0) hx hb dX0_closeParts_158 (by decide) ?_
                    refine g_callv (va_runV (As := [.int 8, .int 0]) (rest := []) ⟨hx, hb, hml, hown, hts⟩ (r_X7_emit l dC dI L kd tys fr_615 H.size g.2.2.2.1 q1_ mq1_ kq1_ 8 0) (cwV 2 hts (gV_ t_1203 t_1204 t_1205 t_191 t_1206) rfl rfl rfl (by decide +kernel) ⟨(Nat.le_of_ble_eq_true rfl), (Nat.le_of_ble_eq_true rfl)⟩) (pre3V g hK mq1_ kq1_ (by decide) (q := (RX7, TX7, 19)) rfl) rfl rfl hl.1 rfl (lv_room (Nat.le_of_ble_eq_true rfl)) dX0_closeParts_159 ⟨(Nat.le_of_ble_eq_true rfl), (Nat.le_of_ble_eq_true rfl)⟩) g hK (by decide) (by decide) (fx' := [(0, 10, a0_, .int x_616), (0, 8, a0_, .int y_612), (0, 3, a0_, .ref g76_0_3_a0_), (0, 0, a0_, .ref q0_), (0, 2, a0_, .ref q1_), (8, 8, q0_, .int y0_)]) rfl (fun fr_623 H locs hp hMr_623 g => ?_)
                    obtain ⟨x_624, h_625, hF_626⟩ := hp
                    have g := g.more hF_626
                    refine lv_aload_n hx hb dX0_closeParts_162 rfl (lv_at hl 5 rfl) ?_
                    refine g_getk (C := RX0) (T := TX0) (N := 14) hx hb hts (mc_ inX0) hown hK g rfl 2 (by decide) rfl (hts _ (List.mem_cons_of_mem _ t_375)) (fun _ h9 => h9) 5 rfl dX0_closeParts_163 ?_
                    refine lv_aload_n hx hb dX0_closeParts_166 rfl (lv_at hl 5 rfl) ?_
                    refine g_getr (K := 112) (C := RX0) (T := TX0) (N := 14) hx hb hts (mc_ inX0) hown hK g ma0_ ka0_ (by decide) rfl 5 (by decide) rfl (hts _ (List.mem_cons_of_mem _ t_378)) (fun _ h9 => h9) rfl dX0_closeParts_167 (fun a_627 ma_627 ka_627 g => ?_)
                    refine lv_aload_n hx hb dX0_closeParts_170 rfl (lv_at hl 5 rfl) ?_
                    refine g_getk (C := RX0) (T := TX0) (N := 14) hx hb hts (mc_ inX0) hown hK g rfl 8 (by decide) rfl (hts _ (List.mem_cons_of_mem _ t_381)) (fun _ h9 => h9) 3 rfl dX0_closeParts_171 ?_
                    refine g_iald hx hb hK g ma_627 ka_627 (by decide) rfl (in_bd b_613 (by decide)) dX0_closeParts_174 (fun x_628 bx_628 cx_628 => ?_)
                    refine g_callv (va_runV (As := [.int x_628]) (rest := []) ⟨hx, hb, hml, hown, hts⟩ (r_X7_leadHere l dC dI L kd tys fr_623 H.size g.2.2.2.1 q1_ mq1_ kq1_ x_628) (cwV 1 hts (gV_ t_1207 t_1208 t_1209 t_191 t_1210) rfl rfl rfl (by decide +kernel) ⟨(Nat.le_of_ble_eq_true rfl), (Nat.le_of_ble_eq_true rfl)⟩) (pre3V g hK mq1_ kq1_ (by decide) (q := (RX7, TX7, 19)) rfl) rfl rfl hl.1 rfl (lv_room (Nat.le_of_ble_eq_true rfl)) dX0_closeParts_175 ⟨(Nat.le_of_ble_eq_true rfl), (Nat.le_of_ble_eq_true rfl)⟩) g hK (by decide) (by decide) (fx' := [(0, 5, a0_, .ref a_627), (7, 6, q1_, .int x_624), (0, 10, a0_, .int x_616), (0, 8, a0_, .int y_612), (0, 3, a0_, .ref g76_0_3_a0_), (0, 0, a0_, .ref q0_), (0, 2, a0_, .ref q1_), (8, 8, q0_, .int y0_)]) rfl (fun fr_629 H locs hp hMr_629 g => ?_)
                    refine lv_goto (tgt := 191) hx hb dX0_closeParts_178 (by decide) ?_
                    have hl9 := lv_sub hl [0, 1, 2, 3, 4, 5, 6] (by rfl : lv_pick [(6, .int r_615), (2, .int j76_2), (5, .int j76_5), (4, .int j76_4), (3, .int v4_3), (0, .ref a0_), (1, .int x1_)] [0, 1, 2, 3, 4, 5, 6] = [(6, .int r_615), (2, .int j76_2), (5, .int j76_5), (4, .int j76_4), (3, .int v4_3), (0, .ref a0_), (1, .int x1_)])
                    have g9 := g.sub (fx' := [(7, 6, q1_, .int x_624), (0, 10, a0_, .int x_616), (0, 8, a0_, .int y_612), (0, 3, a0_, .ref g76_0_3_a0_), (0, 0, a0_, .ref q0_), (0, 2, a0_, .ref q1_), (8, 8, q0_, .int y0_)]) [1, 2, 3, 4, 5, 6, 7] rfl
                    exact join_18 r_615 x_624 x_616 y_612 _ _ _ _ h_625 h_617 b_613 g9  hl9
                  · have fc_621 := neq_f c_621
                    refine lv_iload hx hb dX0_closeParts_144 (lv_at hl 3 rfl) ?_
                    refine lv_sipush (v := 206) hx hb dX0_closeParts_146 (by decide) ?_
                    have kb_206 : bd 206 206 (206 : Int32) := ⟨by decide, by decide⟩
                    refine lv_icmp_ne (tgt := 181) hx hb dX0_closeParts_149 (by decide) (fun c_630 => ?_) (fun c_630 => ?_)
                    · have fc_630 := neq_f c_630
                      refine lv_aload_n hx hb dX0_closeParts_181 rfl (lv_at hl 5 rfl) ?_
                      refine g_getk (C := RX0) (T := TX0) (N := 14) hx hb hts (mc_ inX0) hown hK g rfl 2 (by decide) rfl (hts _ (List.mem_cons_of_mem _ t_375)) (fun _ h9 => h9) 4 rfl dX0_closeParts_182 ?_
                      refine lv_iload hx hb dX0_closeParts_185 (lv_at hl 3 rfl) ?_
                      refine lv_iconst (v := 0) hx hb dX0_closeParts_187 (by decide) ?_
                      refine g_callv (va_runV (As := [.int j76_4, .int 0]) (rest := []) ⟨hx, hb, hml, hown, hts⟩ (r_X7_emit l dC dI L kd tys fr_615 H.size g.2.2.2.1 q1_ mq1_ kq1_ j76_4 0) (cwV 2 hts (gV_ t_1203 t_1204 t_1205 t_191 t_1206) rfl rfl rfl (by decide +kernel) ⟨(Nat.le_of_ble_eq_true rfl), (Nat.le_of_ble_eq_true rfl)⟩) (pre3V g hK mq1_ kq1_ (by decide) (q := (RX7, TX7, 19)) rfl) rfl rfl hl.1 rfl (lv_room (Nat.le_of_ble_eq_true rfl)) dX0_closeParts_188 ⟨(Nat.le_of_ble_eq_true rfl), (Nat.le_of_ble_eq_true rfl)⟩) g hK (by decide) (by decide) (fx' := [(0, 10, a0_, .int x_616), (0, 8, a0_, .int y_612), (0, 3, a0_, .ref g76_0_3_a0_), (0, 0, a0_, .ref q0_), (0, 2, a0_, .ref q1_), (8, 8, q0_, .int y0_)]) rfl (fun fr_631 H locs hp hMr_631 g => ?_)
                      obtain ⟨x_632, h_633, hF_634⟩ := hp
                      have g := g.more hF_634
                      have hl9 := lv_sub hl [0, 1, 2, 3, 4, 5, 6] (by rfl : lv_pick [(6, .int r_615), (2, .int j76_2), (5, .int j76_5), (4, .int j76_4), (3, .int v4_3), (0, .ref a0_), (1, .int x1_)] [0, 1, 2, 3, 4, 5, 6] = [(6, .int r_615), (2, .int j76_2), (5, .int j76_5), (4, .int j76_4), (3, .int v4_3), (0, .ref a0_), (1, .int x1_)])
                      have g9 := g.sub (fx' := [(7, 6, q1_, .int x_632), (0, 10, a0_, .int x_616), (0, 8, a0_, .int y_612), (0, 3, a0_, .ref g76_0_3_a0_), (0, 0, a0_, .ref q0_), (0, 2, a0_, .ref q1_), (8, 8, q0_, .int y0_)]) [0, 1, 2, 3, 4, 5, 6] rfl
                      exact join_18 r_615 x_632 x_616 y_612 _ _ _ _ h_633 h_617 b_613 g9  hl9
                    · have fc_630 := eq_f c_630
                      have b_635 : bd 206 206 j76_4 := eqX fc_630 (bdT j76_4) kb_206 (by decide)
                      refine lv_aload_n hx hb dX0_closeParts_152 rfl (lv_at hl 5 rfl) ?_
                      refine g_getk (C := RX0) (T := TX0) (N := 14) hx hb hts (mc_ inX0) hown hK g rfl 2 (by decide) rfl (hts _ (List.mem_cons_of_mem _ t_375)) (fun _ h9 => h9) 4 rfl dX0_closeParts_153 ?_
                      refine lv_bipush (v := 8) hx hb dX0_closeParts_156 (by decide) ?_
                      refine lv_iconst (v := 0) hx hb dX0_closeParts_158 (by decide) ?_
                      refine g_callv (va_runV (As := [.int 8, .int 0]) (rest := []) ⟨hx, hb, hml, hown, hts⟩ (r_X7_emit l dC dI L kd tys fr_615 H.size g.2.2.2.1 q1_ mq1_ kq1_ 8 0) (cwV 2 hts (gV_ t_1203 t_1204 t_1205 t_191 t_1206) rfl rfl rfl (by decide +kernel) ⟨(Nat.le_of_ble_eq_true rfl), (Nat.le_of_ble_eq_true rfl)⟩) (pre3V g hK mq1_ kq1_ (by decide) (q := (RX7, TX7, 19)) rfl) rfl rfl hl.1 rfl (lv_room (Nat.le_of_ble_eq_true rfl)) dX0_closeParts_159 ⟨(Nat.le_of_ble_eq_true rfl), (Nat.le_of_ble_eq_true rfl)⟩) g hK (by decide) (by decide) (fx' := [(0, 10, a0_, .int x_616), (0, 8, a0_, .int y_612), (0, 3, a0_, .ref g76_0_3_a0_), (0, 0, a0_, .ref q0_), (0, 2, a0_, .ref q1_), (8, 8, q0_, .int y0_)]) rfl (fun fr_636 H locs hp hMr_636 g => ?_)
                      obtain ⟨x_637, h_638, hF_639⟩ := hp
                      have g := g.more hF_639
                      refine lv_aload_n hx hb dX0_closeParts_162 rfl (lv_at hl 5 rfl) ?_
                      refine g_getk (C := RX0) (T := TX0) (N := 14) hx hb hts (mc_ inX0) hown hK g rfl 2 (by decide) rfl (hts _ (List.mem_cons_of_mem _ t_375)) (fun _ h9 => h9) 5 rfl dX0_closeParts_163 ?_
                      refine lv_aload_n hx hb dX0_closeParts_166 rfl (lv_at hl 5 rfl) ?_
                      refine g_getr (K := 112) (C := RX0) (T := TX0) (N := 14) hx hb hts (mc_ inX0) hown hK g ma0_ ka0_ (by decide) rfl 5 (by decide) rfl (hts _ (List.mem_cons_of_mem _ t_378)) (fun _ h9 => h9) rfl dX0_closeParts_167 (fun a_640 ma_640 ka_640 g => ?_)
                      refine lv_aload_n hx hb dX0_closeParts_170 rfl (lv_at hl 5 rfl) ?_
                      refine g_getk (C := RX0) (T := TX0) (N := 14) hx hb hts (mc_ inX0) hown hK g rfl 8 (by decide) rfl (hts _ (List.mem_cons_of_mem _ t_381)) (fun _ h9 => h9) 3 rfl dX0_closeParts_171 ?_
                      refine g_iald hx hb hK g ma_640 ka_640 (by decide) rfl (in_bd b_613 (by decide)) dX0_closeParts_174 (fun x_641 bx_641 cx_641 => ?_)
                      refine g_callv (va_runV (As := [.int x_641]) (rest := []) ⟨hx, hb, hml, hown, hts⟩ (r_X7_leadHere l dC dI L kd tys fr_636 H.size g.2.2.2.1 q1_ mq1_ kq1_ x_641) (cwV 1 hts (gV_ t_1207 t_1208 t_1209 t_191 t_1210) rfl rfl rfl (by decide +kernel) ⟨(Nat.le_of_ble_eq_true rfl), (Nat.le_of_ble_eq_true rfl)⟩) (pre3V g hK mq1_ kq1_ (by decide) (q := (RX7, TX7, 19)) rfl) rfl rfl hl.1 rfl (lv_room (Nat.le_of_ble_eq_true rfl)) dX0_closeParts_175 ⟨(Nat.le_of_ble_eq_true rfl), (Nat.le_of_ble_eq_true rfl)⟩) g hK (by decide) (by decide) (fx' := [(0, 5, a0_, .ref a_640), (7, 6, q1_, .int x_637), (0, 10, a0_, .int x_616), (0, 8, a0_, .int y_612), (0, 3, a0_, .ref g76_0_3_a0_), (0, 0, a0_, .ref q0_), (0, 2, a0_, .ref q1_), (8, 8, q0_, .int y0_)]) rfl (fun fr_642 H locs hp hMr_642 g => ?_)
                      refine lv_goto (tgt := 191) hx hb dX0_closeParts_178 (by decide) ?_
                      have hl9 := lv_sub hl [0, 1, 2, 3, 4, 5, 6] (by rfl : lv_pick [(6, .int r_615), (2, .int j76_2), (5, .int j76_5), (4, .int j76_4), (3, .int v4_3), (0, .ref a0_), (1, .int x1_)] [0, 1, 2, 3, 4, 5, 6] = [(6, .int r_615), (2, .int j76_2), (5, .int j76_5), (4, .int j76_4), (3, .int v4_3), (0, .ref a0_), (1, .int x1_)])
                      have g9 := g.sub (fx' := [(7, 6, q1_, .int x_637), (0, 10, a0_, .int x_616), (0, 8, a0_, .int y_612), (0, 3, a0_, .ref g76_0_3_a0_), (0, 0, a0_, .ref q0_), (0, 2, a0_, .ref q1_), (8, 8, q0_, .int y0_)]) [1, 2, 3, 4, 5, 6, 7] rfl
                      exact join_18 r_615 x_637 x_616 y_612 _ _ _ _ h_638 h_617 b_613 g9  hl9
                · have fc_619 := neq_f c_619
                  have b_643 : bd 1 1 j76_5 := neX fc_619 bj76_5 kb_0 (by decide)
                  refine lv_aload_n hx hb dX0_closeParts_101 rfl (lv_at hl 5 rfl) ?_
                  refine lv_dup hx hb dX0_closeParts_102 rfl ?_
                  refine g_geti (C := RX0) (T := TX0) (N := 14) hx hb hts (mc_ inX0) hown hK g ma0_ ka0_ (by decide) rfl 11 (by decide) rfl (hts _ (List.mem_cons_of_mem _ t_384)) (fun _ h9 => h9) rfl dX0_closeParts_103 (fun x_644 bx_644 g => ?_)
                  refine lv_iconst (v := 1) hx hb dX0_closeParts_106 (by decide) ?_
                  refine lv_isub hx hb dX0_closeParts_107 ?_
                  refine lv_topi (fun y_645 ey_645 => ?_)
                  refine g_put (C := RX0) (T := TX0) (N := 14) hx hb hts (mc_ inX0) tyX0 tyX0_ok nmX0 hown hK g ma0_ ka0_ (by decide) rfl 11 (by decide) (hts _ (List.mem_cons_of_mem _ t_384)) (fun _ h9 => h9) rfl rfl (okV_i (bdT y_645)) rfl rfl (by decide) (Or.inr (Or.inl (by decide))) (fx' := [(0, 10, a0_, .int x_616), (0, 8, a0_, .int y_612), (0, 3, a0_, .ref g76_0_3_a0_), (0, 0, a0_, .ref q0_), (0, 2, a0_, .ref q1_), (8, 8, q0_, .int y0_)]) rfl dX0_closeParts_108 (fun f H locs hM_646 g => ?_)
                  refine lv_aload_n hx hb dX0_closeParts_111 rfl (lv_at hl 5 rfl) ?_
                  refine g_getk (C := RX0) (T := TX0) (N := 14) hx hb hts (mc_ inX0) hown hK g rfl 2 (by decide) rfl (hts _ (List.mem_cons_of_mem _ t_375)) (fun _ h9 => h9) 5 rfl dX0_closeParts_112 ?_
                  refine lv_iload hx hb dX0_closeParts_115 (lv_at hl 3 rfl) ?_
                  refine lv_bipush (v := 6) hx hb dX0_closeParts_117 (by decide) ?_
                  have kb_6 : bd 6 6 (6 : Int32) := ⟨by decide, by decide⟩
                  refine lv_icmp_ne (tgt := 127) hx hb dX0_closeParts_119 (by decide) (fun c_647 => ?_) (fun c_647 => ?_)
                  · have fc_647 := neq_f c_647
                    refine lv_bipush (v := 7) hx hb dX0_closeParts_127 (by decide) ?_
                    refine lv_iconst (v := 0) hx hb dX0_closeParts_129 (by decide) ?_
                    refine g_callv (va_runV (As := [.int 7, .int 0]) (rest := []) ⟨hx, hb, hml, hown, hts⟩ (r_X7_emit l dC dI L kd tys f H.size g.2.2.2.1 q1_ mq1_ kq1_ 7 0) (cwV 2 hts (gV_ t_1203 t_1204 t_1205 t_191 t_1206) rfl rfl rfl (by decide +kernel) ⟨(Nat.le_of_ble_eq_true rfl), (Nat.le_of_ble_eq_true rfl)⟩) (pre3V g hK mq1_ kq1_ (by decide) (q := (RX7, TX7, 19)) rfl) rfl rfl hl.1 rfl (lv_room (Nat.le_of_ble_eq_true rfl)) dX0_closeParts_130 ⟨(Nat.le_of_ble_eq_true rfl), (Nat.le_of_ble_eq_true rfl)⟩) g hK (by decide) (by decide) (fx' := [(0, 11, a0_, .int y_645), (0, 10, a0_, .int x_616), (0, 8, a0_, .int y_612), (0, 3, a0_, .ref g76_0_3_a0_), (0, 0, a0_, .ref q0_), (0, 2, a0_, .ref q1_), (8, 8, q0_, .int y0_)]) rfl (fun fr_648 H locs hp hMr_648 g => ?_)
                    obtain ⟨x_649, h_650, hF_651⟩ := hp
                    have g := g.more hF_651
                    refine lv_goto (tgt := 191) hx hb dX0_closeParts_133 (by decide) ?_
                    have hl9 := lv_sub hl [0, 1, 2, 3, 4, 5, 6] (by rfl : lv_pick [(6, .int r_615), (2, .int j76_2), (5, .int j76_5), (4, .int j76_4), (3, .int v4_3), (0, .ref a0_), (1, .int x1_)] [0, 1, 2, 3, 4, 5, 6] = [(6, .int r_615), (2, .int j76_2), (5, .int j76_5), (4, .int j76_4), (3, .int v4_3), (0, .ref a0_), (1, .int x1_)])
                    have g9 := g.sub (fx' := [(7, 6, q1_, .int x_649), (0, 10, a0_, .int x_616), (0, 8, a0_, .int y_612), (0, 3, a0_, .ref g76_0_3_a0_), (0, 0, a0_, .ref q0_), (0, 2, a0_, .ref q1_), (8, 8, q0_, .int y0_)]) [0, 2, 3, 4, 5, 6, 7] rfl
                    exact join_18 r_615 x_649 x_616 y_612 _ _ _ _ h_650 h_617 b_613 g9  hl9
                  · have fc_647 := eq_f c_647
                    have b_652 : bd 6 6 j76_4 := eqX fc_647 (bdT j76_4) kb_6 (by decide)
                    refine lv_bipush (v := 6) hx hb dX0_closeParts_122 (by decide) ?_
                    refine lv_goto (tgt := 129) hx hb dX0_closeParts_124 (by decide) ?_
                    refine lv_iconst (v := 0) hx hb dX0_closeParts_129 (by decide) ?_
                    refine g_callv (va_runV (As := [.int 6, .int 0]) (rest := []) ⟨hx, hb, hml, hown, hts⟩ (r_X7_emit l dC dI L kd tys f H.size g.2.2.2.1 q1_ mq1_ kq1_ 6 0) (cwV 2 hts (gV_ t_1203 t_1204 t_1205 t_191 t_1206) rfl rfl rfl (by decide +kernel) ⟨(Nat.le_of_ble_eq_true rfl), (Nat.le_of_ble_eq_true rfl)⟩) (pre3V g hK mq1_ kq1_ (by decide) (q := (RX7, TX7, 19)) rfl) rfl rfl hl.1 rfl (lv_room (Nat.le_of_ble_eq_true rfl)) dX0_closeParts_130 ⟨(Nat.le_of_ble_eq_true rfl), (Nat.le_of_ble_eq_true rfl)⟩) g hK (by decide) (by decide) (fx' := [(0, 11, a0_, .int y_645), (0, 10, a0_, .int x_616), (0, 8, a0_, .int y_612), (0, 3, a0_, .ref g76_0_3_a0_), (0, 0, a0_, .ref q0_), (0, 2, a0_, .ref q1_), (8, 8, q0_, .int y0_)]) rfl (fun fr_653 H locs hp hMr_653 g => ?_)
                    obtain ⟨x_654, h_655, hF_656⟩ := hp
                    have g := g.more hF_656
                    refine lv_goto (tgt := 191) hx hb dX0_closeParts_133 (by decide) ?_
                    have hl9 := lv_sub hl [0, 1, 2, 3, 4, 5, 6] (by rfl : lv_pick [(6, .int r_615), (2, .int j76_2), (5, .int j76_5), (4, .int j76_4), (3, .int v4_3), (0, .ref a0_), (1, .int x1_)] [0, 1, 2, 3, 4, 5, 6] = [(6, .int r_615), (2, .int j76_2), (5, .int j76_5), (4, .int j76_4), (3, .int v4_3), (0, .ref a0_), (1, .int x1_)])
                    have g9 := g.sub (fx' := [(7, 6, q1_, .int x_654), (0, 10, a0_, .int x_616), (0, 8, a0_, .int y_612), (0, 3, a0_, .ref g76_0_3_a0_), (0, 0, a0_, .ref q0_), (0, 2, a0_, .ref q1_), (8, 8, q0_, .int y0_)]) [0, 2, 3, 4, 5, 6, 7] rfl
                    exact join_18 r_615 x_654 x_616 y_612 _ _ _ _ h_655 h_617 b_613 g9  hl9
            refine lv_aload_n hx hb dX0_closeParts_22 rfl (lv_at hl 2 rfl) ?_
            refine g_getr (K := 110) (C := RX0) (T := TX0) (N := 14) hx hb hts (mc_ inX0) hown hK g ma0_ ka0_ (by decide) rfl 3 (by decide) rfl (hts _ (List.mem_cons_of_mem _ t_376)) (fun _ h9 => h9) rfl dX0_closeParts_23 (fun a_657 ma_657 ka_657 g => ?_)
            refine lv_aload_n hx hb dX0_closeParts_26 rfl (lv_at hl 2 rfl) ?_
            refine g_getk (C := RX0) (T := TX0) (N := 14) hx hb hts (mc_ inX0) hown hK g rfl 8 (by decide) rfl (hts _ (List.mem_cons_of_mem _ t_381)) (fun _ h9 => h9) 1 rfl dX0_closeParts_27 ?_
            refine lv_iconst (v := 1) hx hb dX0_closeParts_30 (by decide) ?_
            have kb_1 : bd 1 1 (1 : Int32) := ⟨by decide, by decide⟩
            refine lv_isub hx hb dX0_closeParts_31 ?_
            refine lv_topi (fun y_658 ey_658 => ?_)
            have ty_658 := sub_bd ey_658 b_11 kb_1 (by decide)
            have b_659 : bd 0 299 y_658 := sub_rg ty_658 b_11 kb_1 (by decide)
            refine g_iald hx hb hK g ma_657 ka_657 (by decide) rfl (in_bd b_659 (by decide)) dX0_closeParts_32 (fun x_660 bx_660 cx_660 => ?_)
            refine lv_istore (lv' := [(4, .int x_660), (3, .int v4_3), (2, .int v4_2), (0, .ref a0_), (1, .int x1_)]) hx hb dX0_closeParts_33 hl (by decide) rfl (fun ls hl => ?_)
            refine lv_iload hx hb dX0_closeParts_35 (lv_at hl 0 rfl) ?_
            refine lv_bipush (v := 6) hx hb dX0_closeParts_37 (by decide) ?_
            have kb_6 : bd 6 6 (6 : Int32) := ⟨by decide, by decide⟩
            refine lv_icmp_eq (tgt := 49) hx hb dX0_closeParts_39 (by decide) (fun c_661 => ?_) (fun c_661 => ?_)
            · have fc_661 := eq_f c_661
              have b_662 : bd 6 6 x_660 := eqX fc_661 (bdT x_660) kb_6 (by decide)
              refine lv_iconst (v := 1) hx hb dX0_closeParts_49 (by decide) ?_
              refine lv_goto (tgt := 54) hx hb dX0_closeParts_50 (by decide) ?_
              refine lv_istore (lv' := [(5, .int 1), (4, .int x_660), (3, .int v4_3), (2, .int v4_2), (0, .ref a0_), (1, .int x1_)]) hx hb dX0_closeParts_54 hl (by decide) rfl (fun ls hl => ?_)
              refine lv_iload hx hb dX0_closeParts_56 (lv_at hl 0 rfl) ?_
              refine lv_if_ne (tgt := 70) hx hb dX0_closeParts_58 (by decide) (fun c_ => ?_) (fun c_ => absurd c_ (by decide))
              refine lv_iconst (v := 1) hx hb dX0_closeParts_70 (by decide) ?_
              refine lv_goto (tgt := 75) hx hb dX0_closeParts_71 (by decide) ?_
              refine lv_istore_n (lv' := [(2, .int 1), (5, .int 1), (4, .int x_660), (3, .int v4_3), (0, .ref a0_), (1, .int x1_)]) hx hb dX0_closeParts_75 rfl hl (by decide) rfl (fun ls hl => ?_)
              have hl9 := lv_sub hl [0, 1, 2, 3, 4, 5] (by rfl : lv_pick [(2, .int 1), (5, .int 1), (4, .int x_660), (3, .int v4_3), (0, .ref a0_), (1, .int x1_)] [0, 1, 2, 3, 4, 5] = [(2, .int 1), (5, .int 1), (4, .int x_660), (3, .int v4_3), (0, .ref a0_), (1, .int x1_)])
              have g9 := g.sub (fx' := [(0, 3, a0_, .ref a_657), (0, 8, a0_, .int x_8), (0, 0, a0_, .ref q0_), (0, 2, a0_, .ref q1_), (8, 8, q0_, .int y0_)]) [0, 1, 2, 3, 4] rfl
              exact join_12 1 1 x_660 a_657 _ _ _ _ (bd_sub kb_1 (by decide)) (bd_sub kb_1 (by decide)) ma_657 ka_657 g9  hl9
            · have fc_661 := neq_f c_661
              refine lv_iload hx hb dX0_closeParts_42 (lv_at hl 0 rfl) ?_
              refine lv_bipush (v := 7) hx hb dX0_closeParts_44 (by decide) ?_
              have kb_7 : bd 7 7 (7 : Int32) := ⟨by decide, by decide⟩
              refine lv_icmp_ne (tgt := 53) hx hb dX0_closeParts_46 (by decide) (fun c_663 => ?_) (fun c_663 => ?_)
              · have fc_663 := neq_f c_663
                refine lv_iconst (v := 0) hx hb dX0_closeParts_53 (by decide) ?_
                refine lv_istore (lv' := [(5, .int 0), (4, .int x_660), (3, .int v4_3), (2, .int v4_2), (0, .ref a0_), (1, .int x1_)]) hx hb dX0_closeParts_54 hl (by decide) rfl (fun ls hl => ?_)
                refine lv_iload hx hb dX0_closeParts_56 (lv_at hl 0 rfl) ?_
                refine lv_if_ne (tgt := 70) hx hb dX0_closeParts_58 (by decide) (fun c_ => absurd c_ (by decide)) (fun c_ => ?_)
                refine lv_iload hx hb dX0_closeParts_61 (lv_at hl 1 rfl) ?_
                refine g_calli (va_runS (As := [.int x_660]) (rest := []) ⟨hx, hb, hml, hown, hts⟩ (r_X0_levelOf l dC dI L kd tys f H.size g.2.2.2.1 x_660) (va_cwS 1 hts (gS_ t_1191 t_1192 t_190 t_1193) rfl rfl rfl (by decide +kernel) ⟨(Nat.le_of_ble_eq_true rfl), (Nat.le_of_ble_eq_true rfl)⟩) (pre3S g hK) rfl rfl hl.1 rfl (lv_room (Nat.le_of_ble_eq_true rfl)) dX0_closeParts_63 ⟨(Nat.le_of_ble_eq_true rfl), (Nat.le_of_ble_eq_true rfl)⟩) g hK (by decide) (by decide) (fx' := [(0, 3, a0_, .ref a_657), (0, 8, a0_, .int x_8), (0, 0, a0_, .ref q0_), (0, 2, a0_, .ref q1_), (8, 8, q0_, .int y0_)]) rfl (fun r_664 fr_664 H locs hp hMr_664 g => ?_)
                rcases hp with ⟨h_665, -⟩ | ⟨h_666, h_667, -⟩
                · obtain rfl : r_664 = 0 := h_665
                  refine lv_iload_n hx hb dX0_closeParts_66 rfl (lv_at hl 5 rfl) ?_
                  refine lv_icmp_lt (tgt := 74) hx hb dX0_closeParts_67 (by decide) (fun c_668 => ?_) (fun c_668 => ?_)
                  · have fc_668 := lt_f c_668
                    have b_669 : bd 1 2147483647 x1_ := ltR fc_668 kb_0 (bdT x1_) (by decide)
                    refine lv_iconst (v := 0) hx hb dX0_closeParts_74 (by decide) ?_
                    refine lv_istore_n (lv' := [(2, .int 0), (5, .int 0), (4, .int x_660), (3, .int v4_3), (0, .ref a0_), (1, .int x1_)]) hx hb dX0_closeParts_75 rfl hl (by decide) rfl (fun ls hl => ?_)
                    have hl9 := lv_sub hl [0, 1, 2, 3, 4, 5] (by rfl : lv_pick [(2, .int 0), (5, .int 0), (4, .int x_660), (3, .int v4_3), (0, .ref a0_), (1, .int x1_)] [0, 1, 2, 3, 4, 5] = [(2, .int 0), (5, .int 0), (4, .int x_660), (3, .int v4_3), (0, .ref a0_), (1, .int x1_)])
                    have g9 := g.sub (fx' := [(0, 3, a0_, .ref a_657), (0, 8, a0_, .int x_8), (0, 0, a0_, .ref q0_), (0, 2, a0_, .ref q1_), (8, 8, q0_, .int y0_)]) [0, 1, 2, 3, 4] rfl
                    exact join_12 0 0 x_660 a_657 _ _ _ _ (bd_sub kb_0 (by decide)) (bd_sub kb_0 (by decide)) ma_657 ka_657 g9  hl9
                  · have fc_668 := nlt_f c_668
                    have b_670 : bd (-2147483648) 0 x1_ := leL fc_668 (bdT x1_) kb_0 (by decide)
                    refine lv_iconst (v := 1) hx hb dX0_closeParts_70 (by decide) ?_
                    refine lv_goto (tgt := 75) hx hb dX0_closeParts_71 (by decide) ?_
                    refine lv_istore_n (lv' := [(2, .int 1), (5, .int 0), (4, .int x_660), (3, .int v4_3), (0, .ref a0_), (1, .int x1_)]) hx hb dX0_closeParts_75 rfl hl (by decide) rfl (fun ls hl => ?_)
                    have hl9 := lv_sub hl [0, 1, 2, 3, 4, 5] (by rfl : lv_pick [(2, .int 1), (5, .int 0), (4, .int x_660), (3, .int v4_3), (0, .ref a0_), (1, .int x1_)] [0, 1, 2, 3, 4, 5] = [(2, .int 1), (5, .int 0), (4, .int x_660), (3, .int v4_3), (0, .ref a0_), (1, .int x1_)])
                    have g9 := g.sub (fx' := [(0, 3, a0_, .ref a_657), (0, 8, a0_, .int x_8), (0, 0, a0_, .ref q0_), (0, 2, a0_, .ref q1_), (8, 8, q0_, .int y0_)]) [0, 1, 2, 3, 4] rfl
                    exact join_12 1 0 x_660 a_657 _ _ _ _ (bd_sub kb_1 (by decide)) (bd_sub kb_0 (by decide)) ma_657 ka_657 g9  hl9
                · have b_671 : bd 37 206 x_660 := eqX rfl (bdT x_660) h_667 (by decide)
                  refine lv_iload_n hx hb dX0_closeParts_66 rfl (lv_at hl 5 rfl) ?_
                  refine lv_icmp_lt (tgt := 74) hx hb dX0_closeParts_67 (by decide) (fun c_672 => ?_) (fun c_672 => ?_)
                  · have fc_672 := lt_f c_672
                    have b_673 : bd 2 2147483647 x1_ := ltR fc_672 h_666 (bdT x1_) (by decide)
                    refine lv_iconst (v := 0) hx hb dX0_closeParts_74 (by decide) ?_
                    refine lv_istore_n (lv' := [(2, .int 0), (5, .int 0), (4, .int x_660), (3, .int v4_3), (0, .ref a0_), (1, .int x1_)]) hx hb dX0_closeParts_75 rfl hl (by decide) rfl (fun ls hl => ?_)
                    have hl9 := lv_sub hl [0, 1, 2, 3, 4, 5] (by rfl : lv_pick [(2, .int 0), (5, .int 0), (4, .int x_660), (3, .int v4_3), (0, .ref a0_), (1, .int x1_)] [0, 1, 2, 3, 4, 5] = [(2, .int 0), (5, .int 0), (4, .int x_660), (3, .int v4_3), (0, .ref a0_), (1, .int x1_)])
                    have g9 := g.sub (fx' := [(0, 3, a0_, .ref a_657), (0, 8, a0_, .int x_8), (0, 0, a0_, .ref q0_), (0, 2, a0_, .ref q1_), (8, 8, q0_, .int y0_)]) [0, 1, 2, 3, 4] rfl
                    exact join_12 0 0 x_660 a_657 _ _ _ _ (bd_sub kb_0 (by decide)) (bd_sub kb_0 (by decide)) ma_657 ka_657 g9  hl9
                  · have fc_672 := nlt_f c_672
                    have b_674 : bd (-2147483648) 5 x1_ := leL fc_672 (bdT x1_) h_666 (by decide)
                    refine lv_iconst (v := 1) hx hb dX0_closeParts_70 (by decide) ?_
                    refine lv_goto (tgt := 75) hx hb dX0_closeParts_71 (by decide) ?_
                    refine lv_istore_n (lv' := [(2, .int 1), (5, .int 0), (4, .int x_660), (3, .int v4_3), (0, .ref a0_), (1, .int x1_)]) hx hb dX0_closeParts_75 rfl hl (by decide) rfl (fun ls hl => ?_)
                    have hl9 := lv_sub hl [0, 1, 2, 3, 4, 5] (by rfl : lv_pick [(2, .int 1), (5, .int 0), (4, .int x_660), (3, .int v4_3), (0, .ref a0_), (1, .int x1_)] [0, 1, 2, 3, 4, 5] = [(2, .int 1), (5, .int 0), (4, .int x_660), (3, .int v4_3), (0, .ref a0_), (1, .int x1_)])
                    have g9 := g.sub (fx' := [(0, 3, a0_, .ref a_657), (0, 8, a0_, .int x_8), (0, 0, a0_, .ref q0_), (0, 2, a0_, .ref q1_), (8, 8, q0_, .int y0_)]) [0, 1, 2, 3, 4] rfl
                    exact join_12 1 0 x_660 a_657 _ _ _ _ (bd_sub kb_1 (by decide)) (bd_sub kb_0 (by decide)) ma_657 ka_657 g9  hl9
              · have fc_663 := eq_f c_663
                have b_675 : bd 7 7 x_660 := eqX fc_663 (bdT x_660) kb_7 (by decide)
                refine lv_iconst (v := 1) hx hb dX0_closeParts_49 (by decide) ?_
                refine lv_goto (tgt := 54) hx hb dX0_closeParts_50 (by decide) ?_
                refine lv_istore (lv' := [(5, .int 1), (4, .int x_660), (3, .int v4_3), (2, .int v4_2), (0, .ref a0_), (1, .int x1_)]) hx hb dX0_closeParts_54 hl (by decide) rfl (fun ls hl => ?_)
                refine lv_iload hx hb dX0_closeParts_56 (lv_at hl 0 rfl) ?_
                refine lv_if_ne (tgt := 70) hx hb dX0_closeParts_58 (by decide) (fun c_ => ?_) (fun c_ => absurd c_ (by decide))
                refine lv_iconst (v := 1) hx hb dX0_closeParts_70 (by decide) ?_
                refine lv_goto (tgt := 75) hx hb dX0_closeParts_71 (by decide) ?_
                refine lv_istore_n (lv' := [(2, .int 1), (5, .int 1), (4, .int x_660), (3, .int v4_3), (0, .ref a0_), (1, .int x1_)]) hx hb dX0_closeParts_75 rfl hl (by decide) rfl (fun ls hl => ?_)
                have hl9 := lv_sub hl [0, 1, 2, 3, 4, 5] (by rfl : lv_pick [(2, .int 1), (5, .int 1), (4, .int x_660), (3, .int v4_3), (0, .ref a0_), (1, .int x1_)] [0, 1, 2, 3, 4, 5] = [(2, .int 1), (5, .int 1), (4, .int x_660), (3, .int v4_3), (0, .ref a0_), (1, .int x1_)])
                have g9 := g.sub (fx' := [(0, 3, a0_, .ref a_657), (0, 8, a0_, .int x_8), (0, 0, a0_, .ref q0_), (0, 2, a0_, .ref q1_), (8, 8, q0_, .int y0_)]) [0, 1, 2, 3, 4] rfl
                exact join_12 1 1 x_660 a_657 _ _ _ _ (bd_sub kb_1 (by decide)) (bd_sub kb_1 (by decide)) ma_657 ka_657 g9  hl9
  have kb_0 : bd 0 0 (0 : Int32) := ⟨by decide, by decide⟩
  have kb_1 : bd 1 1 (1 : Int32) := ⟨by decide, by decide⟩
  have hl9 := lv_sub hl [0, 1, 2, 3] (by rfl : lv_pick [(3, .int 0), (2, .int 1), (0, .ref a0_), (1, .int x1_)] [0, 1, 2, 3] = [(3, .int 0), (2, .int 1), (0, .ref a0_), (1, .int x1_)])
  have g9 := g.sub (fx' := [(0, 0, a0_, .ref q0_), (0, 2, a0_, .ref q1_), (8, 8, q0_, .int y0_)]) [0, 1, 2] rfl
  exact loop_1 (603) 0 1 (bd_sub kb_0 (by decide)) (bd_sub kb_1 (by decide)) (by have h9_0 := kb_0; unfold bd at h9_0; have h9_1 := kb_1; unfold bd at h9_1; omega) _ _ _ _ g9  hl9
