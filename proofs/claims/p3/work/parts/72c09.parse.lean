set_option maxHeartbeats 4000000 in
set_option maxRecDepth 100000 in
theorem r_X0_closeParts (l : Launch) (dC : Nat → ClassId) (dI : Nat → Nat → Nat) (L : List Nat) (kd : Nat → Nat) (tys : List (ClassId × FieldType)) (f0 : Nat → va_E) (sz : Nat) (hWT : WT L kd tys f0) (a0_ : Nat) (ma0_ : a0_ ∈ L) (ka0_ : kd a0_ = 0) (x1_ : Int32) (q0_ : Nat) (mq0_ : q0_ ∈ L) (kq0_ : kd q0_ = 8) (q1_ : Nat) (mq1_ : q1_ ∈ L) (kq1_ : kd q1_ = 7) (y0_ : Int32) (by0_ : bd 0 0 y0_) (T_ : Nat) (J_ : Int32 → Prop) (hGia0_ : eJx f0 a0_) (hGcq1_ : cOK f0 q1_) (hGdq1_ : dOK L kd f0 q1_ T_) (hGsq1_ : jS f0 q1_ J_) (hfx : Fs L kd f0 [(0, 0, a0_, .ref q0_), (0, 2, a0_, .ref q1_), (8, 8, q0_, .int y0_)]) : Met l yX0_closeParts (.code yX0_closeParts cX0_closeParts 7 none :: lw_g) ({ frames := 1, cells := 0, slots := 0, locals := 23 }) (va_Pc [.ref a0_, .int x1_] (P3 (dC, dI) L tys f0 sz)) (va_Qv (fun (f : Nat → va_E) => (eJx f a0_ ∧ cOK f q1_ ∧ dOK L kd f q1_ T_ ∧ jS f q1_ J_ ∧ Fs L kd f [(8, 8, q0_, .int y0_)]) ∨ (dOK L kd f q1_ T_ ∧ ∃ z1_ : Int32, bd 1 7 z1_ ∧ ∃ z3_ : Int32, bd 1 300 z3_ ∧ ∃ z4_ : Int32, bd 0 299 z4_ ∧ Fs L kd f [(8, 6, q0_, .int 1201), (8, 8, q0_, .int z1_), (0, 12, a0_, .int 0), (0, 10, a0_, .int z3_), (0, 8, a0_, .int z4_)])) (Q3 (dC, dI) L kd tys [(0, 8), (0, 10), (0, 11), (0, 12), (7, 6), (8, 6), (8, 8), (8, 9)] [115, 138, 139] f0 sz) (pA L sz)) 0 0 (pA L sz) := by
  refine Met.ofW (cc := cX0_closeParts) (maxL := 7) (ret := none) (by decide) rfl ?_
  intro p e s m args below meth c s₁ B hml hv
  obtain ⟨rfl, hsz, hP, hK, hD0⟩ := hv
  have hx := B.exec
  have hb := B.bytes
  have hr := B.returns
  have hts := atoms_spec (ws := (.code yX0_closeParts cX0_closeParts 7 none :: lw_g)) B.pre
  have hown : s.vm.findClass RX0 = some m.cls := findClass_of_methodNamed B.named
  have hlocks := B.notSynchronized
  subst hsz
  have g : G3 (dC, dI) L kd tys s f0 [(0, 8), (0, 10), (0, 11), (0, 12), (7, 6), (8, 6), (8, 8), (8, 9)] [115, 138, 139] f0 s.heap [] [(0, 0, a0_, .ref q0_), (0, 2, a0_, .ref q1_), (8, 8, q0_, .int y0_)] := G3.start hP hD0 hWT hfx
  have hl := lv_entry ([.ref a0_, .int x1_]) (n := 7) (Nat.le_of_ble_eq_true rfl)
  rw [lg_entry_eq]
  generalize (lg_sl ([.ref a0_, .int x1_]) ++ List.replicate (7 - (lg_sl ([.ref a0_, .int x1_])).length) Slot.unset).toArray = ls at hl ⊢
  have hl : lv_has ls 7 [(0, .ref a0_), (1, .int x1_)] := hl
  refine W_q (fun Q hQ => ?_)
  refine lv_iconst (v := 1) hx hb dX0_closeParts_0 (by decide) ?_
  refine lv_istore_n (lv' := [(2, .int 1), (0, .ref a0_), (1, .int x1_)]) hx hb dX0_closeParts_1 rfl hl (by decide) rfl (fun ls hl => ?_)
  refine lv_iconst (v := 0) hx hb dX0_closeParts_2 (by decide) ?_
  refine lv_istore_n (lv' := [(3, .int 0), (2, .int 1), (0, .ref a0_), (1, .int x1_)]) hx hb dX0_closeParts_3 rfl hl (by decide) rfl (fun ls hl => ?_)
  have loop_1 : ∀ (n : Nat) (v4_3 : Int32) (v4_2 : Int32), bd 0 300 v4_3 → bd 0 1 v4_2 → (300 - v4_3.toInt < (n : Int)) → ∀ (f : Nat → va_E) (H : Heap) (locs : List Loc) (ls : Array Slot), G3 (dC, dI) L kd tys s f0 [(0, 8), (0, 10), (0, 11), (0, 12), (7, 6), (8, 6), (8, 8), (8, 9)] [115, 138, 139] f H locs [(0, 0, a0_, .ref q0_), (0, 2, a0_, .ref q1_), (8, 8, q0_, .int y0_)] → eJx f a0_ → cOK f q1_ → dOK L kd f q1_ T_ → jS f q1_ J_ → lv_has ls 7 [(3, .int v4_3), (2, .int v4_2), (0, .ref a0_), (1, .int x1_)] → W p l e ({ frames := 1, cells := 0, slots := 0, locals := 23 } : Room) s m [.ref a0_, .int x1_].toArray below meth c H locs 0 0 Q (F0 m 4 ls []) := by
    intro n4
    induction n4 with
    | zero =>
      intro v4_3 v4_2 bv4_3 bv4_2 hm4 f H locs ls g hG4_i_a0_ hG4_c_q1_ hG4_d_q1_ hG4_s_q1_ hl
      exact absurd hm4 (by have h9_v4_3 := bv4_3; unfold bd at h9_v4_3; have h9_v4_2 := bv4_2; unfold bd at h9_v4_2; omega)
    | succ n4 ih4 =>
      intro v4_3 v4_2 bv4_3 bv4_2 hm4 f H locs ls g hG4_i_a0_ hG4_c_q1_ hG4_d_q1_ hG4_s_q1_ hl
      refine lv_iload_n hx hb dX0_closeParts_4 rfl (lv_at hl 0 rfl) ?_
      refine lv_sipush (v := 300) hx hb dX0_closeParts_5 (by decide) ?_
      have kb_300 : bd 300 300 (300 : Int32) := ⟨by decide, by decide⟩
      refine lv_icmp_ge (tgt := 251) hx hb dX0_closeParts_8 (by decide) (fun c_2 => ?_) (fun c_2 => ?_)
      · have fc_2 := le_f c_2
        have b_3 : bd 300 300 v4_3 := leR fc_2 kb_300 bv4_3 (by decide)
        subst hQ
        exact W.vret hx hb hr (fun t ht hW => ⟨⟨_, rfl, Or.inl ⟨hG4_i_a0_, hG4_c_q1_, hG4_d_q1_, hG4_s_q1_, (g.fcts [2] rfl)⟩, q3_of g hK ht hW⟩, g.2.2.1.F ht⟩) g.2.2.1.2.2 dX0_closeParts_251
      · have fc_2 := nle_f c_2
        have b_4 : bd 0 299 v4_3 := ltL fc_2 bv4_3 kb_300 (by decide)
        refine lv_iload_n hx hb dX0_closeParts_11 rfl (lv_at hl 1 rfl) ?_
        have kb_0 : bd 0 0 (0 : Int32) := ⟨by decide, by decide⟩
        refine lv_if_eq (tgt := 251) hx hb dX0_closeParts_12 (by decide) (fun c_5 => ?_) (fun c_5 => ?_)
        · have fc_5 := eq_f c_5
          have b_6 : bd 0 0 v4_2 := eqX fc_5 bv4_2 kb_0 (by decide)
          subst hQ
          exact W.vret hx hb hr (fun t ht hW => ⟨⟨_, rfl, Or.inl ⟨hG4_i_a0_, hG4_c_q1_, hG4_d_q1_, hG4_s_q1_, (g.fcts [2] rfl)⟩, q3_of g hK ht hW⟩, g.2.2.1.F ht⟩) g.2.2.1.2.2 dX0_closeParts_251
        · have fc_5 := neq_f c_5
          have b_7 : bd 1 1 v4_2 := neX fc_5 bv4_2 kb_0 (by decide)
          refine lv_aload_n hx hb dX0_closeParts_15 rfl (lv_at hl 2 rfl) ?_
          refine g_geti (C := RX0) (T := TX0) (N := 14) hx hb hts (mc_ inX0) hown hK g ma0_ ka0_ (by decide) rfl 8 (by decide) rfl (hts _ (List.mem_cons_of_mem _ t_381)) (fun _ h9 => h9) rfl dX0_closeParts_16 (fun x_8 bx_8 g => ?_)
          refine lv_if_le (tgt := 251) hx hb dX0_closeParts_19 (by decide) (fun c_9 => ?_) (fun c_9 => ?_)
          · have fc_9 := le_f c_9
            have b_10 : bd 0 0 x_8 := leL fc_9 bx_8 kb_0 (by decide)
            subst hQ
            exact W.vret hx hb hr (fun t ht hW => ⟨⟨_, rfl, Or.inl ⟨hG4_i_a0_, hG4_c_q1_, hG4_d_q1_, hG4_s_q1_, (g.fcts [3] rfl)⟩, q3_of g hK ht hW⟩, g.2.2.1.F ht⟩) g.2.2.1.2.2 dX0_closeParts_251
          · have fc_9 := nle_f c_9
            have b_11 : bd 1 300 x_8 := ltR fc_9 kb_0 bx_8 (by decide)
            have join_12 : ∀ (j76_2 : Int32) (j76_5 : Int32) (j76_4 : Int32) (g76_0_5_a0_ : Nat) (g76_0_3_a0_ : Nat) (f : Nat → va_E) (H : Heap) (locs : List Loc) (ls : Array Slot), bd 0 1 j76_2 → bd 0 1 j76_5 → g76_0_5_a0_ ∈ L → kd g76_0_5_a0_ = 112 → g76_0_3_a0_ ∈ L → kd g76_0_3_a0_ = 110 → G3 (dC, dI) L kd tys s f0 [(0, 8), (0, 10), (0, 11), (0, 12), (7, 6), (8, 6), (8, 8), (8, 9)] [115, 138, 139] f H locs [(0, 5, a0_, .ref g76_0_5_a0_), (0, 3, a0_, .ref g76_0_3_a0_), (0, 8, a0_, .int x_8), (0, 0, a0_, .ref q0_), (0, 2, a0_, .ref q1_), (8, 8, q0_, .int y0_)] → eJx f a0_ → cOK f q1_ → dOK L kd f q1_ T_ → jS f q1_ J_ → (∃ tg : Int32, vP f g76_0_5_a0_ x_8 tg ∧ kQj f q1_ j76_4 tg) → lv_has ls 7 [(2, .int j76_2), (5, .int j76_5), (4, .int j76_4), (3, .int v4_3), (0, .ref a0_), (1, .int x1_)] → W p l e ({ frames := 1, cells := 0, slots := 0, locals := 23 } : Room) s m [.ref a0_, .int x1_].toArray below meth c H locs 0 0 Q (F0 m 76 ls []) := by
              intro j76_2 j76_5 j76_4 g76_0_5_a0_ g76_0_3_a0_ f H locs ls bj76_2 bj76_5  mg76_0_5_a0_ kg76_0_5_a0_ mg76_0_3_a0_ kg76_0_3_a0_ g hJ76_i_a0_ hJ76_c_q1_ hJ76_d_q1_ hJ76_s_q1_ ⟨tg76, hv76, hq76⟩ hl
              refine lv_iload_n hx hb dX0_closeParts_76 rfl (lv_at hl 0 rfl) ?_
              refine lv_if_eq (tgt := 245) hx hb dX0_closeParts_77 (by decide) (fun c_13 => ?_) (fun c_13 => ?_)
              · have fc_13 := eq_f c_13
                have b_14 : bd 0 0 j76_2 := eqX fc_13 bj76_2 kb_0 (by decide)
                have kb_1 : bd 1 1 (1 : Int32) := ⟨by decide, by decide⟩
                obtain ⟨y_15, ey_15⟩ : ∃ z : Int32, z = v4_3 + 1 := ⟨_, rfl⟩
                refine lv_iinc (v := y_15) (lv' := [(3, .int y_15), (2, .int j76_2), (5, .int j76_5), (4, .int j76_4), (0, .ref a0_), (1, .int x1_)]) hx hb dX0_closeParts_245 hl (k := 3) rfl (by rw [ey_15]; rfl) (by decide) rfl (fun ls hl => ?_)
                have ty_15 := add_bd ey_15 b_4 kb_1 (by decide)
                have b_16 : bd 1 300 y_15 := add_rg ty_15 b_4 kb_1 (by decide)
                refine lv_goto (tgt := 4) hx hb dX0_closeParts_248 (by decide) ?_
                have hl9 := lv_sub hl [0, 1, 4, 5] (by rfl : lv_pick [(3, .int y_15), (2, .int j76_2), (5, .int j76_5), (4, .int j76_4), (0, .ref a0_), (1, .int x1_)] [0, 1, 4, 5] = [(3, .int y_15), (2, .int j76_2), (0, .ref a0_), (1, .int x1_)])
                have g9 := g.sub (fx' := [(0, 0, a0_, .ref q0_), (0, 2, a0_, .ref q1_), (8, 8, q0_, .int y0_)]) [3, 4, 5] rfl
                exact ih4  y_15 j76_2 (bd_sub b_16 (by decide)) (bd_sub b_14 (by decide)) (by have h9_0 := b_14; unfold bd at h9_0; have h9_1 := b_16; unfold bd at h9_1; have h9_2 := bv4_2; unfold bd at h9_2; have h9_3 := bv4_3; unfold bd at h9_3; have h9_4 := kb_0; unfold bd at h9_4; have h9_5 := kb_1; unfold bd at h9_5; have h9_6 := kb_300; unfold bd at h9_6; omega) _ _ _ _ g9 hJ76_i_a0_ hJ76_c_q1_ hJ76_d_q1_ hJ76_s_q1_ hl9
              · have fc_13 := neq_f c_13
                have b_17 : bd 1 1 j76_2 := neX fc_13 bj76_2 kb_0 (by decide)
                have join_18 : ∀ (j191_6 : Int32) (g191_7_6_q1_ : Int32) (g191_7_5_q1_ : Nat) (g191_7_4_q1_ : Nat) (g191_0_10_a0_ : Int32) (g191_0_8_a0_ : Int32) (f : Nat → va_E) (H : Heap) (locs : List Loc) (ls : Array Slot), bd 0 2000 g191_7_6_q1_ → g191_7_5_q1_ ∈ L → kd g191_7_5_q1_ = 139 → g191_7_4_q1_ ∈ L → kd g191_7_4_q1_ = 138 → bd 0 299 g191_0_10_a0_ → bd 0 299 g191_0_8_a0_ → G3 (dC, dI) L kd tys s f0 [(0, 8), (0, 10), (0, 11), (0, 12), (7, 6), (8, 6), (8, 8), (8, 9)] [115, 138, 139] f H locs [(7, 6, q1_, .int g191_7_6_q1_), (7, 5, q1_, .ref g191_7_5_q1_), (7, 4, q1_, .ref g191_7_4_q1_), (0, 10, a0_, .int g191_0_10_a0_), (0, 8, a0_, .int g191_0_8_a0_), (0, 5, a0_, .ref g76_0_5_a0_), (0, 3, a0_, .ref g76_0_3_a0_), (0, 0, a0_, .ref q0_), (0, 2, a0_, .ref q1_), (8, 8, q0_, .int y0_)] → eJx f a0_ → cOK f q1_ → dOK L kd f q1_ T_ → jS f q1_ J_ → lv_has ls 7 [(6, .int j191_6), (2, .int j76_2), (5, .int j76_5), (4, .int j76_4), (3, .int v4_3), (0, .ref a0_), (1, .int x1_)] → W p l e ({ frames := 1, cells := 0, slots := 0, locals := 23 } : Room) s m [.ref a0_, .int x1_].toArray below meth c H locs 0 0 Q (F0 m 191 ls []) := by
                  intro j191_6 g191_7_6_q1_ g191_7_5_q1_ g191_7_4_q1_ g191_0_10_a0_ g191_0_8_a0_ f H locs ls  bg191_7_6_q1_ mg191_7_5_q1_ kg191_7_5_q1_ mg191_7_4_q1_ kg191_7_4_q1_ bg191_0_10_a0_ bg191_0_8_a0_ g hJ191_i_a0_ hJ191_c_q1_ hJ191_d_q1_ hJ191_s_q1_ hl
                  refine lv_iconst (v := 1) hx hb dX0_closeParts_191 (by decide) ?_
                  refine lv_iload hx hb dX0_closeParts_192 (lv_at hl 2 rfl) ?_
                  refine lv_if_eq (tgt := 202) hx hb dX0_closeParts_194 (by decide) (fun c_19 => ?_) (fun c_19 => ?_)
                  · have fc_19 := eq_f c_19
                    have b_20 : bd 0 0 j76_5 := eqX fc_19 bj76_5 kb_0 (by decide)
                    refine lv_iload hx hb dX0_closeParts_202 (lv_at hl 0 rfl) ?_
                    refine lv_aload_n hx hb dX0_closeParts_204 rfl (lv_at hl 5 rfl) ?_
                    have go_ := g
                    refine g_calli (va_runV (As := []) (rest := [.int j191_6, .int 1]) ⟨hx, hb, hml, hown, hts⟩ (r_X0_takeHeight l dC dI L kd tys f H.size g.2.2.2.1 a0_ ma0_ ka0_) (cwV 0 hts (gV_ t_1199 t_1201 t_16 t_190 t_1202) rfl rfl rfl (by decide +kernel) ⟨(Nat.le_of_ble_eq_true rfl), (Nat.le_of_ble_eq_true rfl)⟩) (pre3V g hK ma0_ ka0_ (by decide) (q := (RX0, TX0, 14)) rfl) rfl rfl hl.1 rfl (lv_room (Nat.le_of_ble_eq_true rfl)) dX0_closeParts_205 ⟨(Nat.le_of_ble_eq_true rfl), (Nat.le_of_ble_eq_true rfl)⟩) g hK (by decide) (by decide) (fx' := [(7, 6, q1_, .int g191_7_6_q1_), (7, 5, q1_, .ref g191_7_5_q1_), (7, 4, q1_, .ref g191_7_4_q1_), (0, 8, a0_, .int g191_0_8_a0_), (0, 5, a0_, .ref g76_0_5_a0_), (0, 3, a0_, .ref g76_0_3_a0_), (0, 0, a0_, .ref q0_), (0, 2, a0_, .ref q1_), (8, 8, q0_, .int y0_)]) rfl (fun r_21 fr_21 H locs hp hMr_21 g => ?_)
                    obtain ⟨x_22, h_23, hF_24⟩ := hp
                    have hG_25 := eJx.frame hMr_21 go_.2.2.2.1 ma0_ ka0_ (by decide) (by decide) hJ191_i_a0_
                    have hG_26 := cOK.frame hMr_21 go_.2.2.2.1 mq1_ kq1_ (by decide) (by decide) hJ191_c_q1_
                    have hG_27 := dOK.frame hMr_21 go_.2.2.2.1 mq1_ kq1_ (by decide) (by decide) hJ191_d_q1_
                    have hG_28 := jS.frame hMr_21 go_.2.2.2.1 mq1_ kq1_ (by decide) (by decide) hJ191_s_q1_
                    have g := g.more hF_24
                    refine va_mmax hx hb (hml.trans hl.1.symm) hown (hts _ (List.mem_cons_of_mem _ t_1194)) (hts _ (List.mem_cons_of_mem _ t_1041)) (hts _ (List.mem_cons_of_mem _ t_204)) (hts _ (List.mem_cons_of_mem _ t_1042)) (Nat.le_of_ble_eq_true rfl) (Nat.le_of_ble_eq_true rfl) (Nat.le_of_ble_eq_true rfl) (Nat.le_of_ble_eq_true rfl) dX0_closeParts_208 ?_
                    refine lv_topi (fun y_29 ey_29 => ?_)
                    have ty_29 : y_29.toInt = max j191_6.toInt r_21.toInt := by rw [ey_29]; exact mmax_ok _ _
                    have b_30 : bd (-2147483648) 2147483647 y_29 := max_rg ty_29 (bdT j191_6) (bdT r_21) (by decide)
                    have kb_1 : bd 1 1 (1 : Int32) := ⟨by decide, by decide⟩
                    refine lv_iadd hx hb dX0_closeParts_211 ?_
                    refine lv_topi (fun y_31 ey_31 => ?_)
                    refine lv_istore (lv' := [(6, .int y_31), (2, .int j76_2), (5, .int j76_5), (4, .int j76_4), (3, .int v4_3), (0, .ref a0_), (1, .int x1_)]) hx hb dX0_closeParts_212 hl (by decide) rfl (fun ls hl => ?_)
                    refine lv_aload_n hx hb dX0_closeParts_214 rfl (lv_at hl 5 rfl) ?_
                    refine lv_iload hx hb dX0_closeParts_215 (lv_at hl 0 rfl) ?_
                    have go_ := g
                    refine g_callv (va_runV (As := [.int y_31]) (rest := []) ⟨hx, hb, hml, hown, hts⟩ (r_X0_addWhole l dC dI L kd tys fr_21 H.size g.2.2.2.1 a0_ ma0_ ka0_ y_31) (cwV 1 hts (gV_ t_1211 t_1213 t_17 t_190 t_1214) rfl rfl rfl (by decide +kernel) ⟨(Nat.le_of_ble_eq_true rfl), (Nat.le_of_ble_eq_true rfl)⟩) (pre3V g hK ma0_ ka0_ (by decide) (q := (RX0, TX0, 14)) rfl) rfl rfl hl.1 rfl (lv_room (Nat.le_of_ble_eq_true rfl)) dX0_closeParts_217 ⟨(Nat.le_of_ble_eq_true rfl), (Nat.le_of_ble_eq_true rfl)⟩) g hK (by decide) (by decide) (fx' := [(7, 6, q1_, .int g191_7_6_q1_), (7, 5, q1_, .ref g191_7_5_q1_), (7, 4, q1_, .ref g191_7_4_q1_), (0, 8, a0_, .int g191_0_8_a0_), (0, 5, a0_, .ref g76_0_5_a0_), (0, 3, a0_, .ref g76_0_3_a0_), (0, 0, a0_, .ref q0_), (0, 2, a0_, .ref q1_), (8, 8, q0_, .int y0_)]) rfl (fun fr_32 H locs hp hMr_32 g => ?_)
                    obtain ⟨x_33, h_34, hF_35⟩ := hp
                    have hG_36 := eJx.frame hMr_32 go_.2.2.2.1 ma0_ ka0_ (by decide) (by decide) hG_25
                    have hG_37 := cOK.frame hMr_32 go_.2.2.2.1 mq1_ kq1_ (by decide) (by decide) hG_26
                    have hG_38 := dOK.frame hMr_32 go_.2.2.2.1 mq1_ kq1_ (by decide) (by decide) hG_27
                    have hG_39 := jS.frame hMr_32 go_.2.2.2.1 mq1_ kq1_ (by decide) (by decide) hG_28
                    have g := g.more hF_35
                    refine lv_iload hx hb dX0_closeParts_220 (lv_at hl 0 rfl) ?_
                    refine lv_bipush (v := 12) hx hb dX0_closeParts_222 (by decide) ?_
                    have kb_12 : bd 12 12 (12 : Int32) := ⟨by decide, by decide⟩
                    refine lv_icmp_le (tgt := 245) hx hb dX0_closeParts_224 (by decide) (fun c_40 => ?_) (fun c_40 => ?_)
                    · have fc_40 := le_f c_40
                      have b_41 : bd (-2147483648) 12 y_31 := leL fc_40 (bdT y_31) kb_12 (by decide)
                      obtain ⟨y_42, ey_42⟩ : ∃ z : Int32, z = v4_3 + 1 := ⟨_, rfl⟩
                      refine lv_iinc (v := y_42) (lv' := [(3, .int y_42), (6, .int y_31), (2, .int j76_2), (5, .int j76_5), (4, .int j76_4), (0, .ref a0_), (1, .int x1_)]) hx hb dX0_closeParts_245 hl (k := 4) rfl (by rw [ey_42]; rfl) (by decide) rfl (fun ls hl => ?_)
                      have ty_42 := add_bd ey_42 b_4 kb_1 (by decide)
                      have b_43 : bd 1 300 y_42 := add_rg ty_42 b_4 kb_1 (by decide)
                      refine lv_goto (tgt := 4) hx hb dX0_closeParts_248 (by decide) ?_
                      have hl9 := lv_sub hl [0, 2, 5, 6] (by rfl : lv_pick [(3, .int y_42), (6, .int y_31), (2, .int j76_2), (5, .int j76_5), (4, .int j76_4), (0, .ref a0_), (1, .int x1_)] [0, 2, 5, 6] = [(3, .int y_42), (2, .int j76_2), (0, .ref a0_), (1, .int x1_)])
                      have g9 := g.sub (fx' := [(0, 0, a0_, .ref q0_), (0, 2, a0_, .ref q1_), (8, 8, q0_, .int y0_)]) [8, 9, 10] rfl
                      exact ih4  y_42 j76_2 (bd_sub b_43 (by decide)) (bd_sub b_17 (by decide)) (by have h9_0 := b_17; unfold bd at h9_0; have h9_1 := b_43; unfold bd at h9_1; have h9_2 := bv4_2; unfold bd at h9_2; have h9_3 := bv4_3; unfold bd at h9_3; have h9_4 := kb_0; unfold bd at h9_4; have h9_5 := kb_1; unfold bd at h9_5; have h9_6 := kb_12; unfold bd at h9_6; have h9_7 := kb_300; unfold bd at h9_7; omega) _ _ _ _ g9 hG_36 hG_37 hG_38 hG_39 hl9
                    · have fc_40 := nle_f c_40
                      have b_44 : bd 13 2147483647 y_31 := ltR fc_40 kb_12 (bdT y_31) (by decide)
                      refine lv_aload_n hx hb dX0_closeParts_227 rfl (lv_at hl 5 rfl) ?_
                      refine g_getk (C := RX0) (T := TX0) (N := 14) hx hb hts (mc_ inX0) hown hK g rfl 0 (by decide) rfl (hts _ (List.mem_cons_of_mem _ t_373)) (fun _ h9 => h9) 8 rfl dX0_closeParts_228 ?_
                      refine lv_bipush (v := 7) hx hb dX0_closeParts_231 (by decide) ?_
                      refine lv_aload_n hx hb dX0_closeParts_233 rfl (lv_at hl 5 rfl) ?_
                      refine g_getr (K := 111) (C := RX0) (T := TX0) (N := 14) hx hb hts (mc_ inX0) hown hK g ma0_ ka0_ (by decide) rfl 4 (by decide) rfl (hts _ (List.mem_cons_of_mem _ t_377)) (fun _ h9 => h9) rfl dX0_closeParts_234 (fun a_45 ma_45 ka_45 g => ?_)
                      refine lv_aload_n hx hb dX0_closeParts_237 rfl (lv_at hl 5 rfl) ?_
                      refine g_getk (C := RX0) (T := TX0) (N := 14) hx hb hts (mc_ inX0) hown hK g rfl 8 (by decide) rfl (hts _ (List.mem_cons_of_mem _ t_381)) (fun _ h9 => h9) 6 rfl dX0_closeParts_238 ?_
                      refine g_iald hx hb hK g ma_45 ka_45 (by decide) rfl (in_bd bg191_0_8_a0_ (by decide)) dX0_closeParts_241 (fun x_46 bx_46 cx_46 => ?_)
                      have kb_7 : bd 7 7 (7 : Int32) := ⟨by decide, by decide⟩
                      have go_ := g
                      refine g_callv (va_runV (As := [.int 7, .int x_46]) (rest := []) ⟨hx, hb, hml, hown, hts⟩ (r_X8_fail l dC dI L kd tys fr_32 H.size g.2.2.2.1 q0_ mq0_ kq0_ 7 (bd_sub kb_7 (by decide)) x_46 y0_ by0_ (g.fcts [11] rfl)) (cwV 2 hts (gV_ t_1215 t_1107 t_1108 t_184 t_1109) rfl rfl rfl (by decide +kernel) ⟨(Nat.le_of_ble_eq_true rfl), (Nat.le_of_ble_eq_true rfl)⟩) (pre3V g hK mq0_ kq0_ (by decide) (q := (RX8, TX8, 10)) rfl) rfl rfl hl.1 rfl (lv_room (Nat.le_of_ble_eq_true rfl)) dX0_closeParts_242 ⟨(Nat.le_of_ble_eq_true rfl), (Nat.le_of_ble_eq_true rfl)⟩) g hK (by decide) (by decide) (fx' := [(0, 4, a0_, .ref a_45), (0, 12, a0_, .int 0), (0, 10, a0_, .int x_33), (7, 6, q1_, .int g191_7_6_q1_), (7, 5, q1_, .ref g191_7_5_q1_), (7, 4, q1_, .ref g191_7_4_q1_), (0, 8, a0_, .int g191_0_8_a0_), (0, 5, a0_, .ref g76_0_5_a0_), (0, 3, a0_, .ref g76_0_3_a0_), (0, 0, a0_, .ref q0_), (0, 2, a0_, .ref q1_)]) rfl (fun fr_47 H locs hp hMr_47 g => ?_)
                      obtain ⟨x_48, h_49, hF_50⟩ := hp
                      have hG_51 := eJx.frame hMr_47 go_.2.2.2.1 ma0_ ka0_ (by decide) (by decide) hG_36
                      have hG_52 := cOK.frame hMr_47 go_.2.2.2.1 mq1_ kq1_ (by decide) (by decide) hG_37
                      have hG_53 := dOK.frame hMr_47 go_.2.2.2.1 mq1_ kq1_ (by decide) (by decide) hG_38
                      have hG_54 := jS.frame hMr_47 go_.2.2.2.1 mq1_ kq1_ (by decide) (by decide) hG_39
                      have g := g.more hF_50
                      obtain ⟨y_55, ey_55⟩ : ∃ z : Int32, z = v4_3 + 1 := ⟨_, rfl⟩
                      refine lv_iinc (v := y_55) (lv' := [(3, .int y_55), (6, .int y_31), (2, .int j76_2), (5, .int j76_5), (4, .int j76_4), (0, .ref a0_), (1, .int x1_)]) hx hb dX0_closeParts_245 hl (k := 4) rfl (by rw [ey_55]; rfl) (by decide) rfl (fun ls hl => ?_)
                      have ty_55 := add_bd ey_55 b_4 kb_1 (by decide)
                      have b_56 : bd 1 300 y_55 := add_rg ty_55 b_4 kb_1 (by decide)
                      refine lv_goto (tgt := 4) hx hb dX0_closeParts_248 (by decide) ?_
                      have loop_57 : ∀ (n : Nat) (v4_3 : Int32) (v4_6 : Int32) (v4_2 : Int32) (v4_5 : Int32) (v4_4 : Int32) (w4_0_10_a0_ : Int32) (w4_7_6_q1_ : Int32) (w4_0_8_a0_ : Int32), bd 1 300 v4_3 → bd 0 1 v4_2 → bd 0 1 v4_5 → bd 1 300 w4_0_10_a0_ → bd 0 2000 w4_7_6_q1_ → bd 0 299 w4_0_8_a0_ → (300 - v4_3.toInt < (n : Int)) → ∀ (f : Nat → va_E) (H : Heap) (locs : List Loc) (ls : Array Slot), G3 (dC, dI) L kd tys s f0 [(0, 8), (0, 10), (0, 11), (0, 12), (7, 6), (8, 6), (8, 8), (8, 9)] [115, 138, 139] f H locs [(8, 6, q0_, .int 1201), (8, 8, q0_, .int x_48), (0, 4, a0_, .ref a_45), (0, 12, a0_, .int 0), (0, 10, a0_, .int w4_0_10_a0_), (7, 6, q1_, .int w4_7_6_q1_), (7, 5, q1_, .ref g191_7_5_q1_), (7, 4, q1_, .ref g191_7_4_q1_), (0, 8, a0_, .int w4_0_8_a0_), (0, 5, a0_, .ref g76_0_5_a0_), (0, 3, a0_, .ref g76_0_3_a0_), (0, 0, a0_, .ref q0_), (0, 2, a0_, .ref q1_)] → dOK L kd f q1_ T_ → lv_has ls 7 [(3, .int v4_3), (6, .int v4_6), (2, .int v4_2), (5, .int v4_5), (4, .int v4_4), (0, .ref a0_), (1, .int x1_)] → W p l e ({ frames := 1, cells := 0, slots := 0, locals := 23 } : Room) s m [.ref a0_, .int x1_].toArray below meth c H locs 0 0 Q (F0 m 4 ls []) := by
                        intro n4
                        induction n4 with
                        | zero =>
                          intro v4_3 v4_6 v4_2 v4_5 v4_4 w4_0_10_a0_ w4_7_6_q1_ w4_0_8_a0_ bv4_3  bv4_2 bv4_5  bw4_0_10_a0_ bw4_7_6_q1_ bw4_0_8_a0_ hm4 f H locs ls g hG4_d_q1_ hl
                          exact absurd hm4 (by have h9_v4_3 := bv4_3; unfold bd at h9_v4_3; have h9_v4_6 := bdT v4_6; unfold bd at h9_v4_6; have h9_v4_2 := bv4_2; unfold bd at h9_v4_2; have h9_v4_5 := bv4_5; unfold bd at h9_v4_5; have h9_v4_4 := bdT v4_4; unfold bd at h9_v4_4; have h9_w4_0_10_a0_ := bw4_0_10_a0_; unfold bd at h9_w4_0_10_a0_; have h9_w4_7_6_q1_ := bw4_7_6_q1_; unfold bd at h9_w4_7_6_q1_; have h9_w4_0_8_a0_ := bw4_0_8_a0_; unfold bd at h9_w4_0_8_a0_; omega)
                        | succ n4 ih4 =>
                          intro v4_3 v4_6 v4_2 v4_5 v4_4 w4_0_10_a0_ w4_7_6_q1_ w4_0_8_a0_ bv4_3  bv4_2 bv4_5  bw4_0_10_a0_ bw4_7_6_q1_ bw4_0_8_a0_ hm4 f H locs ls g hG4_d_q1_ hl
                          refine lv_iload_n hx hb dX0_closeParts_4 rfl (lv_at hl 0 rfl) ?_
                          refine lv_sipush (v := 300) hx hb dX0_closeParts_5 (by decide) ?_
                          refine lv_icmp_ge (tgt := 251) hx hb dX0_closeParts_8 (by decide) (fun c_58 => ?_) (fun c_58 => ?_)
                          · have fc_58 := le_f c_58
                            have b_59 : bd 300 300 v4_3 := leR fc_58 kb_300 bv4_3 (by decide)
                            subst hQ
                            exact W.vret hx hb hr (fun t ht hW => ⟨⟨_, rfl, Or.inr (⟨hG4_d_q1_, x_48, h_49, w4_0_10_a0_, bw4_0_10_a0_, w4_0_8_a0_, bw4_0_8_a0_, (g.fcts [0, 1, 3, 4, 8] rfl)⟩), q3_of g hK ht hW⟩, g.2.2.1.F ht⟩) g.2.2.1.2.2 dX0_closeParts_251
                          · have fc_58 := nle_f c_58
                            have b_60 : bd 1 299 v4_3 := ltL fc_58 bv4_3 kb_300 (by decide)
                            refine lv_iload_n hx hb dX0_closeParts_11 rfl (lv_at hl 2 rfl) ?_
                            refine lv_if_eq (tgt := 251) hx hb dX0_closeParts_12 (by decide) (fun c_61 => ?_) (fun c_61 => ?_)
                            · have fc_61 := eq_f c_61
                              have b_62 : bd 0 0 v4_2 := eqX fc_61 bv4_2 kb_0 (by decide)
                              subst hQ
                              exact W.vret hx hb hr (fun t ht hW => ⟨⟨_, rfl, Or.inr (⟨hG4_d_q1_, x_48, h_49, w4_0_10_a0_, bw4_0_10_a0_, w4_0_8_a0_, bw4_0_8_a0_, (g.fcts [0, 1, 3, 4, 8] rfl)⟩), q3_of g hK ht hW⟩, g.2.2.1.F ht⟩) g.2.2.1.2.2 dX0_closeParts_251
                            · have fc_61 := neq_f c_61
                              have b_63 : bd 1 1 v4_2 := neX fc_61 bv4_2 kb_0 (by decide)
                              refine lv_aload_n hx hb dX0_closeParts_15 rfl (lv_at hl 5 rfl) ?_
                              refine g_getk (C := RX0) (T := TX0) (N := 14) hx hb hts (mc_ inX0) hown hK g rfl 8 (by decide) rfl (hts _ (List.mem_cons_of_mem _ t_381)) (fun _ h9 => h9) 8 rfl dX0_closeParts_16 ?_
                              refine lv_if_le (tgt := 251) hx hb dX0_closeParts_19 (by decide) (fun c_64 => ?_) (fun c_64 => ?_)
                              · have fc_64 := le_f c_64
                                have b_65 : bd 0 0 w4_0_8_a0_ := leL fc_64 bw4_0_8_a0_ kb_0 (by decide)
                                subst hQ
                                exact W.vret hx hb hr (fun t ht hW => ⟨⟨_, rfl, Or.inr (⟨hG4_d_q1_, x_48, h_49, w4_0_10_a0_, bw4_0_10_a0_, w4_0_8_a0_, (bd_sub b_65 (by decide)), (g.fcts [0, 1, 3, 4, 8] rfl)⟩), q3_of g hK ht hW⟩, g.2.2.1.F ht⟩) g.2.2.1.2.2 dX0_closeParts_251
                              · have fc_64 := nle_f c_64
                                have b_66 : bd 1 299 w4_0_8_a0_ := ltR fc_64 kb_0 bw4_0_8_a0_ (by decide)
                                refine lv_aload_n hx hb dX0_closeParts_22 rfl (lv_at hl 5 rfl) ?_
                                refine g_getk (C := RX0) (T := TX0) (N := 14) hx hb hts (mc_ inX0) hown hK g rfl 3 (by decide) rfl (hts _ (List.mem_cons_of_mem _ t_376)) (fun _ h9 => h9) 10 rfl dX0_closeParts_23 ?_
                                refine lv_aload_n hx hb dX0_closeParts_26 rfl (lv_at hl 5 rfl) ?_
                                refine g_getk (C := RX0) (T := TX0) (N := 14) hx hb hts (mc_ inX0) hown hK g rfl 8 (by decide) rfl (hts _ (List.mem_cons_of_mem _ t_381)) (fun _ h9 => h9) 8 rfl dX0_closeParts_27 ?_
                                refine lv_iconst (v := 1) hx hb dX0_closeParts_30 (by decide) ?_
                                refine lv_isub hx hb dX0_closeParts_31 ?_
                                refine lv_topi (fun y_67 ey_67 => ?_)
                                have ty_67 := sub_bd ey_67 b_66 kb_1 (by decide)
                                have b_68 : bd 0 298 y_67 := sub_rg ty_67 b_66 kb_1 (by decide)
                                refine g_iald hx hb hK g mg76_0_3_a0_ kg76_0_3_a0_ (by decide) rfl (in_bd b_68 (by decide)) dX0_closeParts_32 (fun x_69 bx_69 cx_69 => ?_)
                                refine lv_istore (lv' := [(4, .int x_69), (3, .int v4_3), (6, .int v4_6), (2, .int v4_2), (5, .int v4_5), (0, .ref a0_), (1, .int x1_)]) hx hb dX0_closeParts_33 hl (by decide) rfl (fun ls hl => ?_)
                                refine lv_iload hx hb dX0_closeParts_35 (lv_at hl 0 rfl) ?_
                                refine lv_bipush (v := 6) hx hb dX0_closeParts_37 (by decide) ?_
                                have kb_6 : bd 6 6 (6 : Int32) := ⟨by decide, by decide⟩
                                refine lv_icmp_eq (tgt := 49) hx hb dX0_closeParts_39 (by decide) (fun c_70 => ?_) (fun c_70 => ?_)
                                · have fc_70 := eq_f c_70
                                  have b_71 : bd 6 6 x_69 := eqX fc_70 (bdT x_69) kb_6 (by decide)
                                  refine lv_iconst (v := 1) hx hb dX0_closeParts_49 (by decide) ?_
                                  refine lv_goto (tgt := 54) hx hb dX0_closeParts_50 (by decide) ?_
                                  refine lv_istore (lv' := [(5, .int 1), (4, .int x_69), (3, .int v4_3), (6, .int v4_6), (2, .int v4_2), (0, .ref a0_), (1, .int x1_)]) hx hb dX0_closeParts_54 hl (by decide) rfl (fun ls hl => ?_)
                                  refine lv_iload hx hb dX0_closeParts_56 (lv_at hl 0 rfl) ?_
                                  refine lv_if_ne (tgt := 70) hx hb dX0_closeParts_58 (by decide) (fun c_ => ?_) (fun c_ => absurd c_ (by decide))
                                  refine lv_iconst (v := 1) hx hb dX0_closeParts_70 (by decide) ?_
                                  refine lv_goto (tgt := 75) hx hb dX0_closeParts_71 (by decide) ?_
                                  refine lv_istore_n (lv' := [(2, .int 1), (5, .int 1), (4, .int x_69), (3, .int v4_3), (6, .int v4_6), (0, .ref a0_), (1, .int x1_)]) hx hb dX0_closeParts_75 rfl hl (by decide) rfl (fun ls hl => ?_)
                                  refine lv_iload_n hx hb dX0_closeParts_76 rfl (lv_at hl 0 rfl) ?_
                                  refine lv_if_eq (tgt := 245) hx hb dX0_closeParts_77 (by decide) (fun c_ => absurd c_ (by decide)) (fun c_ => ?_)
                                  refine lv_aload_n hx hb dX0_closeParts_80 rfl (lv_at hl 5 rfl) ?_
                                  refine lv_dup hx hb dX0_closeParts_81 rfl ?_
                                  refine g_getk (C := RX0) (T := TX0) (N := 14) hx hb hts (mc_ inX0) hown hK g rfl 8 (by decide) rfl (hts _ (List.mem_cons_of_mem _ t_381)) (fun _ h9 => h9) 8 rfl dX0_closeParts_82 ?_
                                  refine lv_iconst (v := 1) hx hb dX0_closeParts_85 (by decide) ?_
                                  refine lv_isub hx hb dX0_closeParts_86 ?_
                                  refine lv_topi (fun y_72 ey_72 => ?_)
                                  obtain rfl : y_67 = y_72 := ey_67.trans ey_72.symm
                                  have go_ := g
                                  refine g_put (C := RX0) (T := TX0) (N := 14) hx hb hts (mc_ inX0) tyX0 tyX0_ok nmX0 hown hK g ma0_ ka0_ (by decide) rfl 8 (by decide) (hts _ (List.mem_cons_of_mem _ t_381)) (fun _ h9 => h9) rfl rfl (okV_i (bd_sub b_68 (by decide))) rfl rfl (by decide) (Or.inr (Or.inl (by decide))) (fx' := [(8, 6, q0_, .int 1201), (8, 8, q0_, .int x_48), (0, 4, a0_, .ref a_45), (0, 12, a0_, .int 0), (0, 10, a0_, .int w4_0_10_a0_), (7, 6, q1_, .int w4_7_6_q1_), (7, 5, q1_, .ref g191_7_5_q1_), (7, 4, q1_, .ref g191_7_4_q1_), (0, 5, a0_, .ref g76_0_5_a0_), (0, 3, a0_, .ref g76_0_3_a0_), (0, 0, a0_, .ref q0_), (0, 2, a0_, .ref q1_)]) rfl dX0_closeParts_87 (fun f H locs hM_73 g => ?_)
                                  have hG_74 := dOK.frame hM_73 go_.2.2.2.1 mq1_ kq1_ (by decide) (by decide) hG4_d_q1_
                                  refine lv_aload_n hx hb dX0_closeParts_90 rfl (lv_at hl 5 rfl) ?_
                                  have go_ := g
                                  refine g_calli (va_runV (As := []) (rest := []) ⟨hx, hb, hml, hown, hts⟩ (r_X0_takeHeight l dC dI L kd tys f H.size g.2.2.2.1 a0_ ma0_ ka0_) (cwV 0 hts (gV_ t_1199 t_1201 t_16 t_190 t_1202) rfl rfl rfl (by decide +kernel) ⟨(Nat.le_of_ble_eq_true rfl), (Nat.le_of_ble_eq_true rfl)⟩) (pre3V g hK ma0_ ka0_ (by decide) (q := (RX0, TX0, 14)) rfl) rfl rfl hl.1 rfl (lv_room (Nat.le_of_ble_eq_true rfl)) dX0_closeParts_91 ⟨(Nat.le_of_ble_eq_true rfl), (Nat.le_of_ble_eq_true rfl)⟩) g hK (by decide) (by decide) (fx' := [(0, 8, a0_, .int y_67), (8, 6, q0_, .int 1201), (8, 8, q0_, .int x_48), (0, 4, a0_, .ref a_45), (0, 12, a0_, .int 0), (7, 6, q1_, .int w4_7_6_q1_), (7, 5, q1_, .ref g191_7_5_q1_), (7, 4, q1_, .ref g191_7_4_q1_), (0, 5, a0_, .ref g76_0_5_a0_), (0, 3, a0_, .ref g76_0_3_a0_), (0, 0, a0_, .ref q0_), (0, 2, a0_, .ref q1_)]) rfl (fun r_75 fr_75 H locs hp hMr_75 g => ?_)
                                  obtain ⟨x_76, h_77, hF_78⟩ := hp
                                  have hG_79 := dOK.frame hMr_75 go_.2.2.2.1 mq1_ kq1_ (by decide) (by decide) hG_74
                                  have g := g.more hF_78
                                  refine lv_istore (lv' := [(6, .int r_75), (2, .int 1), (5, .int 1), (4, .int x_69), (3, .int v4_3), (0, .ref a0_), (1, .int x1_)]) hx hb dX0_closeParts_94 hl (by decide) rfl (fun ls hl => ?_)
                                  refine lv_iload hx hb dX0_closeParts_96 (lv_at hl 2 rfl) ?_
                                  refine lv_if_eq (tgt := 136) hx hb dX0_closeParts_98 (by decide) (fun c_ => absurd c_ (by decide)) (fun c_ => ?_)
                                  refine lv_aload_n hx hb dX0_closeParts_101 rfl (lv_at hl 5 rfl) ?_
                                  refine lv_dup hx hb dX0_closeParts_102 rfl ?_
                                  refine g_geti (C := RX0) (T := TX0) (N := 14) hx hb hts (mc_ inX0) hown hK g ma0_ ka0_ (by decide) rfl 11 (by decide) rfl (hts _ (List.mem_cons_of_mem _ t_384)) (fun _ h9 => h9) rfl dX0_closeParts_103 (fun x_80 bx_80 g => ?_)
                                  refine lv_iconst (v := 1) hx hb dX0_closeParts_106 (by decide) ?_
                                  refine lv_isub hx hb dX0_closeParts_107 ?_
                                  refine lv_topi (fun y_81 ey_81 => ?_)
                                  have go_ := g
                                  refine g_put (C := RX0) (T := TX0) (N := 14) hx hb hts (mc_ inX0) tyX0 tyX0_ok nmX0 hown hK g ma0_ ka0_ (by decide) rfl 11 (by decide) (hts _ (List.mem_cons_of_mem _ t_384)) (fun _ h9 => h9) rfl rfl (okV_i (bdT y_81)) rfl rfl (by decide) (Or.inr (Or.inl (by decide))) (fx' := [(0, 10, a0_, .int x_76), (0, 8, a0_, .int y_67), (8, 6, q0_, .int 1201), (8, 8, q0_, .int x_48), (0, 4, a0_, .ref a_45), (0, 12, a0_, .int 0), (7, 6, q1_, .int w4_7_6_q1_), (7, 5, q1_, .ref g191_7_5_q1_), (7, 4, q1_, .ref g191_7_4_q1_), (0, 5, a0_, .ref g76_0_5_a0_), (0, 3, a0_, .ref g76_0_3_a0_), (0, 0, a0_, .ref q0_), (0, 2, a0_, .ref q1_)]) rfl dX0_closeParts_108 (fun f H locs hM_82 g => ?_)
                                  have hG_83 := dOK.frame hM_82 go_.2.2.2.1 mq1_ kq1_ (by decide) (by decide) hG_79
                                  refine lv_aload_n hx hb dX0_closeParts_111 rfl (lv_at hl 5 rfl) ?_
                                  refine g_getk (C := RX0) (T := TX0) (N := 14) hx hb hts (mc_ inX0) hown hK g rfl 2 (by decide) rfl (hts _ (List.mem_cons_of_mem _ t_375)) (fun _ h9 => h9) 13 rfl dX0_closeParts_112 ?_
                                  refine lv_iload hx hb dX0_closeParts_115 (lv_at hl 3 rfl) ?_
                                  refine lv_bipush (v := 6) hx hb dX0_closeParts_117 (by decide) ?_
                                  refine lv_icmp_ne (tgt := 127) hx hb dX0_closeParts_119 (by decide) (fun c_84 => ?_) (fun c_84 => ?_)
                                  · have fc_84 := neq_f c_84
                                    have b_85 : bd 7 5 x_69 := neX fc_84 b_71 kb_6 (by decide)
                                    exact bd_no b_85 (by decide)
                                  · have fc_84 := eq_f c_84
                                    refine lv_bipush (v := 6) hx hb dX0_closeParts_122 (by decide) ?_
                                    refine lv_goto (tgt := 129) hx hb dX0_closeParts_124 (by decide) ?_
                                    refine lv_iconst (v := 0) hx hb dX0_closeParts_129 (by decide) ?_
                                    have go_ := g
                                    refine g_callv (va_runV (As := [.int 6, .int 0]) (rest := []) ⟨hx, hb, hml, hown, hts⟩ (r_X7_emitF l dC dI L kd tys f H.size g.2.2.2.1 q1_ mq1_ kq1_ g191_7_4_q1_ mg191_7_4_q1_ kg191_7_4_q1_ g191_7_5_q1_ mg191_7_5_q1_ kg191_7_5_q1_ w4_7_6_q1_ bw4_7_6_q1_ T_ hG_83 (6 : Int32) (0 : Int32) (g.fcts [9, 8, 7] rfl)) (cwV 2 hts (gV_ t_1203 t_1204 t_1205 t_191 t_1206) rfl rfl rfl (by decide +kernel) ⟨(Nat.le_of_ble_eq_true rfl), (Nat.le_of_ble_eq_true rfl)⟩) (pre3V g hK mq1_ kq1_ (by decide) (q := (RX7, TX7, 19)) rfl) rfl rfl hl.1 rfl (lv_room (Nat.le_of_ble_eq_true rfl)) dX0_closeParts_130 ⟨(Nat.le_of_ble_eq_true rfl), (Nat.le_of_ble_eq_true rfl)⟩) g hK (by decide) (by decide) (fx' := [(0, 11, a0_, .int y_81), (0, 10, a0_, .int x_76), (0, 8, a0_, .int y_67), (8, 6, q0_, .int 1201), (8, 8, q0_, .int x_48), (0, 4, a0_, .ref a_45), (0, 12, a0_, .int 0), (7, 5, q1_, .ref g191_7_5_q1_), (7, 4, q1_, .ref g191_7_4_q1_), (0, 5, a0_, .ref g76_0_5_a0_), (0, 3, a0_, .ref g76_0_3_a0_), (0, 0, a0_, .ref q0_), (0, 2, a0_, .ref q1_)]) rfl (fun fr_86 H locs hp hMr_86 g => ?_)
                                    obtain ⟨hG_87, x_88, h_89, hF_90⟩ := hp
                                    have g := g.more hF_90
                                    refine lv_goto (tgt := 191) hx hb dX0_closeParts_133 (by decide) ?_
                                    refine lv_iconst (v := 1) hx hb dX0_closeParts_191 (by decide) ?_
                                    refine lv_iload hx hb dX0_closeParts_192 (lv_at hl 2 rfl) ?_
                                    refine lv_if_eq (tgt := 202) hx hb dX0_closeParts_194 (by decide) (fun c_ => absurd c_ (by decide)) (fun c_ => ?_)
                                    refine lv_iload hx hb dX0_closeParts_197 (lv_at hl 0 rfl) ?_
                                    refine lv_goto (tgt := 211) hx hb dX0_closeParts_199 (by decide) ?_
                                    refine lv_iadd hx hb dX0_closeParts_211 ?_
                                    refine lv_topi (fun y_91 ey_91 => ?_)
                                    refine lv_istore (lv' := [(6, .int y_91), (2, .int 1), (5, .int 1), (4, .int x_69), (3, .int v4_3), (0, .ref a0_), (1, .int x1_)]) hx hb dX0_closeParts_212 hl (by decide) rfl (fun ls hl => ?_)
                                    refine lv_aload_n hx hb dX0_closeParts_214 rfl (lv_at hl 5 rfl) ?_
                                    refine lv_iload hx hb dX0_closeParts_215 (lv_at hl 0 rfl) ?_
                                    have go_ := g
                                    refine g_callv (va_runV (As := [.int y_91]) (rest := []) ⟨hx, hb, hml, hown, hts⟩ (r_X0_addWhole l dC dI L kd tys fr_86 H.size g.2.2.2.1 a0_ ma0_ ka0_ y_91) (cwV 1 hts (gV_ t_1211 t_1213 t_17 t_190 t_1214) rfl rfl rfl (by decide +kernel) ⟨(Nat.le_of_ble_eq_true rfl), (Nat.le_of_ble_eq_true rfl)⟩) (pre3V g hK ma0_ ka0_ (by decide) (q := (RX0, TX0, 14)) rfl) rfl rfl hl.1 rfl (lv_room (Nat.le_of_ble_eq_true rfl)) dX0_closeParts_217 ⟨(Nat.le_of_ble_eq_true rfl), (Nat.le_of_ble_eq_true rfl)⟩) g hK (by decide) (by decide) (fx' := [(7, 6, q1_, .int x_88), (0, 11, a0_, .int y_81), (0, 8, a0_, .int y_67), (8, 6, q0_, .int 1201), (8, 8, q0_, .int x_48), (0, 4, a0_, .ref a_45), (7, 5, q1_, .ref g191_7_5_q1_), (7, 4, q1_, .ref g191_7_4_q1_), (0, 5, a0_, .ref g76_0_5_a0_), (0, 3, a0_, .ref g76_0_3_a0_), (0, 0, a0_, .ref q0_), (0, 2, a0_, .ref q1_)]) rfl (fun fr_92 H locs hp hMr_92 g => ?_)
                                    obtain ⟨x_93, h_94, hF_95⟩ := hp
                                    have hG_96 := dOK.frame hMr_92 go_.2.2.2.1 mq1_ kq1_ (by decide) (by decide) hG_87
                                    have g := g.more hF_95
                                    refine lv_iload hx hb dX0_closeParts_220 (lv_at hl 0 rfl) ?_
                                    refine lv_bipush (v := 12) hx hb dX0_closeParts_222 (by decide) ?_
                                    refine lv_icmp_le (tgt := 245) hx hb dX0_closeParts_224 (by decide) (fun c_97 => ?_) (fun c_97 => ?_)
                                    · have fc_97 := le_f c_97
                                      have b_98 : bd (-2147483648) 12 y_91 := leL fc_97 (bdT y_91) kb_12 (by decide)
                                      obtain ⟨y_99, ey_99⟩ : ∃ z : Int32, z = v4_3 + 1 := ⟨_, rfl⟩
                                      refine lv_iinc (v := y_99) (lv' := [(3, .int y_99), (6, .int y_91), (2, .int 1), (5, .int 1), (4, .int x_69), (0, .ref a0_), (1, .int x1_)]) hx hb dX0_closeParts_245 hl (k := 4) rfl (by rw [ey_99]; rfl) (by decide) rfl (fun ls hl => ?_)
                                      have ty_99 := add_bd ey_99 b_60 kb_1 (by decide)
                                      have b_100 : bd 2 300 y_99 := add_rg ty_99 b_60 kb_1 (by decide)
                                      refine lv_goto (tgt := 4) hx hb dX0_closeParts_248 (by decide) ?_
                                      have hl9 := lv_sub hl [0, 1, 2, 3, 4, 5, 6] (by rfl : lv_pick [(3, .int y_99), (6, .int y_91), (2, .int 1), (5, .int 1), (4, .int x_69), (0, .ref a0_), (1, .int x1_)] [0, 1, 2, 3, 4, 5, 6] = [(3, .int y_99), (6, .int y_91), (2, .int 1), (5, .int 1), (4, .int x_69), (0, .ref a0_), (1, .int x1_)])
                                      have g9 := g.sub (fx' := [(8, 6, q0_, .int 1201), (8, 8, q0_, .int x_48), (0, 4, a0_, .ref a_45), (0, 12, a0_, .int 0), (0, 10, a0_, .int x_93), (7, 6, q1_, .int x_88), (7, 5, q1_, .ref g191_7_5_q1_), (7, 4, q1_, .ref g191_7_4_q1_), (0, 8, a0_, .int y_67), (0, 5, a0_, .ref g76_0_5_a0_), (0, 3, a0_, .ref g76_0_3_a0_), (0, 0, a0_, .ref q0_), (0, 2, a0_, .ref q1_)]) [5, 6, 7, 0, 1, 2, 8, 9, 4, 10, 11, 12, 13] rfl
                                      exact ih4  y_99 y_91 1 1 x_69 x_93 x_88 y_67 (bd_sub b_100 (by decide)) (bd_sub kb_1 (by decide)) (bd_sub kb_1 (by decide)) h_94 h_89 (bd_sub b_68 (by decide)) (by have h9_0 := b_100; unfold bd at h9_0; have h9_1 := b_68; unfold bd at h9_1; have h9_2 := b_71; unfold bd at h9_2; have h9_3 := b_98; unfold bd at h9_3; have h9_4 := bdT v4_4; unfold bd at h9_4; have h9_5 := bdT v4_6; unfold bd at h9_5; have h9_6 := bv4_2; unfold bd at h9_6; have h9_7 := bv4_3; unfold bd at h9_7; have h9_8 := bv4_5; unfold bd at h9_8; have h9_9 := bw4_0_10_a0_; unfold bd at h9_9; have h9_10 := bw4_0_8_a0_; unfold bd at h9_10; have h9_11 := bw4_7_6_q1_; unfold bd at h9_11; have h9_12 := h_89; unfold bd at h9_12; have h9_13 := h_94; unfold bd at h9_13; have h9_14 := kb_0; unfold bd at h9_14; have h9_15 := kb_1; unfold bd at h9_15; have h9_16 := kb_12; unfold bd at h9_16; have h9_17 := kb_300; unfold bd at h9_17; have h9_18 := kb_6; unfold bd at h9_18; have h9_19 := kb_7; unfold bd at h9_19; omega) _ _ _ _ g9 hG_96 hl9
                                    · have fc_97 := nle_f c_97
                                      have b_101 : bd 13 2147483647 y_91 := ltR fc_97 kb_12 (bdT y_91) (by decide)
                                      refine lv_aload_n hx hb dX0_closeParts_227 rfl (lv_at hl 5 rfl) ?_
                                      refine g_getk (C := RX0) (T := TX0) (N := 14) hx hb hts (mc_ inX0) hown hK g rfl 0 (by decide) rfl (hts _ (List.mem_cons_of_mem _ t_373)) (fun _ h9 => h9) 12 rfl dX0_closeParts_228 ?_
                                      refine lv_bipush (v := 7) hx hb dX0_closeParts_231 (by decide) ?_
                                      refine lv_aload_n hx hb dX0_closeParts_233 rfl (lv_at hl 5 rfl) ?_
                                      refine g_getk (C := RX0) (T := TX0) (N := 14) hx hb hts (mc_ inX0) hown hK g rfl 4 (by decide) rfl (hts _ (List.mem_cons_of_mem _ t_377)) (fun _ h9 => h9) 7 rfl dX0_closeParts_234 ?_
                                      refine lv_aload_n hx hb dX0_closeParts_237 rfl (lv_at hl 5 rfl) ?_
                                      refine g_getk (C := RX0) (T := TX0) (N := 14) hx hb hts (mc_ inX0) hown hK g rfl 8 (by decide) rfl (hts _ (List.mem_cons_of_mem _ t_381)) (fun _ h9 => h9) 4 rfl dX0_closeParts_238 ?_
                                      refine g_iald hx hb hK g ma_45 ka_45 (by decide) rfl (in_bd b_68 (by decide)) dX0_closeParts_241 (fun x_102 bx_102 cx_102 => ?_)
                                      have go_ := g
                                      refine g_callv (va_runV (As := [.int 7, .int x_102]) (rest := []) ⟨hx, hb, hml, hown, hts⟩ (r_X8_fail_2 l dC dI L kd tys fr_92 H.size g.2.2.2.1 q0_ mq0_ kq0_ 7 (bd_sub kb_7 (by decide)) x_102 x_48 h_49 (g.fcts [6] rfl)) (cwV 2 hts (gV_ t_1215 t_1107 t_1108 t_184 t_1109) rfl rfl rfl (by decide +kernel) ⟨(Nat.le_of_ble_eq_true rfl), (Nat.le_of_ble_eq_true rfl)⟩) (pre3V g hK mq0_ kq0_ (by decide) (q := (RX8, TX8, 10)) rfl) rfl rfl hl.1 rfl (lv_room (Nat.le_of_ble_eq_true rfl)) dX0_closeParts_242 ⟨(Nat.le_of_ble_eq_true rfl), (Nat.le_of_ble_eq_true rfl)⟩) g hK (by decide) (by decide) (fx' := [(0, 12, a0_, .int 0), (0, 10, a0_, .int x_93), (7, 6, q1_, .int x_88), (0, 11, a0_, .int y_81), (0, 8, a0_, .int y_67), (8, 8, q0_, .int x_48), (0, 4, a0_, .ref a_45), (7, 5, q1_, .ref g191_7_5_q1_), (7, 4, q1_, .ref g191_7_4_q1_), (0, 5, a0_, .ref g76_0_5_a0_), (0, 3, a0_, .ref g76_0_3_a0_), (0, 0, a0_, .ref q0_), (0, 2, a0_, .ref q1_)]) rfl (fun fr_103 H locs hp hMr_103 g => ?_)
                                      have hF_104 := hp
                                      have hG_105 := dOK.frame hMr_103 go_.2.2.2.1 mq1_ kq1_ (by decide) (by decide) hG_96
                                      have g := g.more hF_104
                                      obtain ⟨y_106, ey_106⟩ : ∃ z : Int32, z = v4_3 + 1 := ⟨_, rfl⟩
                                      refine lv_iinc (v := y_106) (lv' := [(3, .int y_106), (6, .int y_91), (2, .int 1), (5, .int 1), (4, .int x_69), (0, .ref a0_), (1, .int x1_)]) hx hb dX0_closeParts_245 hl (k := 4) rfl (by rw [ey_106]; rfl) (by decide) rfl (fun ls hl => ?_)
                                      have ty_106 := add_bd ey_106 b_60 kb_1 (by decide)
                                      have b_107 : bd 2 300 y_106 := add_rg ty_106 b_60 kb_1 (by decide)
                                      refine lv_goto (tgt := 4) hx hb dX0_closeParts_248 (by decide) ?_
                                      have hl9 := lv_sub hl [0, 1, 2, 3, 4, 5, 6] (by rfl : lv_pick [(3, .int y_106), (6, .int y_91), (2, .int 1), (5, .int 1), (4, .int x_69), (0, .ref a0_), (1, .int x1_)] [0, 1, 2, 3, 4, 5, 6] = [(3, .int y_106), (6, .int y_91), (2, .int 1), (5, .int 1), (4, .int x_69), (0, .ref a0_), (1, .int x1_)])
                                      have g9 := g.sub (fx' := [(8, 6, q0_, .int 1201), (8, 8, q0_, .int x_48), (0, 4, a0_, .ref a_45), (0, 12, a0_, .int 0), (0, 10, a0_, .int x_93), (7, 6, q1_, .int x_88), (7, 5, q1_, .ref g191_7_5_q1_), (7, 4, q1_, .ref g191_7_4_q1_), (0, 8, a0_, .int y_67), (0, 5, a0_, .ref g76_0_5_a0_), (0, 3, a0_, .ref g76_0_3_a0_), (0, 0, a0_, .ref q0_), (0, 2, a0_, .ref q1_)]) [0, 6, 7, 1, 2, 3, 8, 9, 5, 10, 11, 12, 13] rfl
                                      exact ih4  y_106 y_91 1 1 x_69 x_93 x_88 y_67 (bd_sub b_107 (by decide)) (bd_sub kb_1 (by decide)) (bd_sub kb_1 (by decide)) h_94 h_89 (bd_sub b_68 (by decide)) (by have h9_0 := b_101; unfold bd at h9_0; have h9_1 := b_107; unfold bd at h9_1; have h9_2 := b_68; unfold bd at h9_2; have h9_3 := b_71; unfold bd at h9_3; have h9_4 := bdT v4_4; unfold bd at h9_4; have h9_5 := bdT v4_6; unfold bd at h9_5; have h9_6 := bv4_2; unfold bd at h9_6; have h9_7 := bv4_3; unfold bd at h9_7; have h9_8 := bv4_5; unfold bd at h9_8; have h9_9 := bw4_0_10_a0_; unfold bd at h9_9; have h9_10 := bw4_0_8_a0_; unfold bd at h9_10; have h9_11 := bw4_7_6_q1_; unfold bd at h9_11; have h9_12 := h_89; unfold bd at h9_12; have h9_13 := h_94; unfold bd at h9_13; have h9_14 := kb_0; unfold bd at h9_14; have h9_15 := kb_1; unfold bd at h9_15; have h9_16 := kb_12; unfold bd at h9_16; have h9_17 := kb_300; unfold bd at h9_17; have h9_18 := kb_6; unfold bd at h9_18; have h9_19 := kb_7; unfold bd at h9_19; omega) _ _ _ _ g9 hG_105 hl9
                                · have fc_70 := neq_f c_70
                                  refine lv_iload hx hb dX0_closeParts_42 (lv_at hl 0 rfl) ?_
                                  refine lv_bipush (v := 7) hx hb dX0_closeParts_44 (by decide) ?_
                                  refine lv_icmp_ne (tgt := 53) hx hb dX0_closeParts_46 (by decide) (fun c_108 => ?_) (fun c_108 => ?_)
                                  · have fc_108 := neq_f c_108
                                    refine lv_iconst (v := 0) hx hb dX0_closeParts_53 (by decide) ?_
                                    refine lv_istore (lv' := [(5, .int 0), (4, .int x_69), (3, .int v4_3), (6, .int v4_6), (2, .int v4_2), (0, .ref a0_), (1, .int x1_)]) hx hb dX0_closeParts_54 hl (by decide) rfl (fun ls hl => ?_)
                                    refine lv_iload hx hb dX0_closeParts_56 (lv_at hl 0 rfl) ?_
                                    refine lv_if_ne (tgt := 70) hx hb dX0_closeParts_58 (by decide) (fun c_ => absurd c_ (by decide)) (fun c_ => ?_)
                                    refine lv_iload hx hb dX0_closeParts_61 (lv_at hl 1 rfl) ?_
                                    have go_ := g
                                    refine g_calli (va_runS (As := [.int x_69]) (rest := []) ⟨hx, hb, hml, hown, hts⟩ (r_X0_levelOf l dC dI L kd tys f H.size g.2.2.2.1 x_69) (va_cwS 1 hts (gS_ t_1191 t_1192 t_190 t_1193) rfl rfl rfl (by decide +kernel) ⟨(Nat.le_of_ble_eq_true rfl), (Nat.le_of_ble_eq_true rfl)⟩) (pre3S g hK) rfl rfl hl.1 rfl (lv_room (Nat.le_of_ble_eq_true rfl)) dX0_closeParts_63 ⟨(Nat.le_of_ble_eq_true rfl), (Nat.le_of_ble_eq_true rfl)⟩) g hK (by decide) (by decide) (fx' := [(8, 6, q0_, .int 1201), (8, 8, q0_, .int x_48), (0, 4, a0_, .ref a_45), (0, 12, a0_, .int 0), (0, 10, a0_, .int w4_0_10_a0_), (7, 6, q1_, .int w4_7_6_q1_), (7, 5, q1_, .ref g191_7_5_q1_), (7, 4, q1_, .ref g191_7_4_q1_), (0, 8, a0_, .int w4_0_8_a0_), (0, 5, a0_, .ref g76_0_5_a0_), (0, 3, a0_, .ref g76_0_3_a0_), (0, 0, a0_, .ref q0_), (0, 2, a0_, .ref q1_)]) rfl (fun r_109 fr_109 H locs hp hMr_109 g => ?_)
                                    rcases hp with ⟨h_110, -⟩ | ⟨h_111, h_112, -⟩
                                    · have hG_113 := dOK.frame hMr_109 go_.2.2.2.1 mq1_ kq1_ (by decide) (by decide) hG4_d_q1_
                                      obtain rfl : r_109 = 0 := h_110
                                      refine lv_iload_n hx hb dX0_closeParts_66 rfl (lv_at hl 6 rfl) ?_
                                      refine lv_icmp_lt (tgt := 74) hx hb dX0_closeParts_67 (by decide) (fun c_114 => ?_) (fun c_114 => ?_)
                                      · have fc_114 := lt_f c_114
                                        have b_115 : bd 1 2147483647 x1_ := ltR fc_114 kb_0 (bdT x1_) (by decide)
                                        refine lv_iconst (v := 0) hx hb dX0_closeParts_74 (by decide) ?_
                                        refine lv_istore_n (lv' := [(2, .int 0), (5, .int 0), (4, .int x_69), (3, .int v4_3), (6, .int v4_6), (0, .ref a0_), (1, .int x1_)]) hx hb dX0_closeParts_75 rfl hl (by decide) rfl (fun ls hl => ?_)
                                        refine lv_iload_n hx hb dX0_closeParts_76 rfl (lv_at hl 0 rfl) ?_
                                        refine lv_if_eq (tgt := 245) hx hb dX0_closeParts_77 (by decide) (fun c_ => ?_) (fun c_ => absurd (by decide) c_)
                                        obtain ⟨y_116, ey_116⟩ : ∃ z : Int32, z = v4_3 + 1 := ⟨_, rfl⟩
                                        refine lv_iinc (v := y_116) (lv' := [(3, .int y_116), (2, .int 0), (5, .int 0), (4, .int x_69), (6, .int v4_6), (0, .ref a0_), (1, .int x1_)]) hx hb dX0_closeParts_245 hl (k := 3) rfl (by rw [ey_116]; rfl) (by decide) rfl (fun ls hl => ?_)
                                        have ty_116 := add_bd ey_116 b_60 kb_1 (by decide)
                                        have b_117 : bd 2 300 y_116 := add_rg ty_116 b_60 kb_1 (by decide)
                                        refine lv_goto (tgt := 4) hx hb dX0_closeParts_248 (by decide) ?_
                                        have hl9 := lv_sub hl [0, 4, 1, 2, 3, 5, 6] (by rfl : lv_pick [(3, .int y_116), (2, .int 0), (5, .int 0), (4, .int x_69), (6, .int v4_6), (0, .ref a0_), (1, .int x1_)] [0, 4, 1, 2, 3, 5, 6] = [(3, .int y_116), (6, .int v4_6), (2, .int 0), (5, .int 0), (4, .int x_69), (0, .ref a0_), (1, .int x1_)])
                                        have g9 := g.sub (fx' := [(8, 6, q0_, .int 1201), (8, 8, q0_, .int x_48), (0, 4, a0_, .ref a_45), (0, 12, a0_, .int 0), (0, 10, a0_, .int w4_0_10_a0_), (7, 6, q1_, .int w4_7_6_q1_), (7, 5, q1_, .ref g191_7_5_q1_), (7, 4, q1_, .ref g191_7_4_q1_), (0, 8, a0_, .int w4_0_8_a0_), (0, 5, a0_, .ref g76_0_5_a0_), (0, 3, a0_, .ref g76_0_3_a0_), (0, 0, a0_, .ref q0_), (0, 2, a0_, .ref q1_)]) [0, 1, 2, 3, 4, 5, 6, 7, 8, 9, 10, 11, 12] rfl
                                        exact ih4  y_116 v4_6 0 0 x_69 w4_0_10_a0_ w4_7_6_q1_ w4_0_8_a0_ (bd_sub b_117 (by decide)) (bd_sub kb_0 (by decide)) (bd_sub kb_0 (by decide)) bw4_0_10_a0_ bw4_7_6_q1_ (bd_sub b_66 (by decide)) (by have h9_0 := b_117; unfold bd at h9_0; have h9_1 := b_66; unfold bd at h9_1; have h9_2 := bdT v4_4; unfold bd at h9_2; have h9_3 := bdT v4_6; unfold bd at h9_3; have h9_4 := bdT x_69; unfold bd at h9_4; have h9_5 := bv4_2; unfold bd at h9_5; have h9_6 := bv4_3; unfold bd at h9_6; have h9_7 := bv4_5; unfold bd at h9_7; have h9_8 := bw4_0_10_a0_; unfold bd at h9_8; have h9_9 := bw4_0_8_a0_; unfold bd at h9_9; have h9_10 := bw4_7_6_q1_; unfold bd at h9_10; have h9_11 := kb_0; unfold bd at h9_11; have h9_12 := kb_1; unfold bd at h9_12; have h9_13 := kb_12; unfold bd at h9_13; have h9_14 := kb_300; unfold bd at h9_14; have h9_15 := kb_6; unfold bd at h9_15; have h9_16 := kb_7; unfold bd at h9_16; omega) _ _ _ _ g9 hG_113 hl9
                                      · have fc_114 := nlt_f c_114
                                        have b_118 : bd (-2147483648) 0 x1_ := leL fc_114 (bdT x1_) kb_0 (by decide)
                                        refine lv_iconst (v := 1) hx hb dX0_closeParts_70 (by decide) ?_
                                        refine lv_goto (tgt := 75) hx hb dX0_closeParts_71 (by decide) ?_
                                        refine lv_istore_n (lv' := [(2, .int 1), (5, .int 0), (4, .int x_69), (3, .int v4_3), (6, .int v4_6), (0, .ref a0_), (1, .int x1_)]) hx hb dX0_closeParts_75 rfl hl (by decide) rfl (fun ls hl => ?_)
                                        refine lv_iload_n hx hb dX0_closeParts_76 rfl (lv_at hl 0 rfl) ?_
                                        refine lv_if_eq (tgt := 245) hx hb dX0_closeParts_77 (by decide) (fun c_ => absurd c_ (by decide)) (fun c_ => ?_)
                                        refine lv_aload_n hx hb dX0_closeParts_80 rfl (lv_at hl 5 rfl) ?_
                                        refine lv_dup hx hb dX0_closeParts_81 rfl ?_
                                        refine g_getk (C := RX0) (T := TX0) (N := 14) hx hb hts (mc_ inX0) hown hK g rfl 8 (by decide) rfl (hts _ (List.mem_cons_of_mem _ t_381)) (fun _ h9 => h9) 8 rfl dX0_closeParts_82 ?_
                                        refine lv_iconst (v := 1) hx hb dX0_closeParts_85 (by decide) ?_
                                        refine lv_isub hx hb dX0_closeParts_86 ?_
                                        refine lv_topi (fun y_119 ey_119 => ?_)
                                        obtain rfl : y_67 = y_119 := ey_67.trans ey_119.symm
                                        have go_ := g
                                        refine g_put (C := RX0) (T := TX0) (N := 14) hx hb hts (mc_ inX0) tyX0 tyX0_ok nmX0 hown hK g ma0_ ka0_ (by decide) rfl 8 (by decide) (hts _ (List.mem_cons_of_mem _ t_381)) (fun _ h9 => h9) rfl rfl (okV_i (bd_sub b_68 (by decide))) rfl rfl (by decide) (Or.inr (Or.inl (by decide))) (fx' := [(8, 6, q0_, .int 1201), (8, 8, q0_, .int x_48), (0, 4, a0_, .ref a_45), (0, 12, a0_, .int 0), (0, 10, a0_, .int w4_0_10_a0_), (7, 6, q1_, .int w4_7_6_q1_), (7, 5, q1_, .ref g191_7_5_q1_), (7, 4, q1_, .ref g191_7_4_q1_), (0, 5, a0_, .ref g76_0_5_a0_), (0, 3, a0_, .ref g76_0_3_a0_), (0, 0, a0_, .ref q0_), (0, 2, a0_, .ref q1_)]) rfl dX0_closeParts_87 (fun f H locs hM_120 g => ?_)
                                        have hG_121 := dOK.frame hM_120 go_.2.2.2.1 mq1_ kq1_ (by decide) (by decide) hG_113
                                        refine lv_aload_n hx hb dX0_closeParts_90 rfl (lv_at hl 5 rfl) ?_
                                        have go_ := g
                                        refine g_calli (va_runV (As := []) (rest := []) ⟨hx, hb, hml, hown, hts⟩ (r_X0_takeHeight l dC dI L kd tys f H.size g.2.2.2.1 a0_ ma0_ ka0_) (cwV 0 hts (gV_ t_1199 t_1201 t_16 t_190 t_1202) rfl rfl rfl (by decide +kernel) ⟨(Nat.le_of_ble_eq_true rfl), (Nat.le_of_ble_eq_true rfl)⟩) (pre3V g hK ma0_ ka0_ (by decide) (q := (RX0, TX0, 14)) rfl) rfl rfl hl.1 rfl (lv_room (Nat.le_of_ble_eq_true rfl)) dX0_closeParts_91 ⟨(Nat.le_of_ble_eq_true rfl), (Nat.le_of_ble_eq_true rfl)⟩) g hK (by decide) (by decide) (fx' := [(0, 8, a0_, .int y_67), (8, 6, q0_, .int 1201), (8, 8, q0_, .int x_48), (0, 4, a0_, .ref a_45), (0, 12, a0_, .int 0), (7, 6, q1_, .int w4_7_6_q1_), (7, 5, q1_, .ref g191_7_5_q1_), (7, 4, q1_, .ref g191_7_4_q1_), (0, 5, a0_, .ref g76_0_5_a0_), (0, 3, a0_, .ref g76_0_3_a0_), (0, 0, a0_, .ref q0_), (0, 2, a0_, .ref q1_)]) rfl (fun r_122 fr_122 H locs hp hMr_122 g => ?_)
                                        obtain ⟨x_123, h_124, hF_125⟩ := hp
                                        have hG_126 := dOK.frame hMr_122 go_.2.2.2.1 mq1_ kq1_ (by decide) (by decide) hG_121
                                        have g := g.more hF_125
                                        refine lv_istore (lv' := [(6, .int r_122), (2, .int 1), (5, .int 0), (4, .int x_69), (3, .int v4_3), (0, .ref a0_), (1, .int x1_)]) hx hb dX0_closeParts_94 hl (by decide) rfl (fun ls hl => ?_)
                                        refine lv_iload hx hb dX0_closeParts_96 (lv_at hl 2 rfl) ?_
                                        refine lv_if_eq (tgt := 136) hx hb dX0_closeParts_98 (by decide) (fun c_ => ?_) (fun c_ => absurd (by decide) c_)
                                        refine lv_iload hx hb dX0_closeParts_136 (lv_at hl 3 rfl) ?_
                                        refine lv_sipush (v := 205) hx hb dX0_closeParts_138 (by decide) ?_
                                        have kb_205 : bd 205 205 (205 : Int32) := ⟨by decide, by decide⟩
                                        refine lv_icmp_eq (tgt := 152) hx hb dX0_closeParts_141 (by decide) (fun c_127 => ?_) (fun c_127 => ?_)
                                        · have fc_127 := eq_f c_127
                                          have b_128 : bd 205 205 x_69 := eqX fc_127 (bdT x_69) kb_205 (by decide)
                                          refine lv_aload_n hx hb dX0_closeParts_152 rfl (lv_at hl 5 rfl) ?_
                                          refine g_getk (C := RX0) (T := TX0) (N := 14) hx hb hts (mc_ inX0) hown hK g rfl 2 (by decide) rfl (hts _ (List.mem_cons_of_mem _ t_375)) (fun _ h9 => h9) 12 rfl dX0_closeParts_153 ?_
                                          refine lv_bipush (v := 8) hx hb dX0_closeParts_156 (by decide) ?_
                                          refine lv_iconst (v := 0) hx hb dX0_closeParts_158 (by decide) ?_
                                          have go_ := g
                                          refine g_callv (va_runV (As := [.int 8, .int 0]) (rest := []) ⟨hx, hb, hml, hown, hts⟩ (r_X7_emitF l dC dI L kd tys fr_122 H.size g.2.2.2.1 q1_ mq1_ kq1_ g191_7_4_q1_ mg191_7_4_q1_ kg191_7_4_q1_ g191_7_5_q1_ mg191_7_5_q1_ kg191_7_5_q1_ w4_7_6_q1_ bw4_7_6_q1_ T_ hG_126 (8 : Int32) (0 : Int32) (g.fcts [8, 7, 6] rfl)) (cwV 2 hts (gV_ t_1203 t_1204 t_1205 t_191 t_1206) rfl rfl rfl (by decide +kernel) ⟨(Nat.le_of_ble_eq_true rfl), (Nat.le_of_ble_eq_true rfl)⟩) (pre3V g hK mq1_ kq1_ (by decide) (q := (RX7, TX7, 19)) rfl) rfl rfl hl.1 rfl (lv_room (Nat.le_of_ble_eq_true rfl)) dX0_closeParts_159 ⟨(Nat.le_of_ble_eq_true rfl), (Nat.le_of_ble_eq_true rfl)⟩) g hK (by decide) (by decide) (fx' := [(0, 10, a0_, .int x_123), (0, 8, a0_, .int y_67), (8, 6, q0_, .int 1201), (8, 8, q0_, .int x_48), (0, 4, a0_, .ref a_45), (0, 12, a0_, .int 0), (7, 5, q1_, .ref g191_7_5_q1_), (7, 4, q1_, .ref g191_7_4_q1_), (0, 5, a0_, .ref g76_0_5_a0_), (0, 3, a0_, .ref g76_0_3_a0_), (0, 0, a0_, .ref q0_), (0, 2, a0_, .ref q1_)]) rfl (fun fr_129 H locs hp hMr_129 g => ?_)
                                          obtain ⟨hG_130, x_131, h_132, hF_133⟩ := hp
                                          have g := g.more hF_133
                                          refine lv_aload_n hx hb dX0_closeParts_162 rfl (lv_at hl 5 rfl) ?_
                                          refine g_getk (C := RX0) (T := TX0) (N := 14) hx hb hts (mc_ inX0) hown hK g rfl 2 (by decide) rfl (hts _ (List.mem_cons_of_mem _ t_375)) (fun _ h9 => h9) 12 rfl dX0_closeParts_163 ?_
                                          refine lv_aload_n hx hb dX0_closeParts_166 rfl (lv_at hl 5 rfl) ?_
                                          refine g_getk (C := RX0) (T := TX0) (N := 14) hx hb hts (mc_ inX0) hown hK g rfl 5 (by decide) rfl (hts _ (List.mem_cons_of_mem _ t_378)) (fun _ h9 => h9) 9 rfl dX0_closeParts_167 ?_
                                          refine lv_aload_n hx hb dX0_closeParts_170 rfl (lv_at hl 5 rfl) ?_
                                          refine g_getk (C := RX0) (T := TX0) (N := 14) hx hb hts (mc_ inX0) hown hK g rfl 8 (by decide) rfl (hts _ (List.mem_cons_of_mem _ t_381)) (fun _ h9 => h9) 2 rfl dX0_closeParts_171 ?_
                                          refine g_iald hx hb hK g mg76_0_5_a0_ kg76_0_5_a0_ (by decide) rfl (in_bd b_68 (by decide)) dX0_closeParts_174 (fun x_134 bx_134 cx_134 => ?_)
                                          have go_ := g
                                          refine g_callv (va_runV (As := [.int x_134]) (rest := []) ⟨hx, hb, hml, hown, hts⟩ (r_X7_leadHereF l dC dI L kd tys fr_129 H.size g.2.2.2.1 q1_ mq1_ kq1_ g191_7_4_q1_ mg191_7_4_q1_ kg191_7_4_q1_ g191_7_5_q1_ mg191_7_5_q1_ kg191_7_5_q1_ x_131 h_132 T_ hG_130 x_134 (g.fcts [8, 7, 0] rfl)) (cwV 1 hts (gV_ t_1207 t_1208 t_1209 t_191 t_1210) rfl rfl rfl (by decide +kernel) ⟨(Nat.le_of_ble_eq_true rfl), (Nat.le_of_ble_eq_true rfl)⟩) (pre3V g hK mq1_ kq1_ (by decide) (q := (RX7, TX7, 19)) rfl) rfl rfl hl.1 rfl (lv_room (Nat.le_of_ble_eq_true rfl)) dX0_closeParts_175 ⟨(Nat.le_of_ble_eq_true rfl), (Nat.le_of_ble_eq_true rfl)⟩) g hK (by decide) (by decide) (fx' := [(7, 6, q1_, .int x_131), (0, 10, a0_, .int x_123), (0, 8, a0_, .int y_67), (8, 6, q0_, .int 1201), (8, 8, q0_, .int x_48), (0, 4, a0_, .ref a_45), (0, 12, a0_, .int 0), (7, 5, q1_, .ref g191_7_5_q1_), (7, 4, q1_, .ref g191_7_4_q1_), (0, 5, a0_, .ref g76_0_5_a0_), (0, 3, a0_, .ref g76_0_3_a0_), (0, 0, a0_, .ref q0_), (0, 2, a0_, .ref q1_)]) rfl (fun fr_135 H locs hp hMr_135 g => ?_)
                                          obtain ⟨hG_136, x_137, h_138, hF_139⟩ := hp
                                          have g := g.more hF_139
                                          have e_140 := fx_same g 1 0 rfl rfl
                                          have g := g.sub (fx' := [(7, 6, q1_, .int x_131), (0, 10, a0_, .int x_123), (0, 8, a0_, .int y_67), (8, 6, q0_, .int 1201), (8, 8, q0_, .int x_48), (0, 4, a0_, .ref a_45), (0, 12, a0_, .int 0), (7, 5, q1_, .ref g191_7_5_q1_), (7, 4, q1_, .ref g191_7_4_q1_), (0, 5, a0_, .ref g76_0_5_a0_), (0, 3, a0_, .ref g76_0_3_a0_), (0, 0, a0_, .ref q0_), (0, 2, a0_, .ref q1_)]) [1, 2, 3, 4, 5, 6, 7, 8, 9, 10, 11, 12, 13] rfl
                                          refine lv_goto (tgt := 191) hx hb dX0_closeParts_178 (by decide) ?_
                                          refine lv_iconst (v := 1) hx hb dX0_closeParts_191 (by decide) ?_
                                          refine lv_iload hx hb dX0_closeParts_192 (lv_at hl 2 rfl) ?_
                                          refine lv_if_eq (tgt := 202) hx hb dX0_closeParts_194 (by decide) (fun c_ => ?_) (fun c_ => absurd (by decide) c_)
                                          refine lv_iload hx hb dX0_closeParts_202 (lv_at hl 0 rfl) ?_
                                          refine lv_aload_n hx hb dX0_closeParts_204 rfl (lv_at hl 5 rfl) ?_
                                          have go_ := g
                                          refine g_calli (va_runV (As := []) (rest := [.int r_122, .int 1]) ⟨hx, hb, hml, hown, hts⟩ (r_X0_takeHeight l dC dI L kd tys fr_135 H.size g.2.2.2.1 a0_ ma0_ ka0_) (cwV 0 hts (gV_ t_1199 t_1201 t_16 t_190 t_1202) rfl rfl rfl (by decide +kernel) ⟨(Nat.le_of_ble_eq_true rfl), (Nat.le_of_ble_eq_true rfl)⟩) (pre3V g hK ma0_ ka0_ (by decide) (q := (RX0, TX0, 14)) rfl) rfl rfl hl.1 rfl (lv_room (Nat.le_of_ble_eq_true rfl)) dX0_closeParts_205 ⟨(Nat.le_of_ble_eq_true rfl), (Nat.le_of_ble_eq_true rfl)⟩) g hK (by decide) (by decide) (fx' := [(7, 6, q1_, .int x_131), (0, 8, a0_, .int y_67), (8, 6, q0_, .int 1201), (8, 8, q0_, .int x_48), (0, 4, a0_, .ref a_45), (0, 12, a0_, .int 0), (7, 5, q1_, .ref g191_7_5_q1_), (7, 4, q1_, .ref g191_7_4_q1_), (0, 5, a0_, .ref g76_0_5_a0_), (0, 3, a0_, .ref g76_0_3_a0_), (0, 0, a0_, .ref q0_), (0, 2, a0_, .ref q1_)]) rfl (fun r_141 fr_141 H locs hp hMr_141 g => ?_)
                                          obtain ⟨x_142, h_143, hF_144⟩ := hp
                                          have hG_145 := dOK.frame hMr_141 go_.2.2.2.1 mq1_ kq1_ (by decide) (by decide) hG_136
                                          have g := g.more hF_144
                                          refine va_mmax hx hb (hml.trans hl.1.symm) hown (hts _ (List.mem_cons_of_mem _ t_1194)) (hts _ (List.mem_cons_of_mem _ t_1041)) (hts _ (List.mem_cons_of_mem _ t_204)) (hts _ (List.mem_cons_of_mem _ t_1042)) (Nat.le_of_ble_eq_true rfl) (Nat.le_of_ble_eq_true rfl) (Nat.le_of_ble_eq_true rfl) (Nat.le_of_ble_eq_true rfl) dX0_closeParts_208 ?_
                                          refine lv_topi (fun y_146 ey_146 => ?_)
                                          have ty_146 : y_146.toInt = max r_122.toInt r_141.toInt := by rw [ey_146]; exact mmax_ok _ _
                                          have b_147 : bd (-2147483648) 2147483647 y_146 := max_rg ty_146 (bdT r_122) (bdT r_141) (by decide)
                                          refine lv_iadd hx hb dX0_closeParts_211 ?_
                                          refine lv_topi (fun y_148 ey_148 => ?_)
                                          refine lv_istore (lv' := [(6, .int y_148), (2, .int 1), (5, .int 0), (4, .int x_69), (3, .int v4_3), (0, .ref a0_), (1, .int x1_)]) hx hb dX0_closeParts_212 hl (by decide) rfl (fun ls hl => ?_)
                                          refine lv_aload_n hx hb dX0_closeParts_214 rfl (lv_at hl 5 rfl) ?_
                                          refine lv_iload hx hb dX0_closeParts_215 (lv_at hl 0 rfl) ?_
                                          have go_ := g
                                          refine g_callv (va_runV (As := [.int y_148]) (rest := []) ⟨hx, hb, hml, hown, hts⟩ (r_X0_addWhole l dC dI L kd tys fr_141 H.size g.2.2.2.1 a0_ ma0_ ka0_ y_148) (cwV 1 hts (gV_ t_1211 t_1213 t_17 t_190 t_1214) rfl rfl rfl (by decide +kernel) ⟨(Nat.le_of_ble_eq_true rfl), (Nat.le_of_ble_eq_true rfl)⟩) (pre3V g hK ma0_ ka0_ (by decide) (q := (RX0, TX0, 14)) rfl) rfl rfl hl.1 rfl (lv_room (Nat.le_of_ble_eq_true rfl)) dX0_closeParts_217 ⟨(Nat.le_of_ble_eq_true rfl), (Nat.le_of_ble_eq_true rfl)⟩) g hK (by decide) (by decide) (fx' := [(7, 6, q1_, .int x_131), (0, 8, a0_, .int y_67), (8, 6, q0_, .int 1201), (8, 8, q0_, .int x_48), (0, 4, a0_, .ref a_45), (7, 5, q1_, .ref g191_7_5_q1_), (7, 4, q1_, .ref g191_7_4_q1_), (0, 5, a0_, .ref g76_0_5_a0_), (0, 3, a0_, .ref g76_0_3_a0_), (0, 0, a0_, .ref q0_), (0, 2, a0_, .ref q1_)]) rfl (fun fr_149 H locs hp hMr_149 g => ?_)
                                          obtain ⟨x_150, h_151, hF_152⟩ := hp
                                          have hG_153 := dOK.frame hMr_149 go_.2.2.2.1 mq1_ kq1_ (by decide) (by decide) hG_145
                                          have g := g.more hF_152
                                          refine lv_iload hx hb dX0_closeParts_220 (lv_at hl 0 rfl) ?_
                                          refine lv_bipush (v := 12) hx hb dX0_closeParts_222 (by decide) ?_
                                          refine lv_icmp_le (tgt := 245) hx hb dX0_closeParts_224 (by decide) (fun c_154 => ?_) (fun c_154 => ?_)
                                          · have fc_154 := le_f c_154
                                            have b_155 : bd (-2147483648) 12 y_148 := leL fc_154 (bdT y_148) kb_12 (by decide)
                                            obtain ⟨y_156, ey_156⟩ : ∃ z : Int32, z = v4_3 + 1 := ⟨_, rfl⟩
                                            refine lv_iinc (v := y_156) (lv' := [(3, .int y_156), (6, .int y_148), (2, .int 1), (5, .int 0), (4, .int x_69), (0, .ref a0_), (1, .int x1_)]) hx hb dX0_closeParts_245 hl (k := 4) rfl (by rw [ey_156]; rfl) (by decide) rfl (fun ls hl => ?_)
                                            have ty_156 := add_bd ey_156 b_60 kb_1 (by decide)
                                            have b_157 : bd 2 300 y_156 := add_rg ty_156 b_60 kb_1 (by decide)
                                            refine lv_goto (tgt := 4) hx hb dX0_closeParts_248 (by decide) ?_
                                            have hl9 := lv_sub hl [0, 1, 2, 3, 4, 5, 6] (by rfl : lv_pick [(3, .int y_156), (6, .int y_148), (2, .int 1), (5, .int 0), (4, .int x_69), (0, .ref a0_), (1, .int x1_)] [0, 1, 2, 3, 4, 5, 6] = [(3, .int y_156), (6, .int y_148), (2, .int 1), (5, .int 0), (4, .int x_69), (0, .ref a0_), (1, .int x1_)])
                                            have g9 := g.sub (fx' := [(8, 6, q0_, .int 1201), (8, 8, q0_, .int x_48), (0, 4, a0_, .ref a_45), (0, 12, a0_, .int 0), (0, 10, a0_, .int x_150), (7, 6, q1_, .int x_131), (7, 5, q1_, .ref g191_7_5_q1_), (7, 4, q1_, .ref g191_7_4_q1_), (0, 8, a0_, .int y_67), (0, 5, a0_, .ref g76_0_5_a0_), (0, 3, a0_, .ref g76_0_3_a0_), (0, 0, a0_, .ref q0_), (0, 2, a0_, .ref q1_)]) [4, 5, 6, 0, 1, 2, 7, 8, 3, 9, 10, 11, 12] rfl
                                            exact ih4  y_156 y_148 1 0 x_69 x_150 x_131 y_67 (bd_sub b_157 (by decide)) (bd_sub kb_1 (by decide)) (bd_sub kb_0 (by decide)) h_151 h_132 (bd_sub b_68 (by decide)) (by have h9_0 := b_128; unfold bd at h9_0; have h9_1 := b_155; unfold bd at h9_1; have h9_2 := b_157; unfold bd at h9_2; have h9_3 := b_68; unfold bd at h9_3; have h9_4 := bdT v4_4; unfold bd at h9_4; have h9_5 := bdT v4_6; unfold bd at h9_5; have h9_6 := bv4_2; unfold bd at h9_6; have h9_7 := bv4_3; unfold bd at h9_7; have h9_8 := bv4_5; unfold bd at h9_8; have h9_9 := bw4_0_10_a0_; unfold bd at h9_9; have h9_10 := bw4_0_8_a0_; unfold bd at h9_10; have h9_11 := bw4_7_6_q1_; unfold bd at h9_11; have h9_12 := h_132; unfold bd at h9_12; have h9_13 := h_151; unfold bd at h9_13; have h9_14 := kb_0; unfold bd at h9_14; have h9_15 := kb_1; unfold bd at h9_15; have h9_16 := kb_12; unfold bd at h9_16; have h9_17 := kb_205; unfold bd at h9_17; have h9_18 := kb_300; unfold bd at h9_18; have h9_19 := kb_6; unfold bd at h9_19; have h9_20 := kb_7; unfold bd at h9_20; omega) _ _ _ _ g9 hG_153 hl9
                                          · have fc_154 := nle_f c_154
                                            have b_158 : bd 13 2147483647 y_148 := ltR fc_154 kb_12 (bdT y_148) (by decide)
                                            refine lv_aload_n hx hb dX0_closeParts_227 rfl (lv_at hl 5 rfl) ?_
                                            refine g_getk (C := RX0) (T := TX0) (N := 14) hx hb hts (mc_ inX0) hown hK g rfl 0 (by decide) rfl (hts _ (List.mem_cons_of_mem _ t_373)) (fun _ h9 => h9) 11 rfl dX0_closeParts_228 ?_
                                            refine lv_bipush (v := 7) hx hb dX0_closeParts_231 (by decide) ?_
                                            refine lv_aload_n hx hb dX0_closeParts_233 rfl (lv_at hl 5 rfl) ?_
                                            refine g_getk (C := RX0) (T := TX0) (N := 14) hx hb hts (mc_ inX0) hown hK g rfl 4 (by decide) rfl (hts _ (List.mem_cons_of_mem _ t_377)) (fun _ h9 => h9) 6 rfl dX0_closeParts_234 ?_
                                            refine lv_aload_n hx hb dX0_closeParts_237 rfl (lv_at hl 5 rfl) ?_
                                            refine g_getk (C := RX0) (T := TX0) (N := 14) hx hb hts (mc_ inX0) hown hK g rfl 8 (by decide) rfl (hts _ (List.mem_cons_of_mem _ t_381)) (fun _ h9 => h9) 3 rfl dX0_closeParts_238 ?_
                                            refine g_iald hx hb hK g ma_45 ka_45 (by decide) rfl (in_bd b_68 (by decide)) dX0_closeParts_241 (fun x_159 bx_159 cx_159 => ?_)
                                            have go_ := g
                                            refine g_callv (va_runV (As := [.int 7, .int x_159]) (rest := []) ⟨hx, hb, hml, hown, hts⟩ (r_X8_fail_2 l dC dI L kd tys fr_149 H.size g.2.2.2.1 q0_ mq0_ kq0_ 7 (bd_sub kb_7 (by decide)) x_159 x_48 h_49 (g.fcts [5] rfl)) (cwV 2 hts (gV_ t_1215 t_1107 t_1108 t_184 t_1109) rfl rfl rfl (by decide +kernel) ⟨(Nat.le_of_ble_eq_true rfl), (Nat.le_of_ble_eq_true rfl)⟩) (pre3V g hK mq0_ kq0_ (by decide) (q := (RX8, TX8, 10)) rfl) rfl rfl hl.1 rfl (lv_room (Nat.le_of_ble_eq_true rfl)) dX0_closeParts_242 ⟨(Nat.le_of_ble_eq_true rfl), (Nat.le_of_ble_eq_true rfl)⟩) g hK (by decide) (by decide) (fx' := [(0, 12, a0_, .int 0), (0, 10, a0_, .int x_150), (7, 6, q1_, .int x_131), (0, 8, a0_, .int y_67), (8, 8, q0_, .int x_48), (0, 4, a0_, .ref a_45), (7, 5, q1_, .ref g191_7_5_q1_), (7, 4, q1_, .ref g191_7_4_q1_), (0, 5, a0_, .ref g76_0_5_a0_), (0, 3, a0_, .ref g76_0_3_a0_), (0, 0, a0_, .ref q0_), (0, 2, a0_, .ref q1_)]) rfl (fun fr_160 H locs hp hMr_160 g => ?_)
                                            have hF_161 := hp
                                            have hG_162 := dOK.frame hMr_160 go_.2.2.2.1 mq1_ kq1_ (by decide) (by decide) hG_153
                                            have g := g.more hF_161
                                            obtain ⟨y_163, ey_163⟩ : ∃ z : Int32, z = v4_3 + 1 := ⟨_, rfl⟩
                                            refine lv_iinc (v := y_163) (lv' := [(3, .int y_163), (6, .int y_148), (2, .int 1), (5, .int 0), (4, .int x_69), (0, .ref a0_), (1, .int x1_)]) hx hb dX0_closeParts_245 hl (k := 4) rfl (by rw [ey_163]; rfl) (by decide) rfl (fun ls hl => ?_)
                                            have ty_163 := add_bd ey_163 b_60 kb_1 (by decide)
                                            have b_164 : bd 2 300 y_163 := add_rg ty_163 b_60 kb_1 (by decide)
                                            refine lv_goto (tgt := 4) hx hb dX0_closeParts_248 (by decide) ?_
                                            have hl9 := lv_sub hl [0, 1, 2, 3, 4, 5, 6] (by rfl : lv_pick [(3, .int y_163), (6, .int y_148), (2, .int 1), (5, .int 0), (4, .int x_69), (0, .ref a0_), (1, .int x1_)] [0, 1, 2, 3, 4, 5, 6] = [(3, .int y_163), (6, .int y_148), (2, .int 1), (5, .int 0), (4, .int x_69), (0, .ref a0_), (1, .int x1_)])
                                            have g9 := g.sub (fx' := [(8, 6, q0_, .int 1201), (8, 8, q0_, .int x_48), (0, 4, a0_, .ref a_45), (0, 12, a0_, .int 0), (0, 10, a0_, .int x_150), (7, 6, q1_, .int x_131), (7, 5, q1_, .ref g191_7_5_q1_), (7, 4, q1_, .ref g191_7_4_q1_), (0, 8, a0_, .int y_67), (0, 5, a0_, .ref g76_0_5_a0_), (0, 3, a0_, .ref g76_0_3_a0_), (0, 0, a0_, .ref q0_), (0, 2, a0_, .ref q1_)]) [0, 5, 6, 1, 2, 3, 7, 8, 4, 9, 10, 11, 12] rfl
                                            exact ih4  y_163 y_148 1 0 x_69 x_150 x_131 y_67 (bd_sub b_164 (by decide)) (bd_sub kb_1 (by decide)) (bd_sub kb_0 (by decide)) h_151 h_132 (bd_sub b_68 (by decide)) (by have h9_0 := b_128; unfold bd at h9_0; have h9_1 := b_158; unfold bd at h9_1; have h9_2 := b_164; unfold bd at h9_2; have h9_3 := b_68; unfold bd at h9_3; have h9_4 := bdT v4_4; unfold bd at h9_4; have h9_5 := bdT v4_6; unfold bd at h9_5; have h9_6 := bv4_2; unfold bd at h9_6; have h9_7 := bv4_3; unfold bd at h9_7; have h9_8 := bv4_5; unfold bd at h9_8; have h9_9 := bw4_0_10_a0_; unfold bd at h9_9; have h9_10 := bw4_0_8_a0_; unfold bd at h9_10; have h9_11 := bw4_7_6_q1_; unfold bd at h9_11; have h9_12 := h_132; unfold bd at h9_12; have h9_13 := h_151; unfold bd at h9_13; have h9_14 := kb_0; unfold bd at h9_14; have h9_15 := kb_1; unfold bd at h9_15; have h9_16 := kb_12; unfold bd at h9_16; have h9_17 := kb_205; unfold bd at h9_17; have h9_18 := kb_300; unfold bd at h9_18; have h9_19 := kb_6; unfold bd at h9_19; have h9_20 := kb_7; unfold bd at h9_20; omega) _ _ _ _ g9 hG_162 hl9
                                        · have fc_127 := neq_f c_127
                                          refine lv_iload hx hb dX0_closeParts_144 (lv_at hl 3 rfl) ?_
                                          refine lv_sipush (v := 206) hx hb dX0_closeParts_146 (by decide) ?_
                                          have kb_206 : bd 206 206 (206 : Int32) := ⟨by decide, by decide⟩
                                          refine lv_icmp_ne (tgt := 181) hx hb dX0_closeParts_149 (by decide) (fun c_165 => ?_) (fun c_165 => ?_)
                                          · have fc_165 := neq_f c_165
                                            refine lv_aload_n hx hb dX0_closeParts_181 rfl (lv_at hl 5 rfl) ?_
                                            refine g_getk (C := RX0) (T := TX0) (N := 14) hx hb hts (mc_ inX0) hown hK g rfl 2 (by decide) rfl (hts _ (List.mem_cons_of_mem _ t_375)) (fun _ h9 => h9) 12 rfl dX0_closeParts_182 ?_
                                            refine lv_iload hx hb dX0_closeParts_185 (lv_at hl 3 rfl) ?_
                                            refine lv_iconst (v := 0) hx hb dX0_closeParts_187 (by decide) ?_
                                            have go_ := g
                                            refine g_callv (va_runV (As := [.int x_69, .int 0]) (rest := []) ⟨hx, hb, hml, hown, hts⟩ (r_X7_emitF l dC dI L kd tys fr_122 H.size g.2.2.2.1 q1_ mq1_ kq1_ g191_7_4_q1_ mg191_7_4_q1_ kg191_7_4_q1_ g191_7_5_q1_ mg191_7_5_q1_ kg191_7_5_q1_ w4_7_6_q1_ bw4_7_6_q1_ T_ hG_126 x_69 (0 : Int32) (g.fcts [8, 7, 6] rfl)) (cwV 2 hts (gV_ t_1203 t_1204 t_1205 t_191 t_1206) rfl rfl rfl (by decide +kernel) ⟨(Nat.le_of_ble_eq_true rfl), (Nat.le_of_ble_eq_true rfl)⟩) (pre3V g hK mq1_ kq1_ (by decide) (q := (RX7, TX7, 19)) rfl) rfl rfl hl.1 rfl (lv_room (Nat.le_of_ble_eq_true rfl)) dX0_closeParts_188 ⟨(Nat.le_of_ble_eq_true rfl), (Nat.le_of_ble_eq_true rfl)⟩) g hK (by decide) (by decide) (fx' := [(0, 10, a0_, .int x_123), (0, 8, a0_, .int y_67), (8, 6, q0_, .int 1201), (8, 8, q0_, .int x_48), (0, 4, a0_, .ref a_45), (0, 12, a0_, .int 0), (7, 5, q1_, .ref g191_7_5_q1_), (7, 4, q1_, .ref g191_7_4_q1_), (0, 5, a0_, .ref g76_0_5_a0_), (0, 3, a0_, .ref g76_0_3_a0_), (0, 0, a0_, .ref q0_), (0, 2, a0_, .ref q1_)]) rfl (fun fr_166 H locs hp hMr_166 g => ?_)
                                            obtain ⟨hG_167, x_168, h_169, hF_170⟩ := hp
                                            have g := g.more hF_170
                                            refine lv_iconst (v := 1) hx hb dX0_closeParts_191 (by decide) ?_
                                            refine lv_iload hx hb dX0_closeParts_192 (lv_at hl 2 rfl) ?_
                                            refine lv_if_eq (tgt := 202) hx hb dX0_closeParts_194 (by decide) (fun c_ => ?_) (fun c_ => absurd (by decide) c_)
                                            refine lv_iload hx hb dX0_closeParts_202 (lv_at hl 0 rfl) ?_
                                            refine lv_aload_n hx hb dX0_closeParts_204 rfl (lv_at hl 5 rfl) ?_
                                            have go_ := g
                                            refine g_calli (va_runV (As := []) (rest := [.int r_122, .int 1]) ⟨hx, hb, hml, hown, hts⟩ (r_X0_takeHeight l dC dI L kd tys fr_166 H.size g.2.2.2.1 a0_ ma0_ ka0_) (cwV 0 hts (gV_ t_1199 t_1201 t_16 t_190 t_1202) rfl rfl rfl (by decide +kernel) ⟨(Nat.le_of_ble_eq_true rfl), (Nat.le_of_ble_eq_true rfl)⟩) (pre3V g hK ma0_ ka0_ (by decide) (q := (RX0, TX0, 14)) rfl) rfl rfl hl.1 rfl (lv_room (Nat.le_of_ble_eq_true rfl)) dX0_closeParts_205 ⟨(Nat.le_of_ble_eq_true rfl), (Nat.le_of_ble_eq_true rfl)⟩) g hK (by decide) (by decide) (fx' := [(7, 6, q1_, .int x_168), (0, 8, a0_, .int y_67), (8, 6, q0_, .int 1201), (8, 8, q0_, .int x_48), (0, 4, a0_, .ref a_45), (0, 12, a0_, .int 0), (7, 5, q1_, .ref g191_7_5_q1_), (7, 4, q1_, .ref g191_7_4_q1_), (0, 5, a0_, .ref g76_0_5_a0_), (0, 3, a0_, .ref g76_0_3_a0_), (0, 0, a0_, .ref q0_), (0, 2, a0_, .ref q1_)]) rfl (fun r_171 fr_171 H locs hp hMr_171 g => ?_)
                                            obtain ⟨x_172, h_173, hF_174⟩ := hp
                                            have hG_175 := dOK.frame hMr_171 go_.2.2.2.1 mq1_ kq1_ (by decide) (by decide) hG_167
                                            have g := g.more hF_174
                                            refine va_mmax hx hb (hml.trans hl.1.symm) hown (hts _ (List.mem_cons_of_mem _ t_1194)) (hts _ (List.mem_cons_of_mem _ t_1041)) (hts _ (List.mem_cons_of_mem _ t_204)) (hts _ (List.mem_cons_of_mem _ t_1042)) (Nat.le_of_ble_eq_true rfl) (Nat.le_of_ble_eq_true rfl) (Nat.le_of_ble_eq_true rfl) (Nat.le_of_ble_eq_true rfl) dX0_closeParts_208 ?_
                                            refine lv_topi (fun y_176 ey_176 => ?_)
                                            have ty_176 : y_176.toInt = max r_122.toInt r_171.toInt := by rw [ey_176]; exact mmax_ok _ _
                                            have b_177 : bd (-2147483648) 2147483647 y_176 := max_rg ty_176 (bdT r_122) (bdT r_171) (by decide)
                                            refine lv_iadd hx hb dX0_closeParts_211 ?_
                                            refine lv_topi (fun y_178 ey_178 => ?_)
                                            refine lv_istore (lv' := [(6, .int y_178), (2, .int 1), (5, .int 0), (4, .int x_69), (3, .int v4_3), (0, .ref a0_), (1, .int x1_)]) hx hb dX0_closeParts_212 hl (by decide) rfl (fun ls hl => ?_)
                                            refine lv_aload_n hx hb dX0_closeParts_214 rfl (lv_at hl 5 rfl) ?_
                                            refine lv_iload hx hb dX0_closeParts_215 (lv_at hl 0 rfl) ?_
                                            have go_ := g
                                            refine g_callv (va_runV (As := [.int y_178]) (rest := []) ⟨hx, hb, hml, hown, hts⟩ (r_X0_addWhole l dC dI L kd tys fr_171 H.size g.2.2.2.1 a0_ ma0_ ka0_ y_178) (cwV 1 hts (gV_ t_1211 t_1213 t_17 t_190 t_1214) rfl rfl rfl (by decide +kernel) ⟨(Nat.le_of_ble_eq_true rfl), (Nat.le_of_ble_eq_true rfl)⟩) (pre3V g hK ma0_ ka0_ (by decide) (q := (RX0, TX0, 14)) rfl) rfl rfl hl.1 rfl (lv_room (Nat.le_of_ble_eq_true rfl)) dX0_closeParts_217 ⟨(Nat.le_of_ble_eq_true rfl), (Nat.le_of_ble_eq_true rfl)⟩) g hK (by decide) (by decide) (fx' := [(7, 6, q1_, .int x_168), (0, 8, a0_, .int y_67), (8, 6, q0_, .int 1201), (8, 8, q0_, .int x_48), (0, 4, a0_, .ref a_45), (7, 5, q1_, .ref g191_7_5_q1_), (7, 4, q1_, .ref g191_7_4_q1_), (0, 5, a0_, .ref g76_0_5_a0_), (0, 3, a0_, .ref g76_0_3_a0_), (0, 0, a0_, .ref q0_), (0, 2, a0_, .ref q1_)]) rfl (fun fr_179 H locs hp hMr_179 g => ?_)
                                            obtain ⟨x_180, h_181, hF_182⟩ := hp
                                            have hG_183 := dOK.frame hMr_179 go_.2.2.2.1 mq1_ kq1_ (by decide) (by decide) hG_175
                                            have g := g.more hF_182
                                            refine lv_iload hx hb dX0_closeParts_220 (lv_at hl 0 rfl) ?_
                                            refine lv_bipush (v := 12) hx hb dX0_closeParts_222 (by decide) ?_
                                            refine lv_icmp_le (tgt := 245) hx hb dX0_closeParts_224 (by decide) (fun c_184 => ?_) (fun c_184 => ?_)
                                            · have fc_184 := le_f c_184
                                              have b_185 : bd (-2147483648) 12 y_178 := leL fc_184 (bdT y_178) kb_12 (by decide)
                                              obtain ⟨y_186, ey_186⟩ : ∃ z : Int32, z = v4_3 + 1 := ⟨_, rfl⟩
                                              refine lv_iinc (v := y_186) (lv' := [(3, .int y_186), (6, .int y_178), (2, .int 1), (5, .int 0), (4, .int x_69), (0, .ref a0_), (1, .int x1_)]) hx hb dX0_closeParts_245 hl (k := 4) rfl (by rw [ey_186]; rfl) (by decide) rfl (fun ls hl => ?_)
                                              have ty_186 := add_bd ey_186 b_60 kb_1 (by decide)
                                              have b_187 : bd 2 300 y_186 := add_rg ty_186 b_60 kb_1 (by decide)
                                              refine lv_goto (tgt := 4) hx hb dX0_closeParts_248 (by decide) ?_
                                              have hl9 := lv_sub hl [0, 1, 2, 3, 4, 5, 6] (by rfl : lv_pick [(3, .int y_186), (6, .int y_178), (2, .int 1), (5, .int 0), (4, .int x_69), (0, .ref a0_), (1, .int x1_)] [0, 1, 2, 3, 4, 5, 6] = [(3, .int y_186), (6, .int y_178), (2, .int 1), (5, .int 0), (4, .int x_69), (0, .ref a0_), (1, .int x1_)])
                                              have g9 := g.sub (fx' := [(8, 6, q0_, .int 1201), (8, 8, q0_, .int x_48), (0, 4, a0_, .ref a_45), (0, 12, a0_, .int 0), (0, 10, a0_, .int x_180), (7, 6, q1_, .int x_168), (7, 5, q1_, .ref g191_7_5_q1_), (7, 4, q1_, .ref g191_7_4_q1_), (0, 8, a0_, .int y_67), (0, 5, a0_, .ref g76_0_5_a0_), (0, 3, a0_, .ref g76_0_3_a0_), (0, 0, a0_, .ref q0_), (0, 2, a0_, .ref q1_)]) [4, 5, 6, 0, 1, 2, 7, 8, 3, 9, 10, 11, 12] rfl
                                              exact ih4  y_186 y_178 1 0 x_69 x_180 x_168 y_67 (bd_sub b_187 (by decide)) (bd_sub kb_1 (by decide)) (bd_sub kb_0 (by decide)) h_181 h_169 (bd_sub b_68 (by decide)) (by have h9_0 := b_185; unfold bd at h9_0; have h9_1 := b_187; unfold bd at h9_1; have h9_2 := b_68; unfold bd at h9_2; have h9_3 := bdT v4_4; unfold bd at h9_3; have h9_4 := bdT v4_6; unfold bd at h9_4; have h9_5 := bdT x_69; unfold bd at h9_5; have h9_6 := bv4_2; unfold bd at h9_6; have h9_7 := bv4_3; unfold bd at h9_7; have h9_8 := bv4_5; unfold bd at h9_8; have h9_9 := bw4_0_10_a0_; unfold bd at h9_9; have h9_10 := bw4_0_8_a0_; unfold bd at h9_10; have h9_11 := bw4_7_6_q1_; unfold bd at h9_11; have h9_12 := h_169; unfold bd at h9_12; have h9_13 := h_181; unfold bd at h9_13; have h9_14 := kb_0; unfold bd at h9_14; have h9_15 := kb_1; unfold bd at h9_15; have h9_16 := kb_12; unfold bd at h9_16; have h9_17 := kb_205; unfold bd at h9_17; have h9_18 := kb_206; unfold bd at h9_18; have h9_19 := kb_300; unfold bd at h9_19; have h9_20 := kb_6; unfold bd at h9_20; have h9_21 := kb_7; unfold bd at h9_21; omega) _ _ _ _ g9 hG_183 hl9
                                            · have fc_184 := nle_f c_184
                                              have b_188 : bd 13 2147483647 y_178 := ltR fc_184 kb_12 (bdT y_178) (by decide)
                                              refine lv_aload_n hx hb dX0_closeParts_227 rfl (lv_at hl 5 rfl) ?_
                                              refine g_getk (C := RX0) (T := TX0) (N := 14) hx hb hts (mc_ inX0) hown hK g rfl 0 (by decide) rfl (hts _ (List.mem_cons_of_mem _ t_373)) (fun _ h9 => h9) 11 rfl dX0_closeParts_228 ?_
                                              refine lv_bipush (v := 7) hx hb dX0_closeParts_231 (by decide) ?_
                                              refine lv_aload_n hx hb dX0_closeParts_233 rfl (lv_at hl 5 rfl) ?_
                                              refine g_getk (C := RX0) (T := TX0) (N := 14) hx hb hts (mc_ inX0) hown hK g rfl 4 (by decide) rfl (hts _ (List.mem_cons_of_mem _ t_377)) (fun _ h9 => h9) 6 rfl dX0_closeParts_234 ?_
                                              refine lv_aload_n hx hb dX0_closeParts_237 rfl (lv_at hl 5 rfl) ?_
                                              refine g_getk (C := RX0) (T := TX0) (N := 14) hx hb hts (mc_ inX0) hown hK g rfl 8 (by decide) rfl (hts _ (List.mem_cons_of_mem _ t_381)) (fun _ h9 => h9) 3 rfl dX0_closeParts_238 ?_
                                              refine g_iald hx hb hK g ma_45 ka_45 (by decide) rfl (in_bd b_68 (by decide)) dX0_closeParts_241 (fun x_189 bx_189 cx_189 => ?_)
                                              have go_ := g
                                              refine g_callv (va_runV (As := [.int 7, .int x_189]) (rest := []) ⟨hx, hb, hml, hown, hts⟩ (r_X8_fail_2 l dC dI L kd tys fr_179 H.size g.2.2.2.1 q0_ mq0_ kq0_ 7 (bd_sub kb_7 (by decide)) x_189 x_48 h_49 (g.fcts [5] rfl)) (cwV 2 hts (gV_ t_1215 t_1107 t_1108 t_184 t_1109) rfl rfl rfl (by decide +kernel) ⟨(Nat.le_of_ble_eq_true rfl), (Nat.le_of_ble_eq_true rfl)⟩) (pre3V g hK mq0_ kq0_ (by decide) (q := (RX8, TX8, 10)) rfl) rfl rfl hl.1 rfl (lv_room (Nat.le_of_ble_eq_true rfl)) dX0_closeParts_242 ⟨(Nat.le_of_ble_eq_true rfl), (Nat.le_of_ble_eq_true rfl)⟩) g hK (by decide) (by decide) (fx' := [(0, 12, a0_, .int 0), (0, 10, a0_, .int x_180), (7, 6, q1_, .int x_168), (0, 8, a0_, .int y_67), (8, 8, q0_, .int x_48), (0, 4, a0_, .ref a_45), (7, 5, q1_, .ref g191_7_5_q1_), (7, 4, q1_, .ref g191_7_4_q1_), (0, 5, a0_, .ref g76_0_5_a0_), (0, 3, a0_, .ref g76_0_3_a0_), (0, 0, a0_, .ref q0_), (0, 2, a0_, .ref q1_)]) rfl (fun fr_190 H locs hp hMr_190 g => ?_)
                                              have hF_191 := hp
                                              have hG_192 := dOK.frame hMr_190 go_.2.2.2.1 mq1_ kq1_ (by decide) (by decide) hG_183
                                              have g := g.more hF_191
                                              obtain ⟨y_193, ey_193⟩ : ∃ z : Int32, z = v4_3 + 1 := ⟨_, rfl⟩
                                              refine lv_iinc (v := y_193) (lv' := [(3, .int y_193), (6, .int y_178), (2, .int 1), (5, .int 0), (4, .int x_69), (0, .ref a0_), (1, .int x1_)]) hx hb dX0_closeParts_245 hl (k := 4) rfl (by rw [ey_193]; rfl) (by decide) rfl (fun ls hl => ?_)
                                              have ty_193 := add_bd ey_193 b_60 kb_1 (by decide)
                                              have b_194 : bd 2 300 y_193 := add_rg ty_193 b_60 kb_1 (by decide)
                                              refine lv_goto (tgt := 4) hx hb dX0_closeParts_248 (by decide) ?_
                                              have hl9 := lv_sub hl [0, 1, 2, 3, 4, 5, 6] (by rfl : lv_pick [(3, .int y_193), (6, .int y_178), (2, .int 1), (5, .int 0), (4, .int x_69), (0, .ref a0_), (1, .int x1_)] [0, 1, 2, 3, 4, 5, 6] = [(3, .int y_193), (6, .int y_178), (2, .int 1), (5, .int 0), (4, .int x_69), (0, .ref a0_), (1, .int x1_)])
                                              have g9 := g.sub (fx' := [(8, 6, q0_, .int 1201), (8, 8, q0_, .int x_48), (0, 4, a0_, .ref a_45), (0, 12, a0_, .int 0), (0, 10, a0_, .int x_180), (7, 6, q1_, .int x_168), (7, 5, q1_, .ref g191_7_5_q1_), (7, 4, q1_, .ref g191_7_4_q1_), (0, 8, a0_, .int y_67), (0, 5, a0_, .ref g76_0_5_a0_), (0, 3, a0_, .ref g76_0_3_a0_), (0, 0, a0_, .ref q0_), (0, 2, a0_, .ref q1_)]) [0, 5, 6, 1, 2, 3, 7, 8, 4, 9, 10, 11, 12] rfl
                                              exact ih4  y_193 y_178 1 0 x_69 x_180 x_168 y_67 (bd_sub b_194 (by decide)) (bd_sub kb_1 (by decide)) (bd_sub kb_0 (by decide)) h_181 h_169 (bd_sub b_68 (by decide)) (by have h9_0 := b_188; unfold bd at h9_0; have h9_1 := b_194; unfold bd at h9_1; have h9_2 := b_68; unfold bd at h9_2; have h9_3 := bdT v4_4; unfold bd at h9_3; have h9_4 := bdT v4_6; unfold bd at h9_4; have h9_5 := bdT x_69; unfold bd at h9_5; have h9_6 := bv4_2; unfold bd at h9_6; have h9_7 := bv4_3; unfold bd at h9_7; have h9_8 := bv4_5; unfold bd at h9_8; have h9_9 := bw4_0_10_a0_; unfold bd at h9_9; have h9_10 := bw4_0_8_a0_; unfold bd at h9_10; have h9_11 := bw4_7_6_q1_; unfold bd at h9_11; have h9_12 := h_169; unfold bd at h9_12; have h9_13 := h_181; unfold bd at h9_13; have h9_14 := kb_0; unfold bd at h9_14; have h9_15 := kb_1; unfold bd at h9_15; have h9_16 := kb_12; unfold bd at h9_16; have h9_17 := kb_205; unfold bd at h9_17; have h9_18 := kb_206; unfold bd at h9_18; have h9_19 := kb_300; unfold bd at h9_19; have h9_20 := kb_6; unfold bd at h9_20; have h9_21 := kb_7; unfold bd at h9_21; omega) _ _ _ _ g9 hG_192 hl9
                                          · have fc_165 := eq_f c_165
                                            have b_195 : bd 206 206 x_69 := eqX fc_165 (bdT x_69) kb_206 (by decide)
                                            refine lv_aload_n hx hb dX0_closeParts_152 rfl (lv_at hl 5 rfl) ?_
                                            refine g_getk (C := RX0) (T := TX0) (N := 14) hx hb hts (mc_ inX0) hown hK g rfl 2 (by decide) rfl (hts _ (List.mem_cons_of_mem _ t_375)) (fun _ h9 => h9) 12 rfl dX0_closeParts_153 ?_
                                            refine lv_bipush (v := 8) hx hb dX0_closeParts_156 (by decide) ?_
                                            refine lv_iconst (v := 0) hx hb dX0_closeParts_158 (by decide) ?_
                                            have go_ := g
                                            refine g_callv (va_runV (As := [.int 8, .int 0]) (rest := []) ⟨hx, hb, hml, hown, hts⟩ (r_X7_emitF l dC dI L kd tys fr_122 H.size g.2.2.2.1 q1_ mq1_ kq1_ g191_7_4_q1_ mg191_7_4_q1_ kg191_7_4_q1_ g191_7_5_q1_ mg191_7_5_q1_ kg191_7_5_q1_ w4_7_6_q1_ bw4_7_6_q1_ T_ hG_126 (8 : Int32) (0 : Int32) (g.fcts [8, 7, 6] rfl)) (cwV 2 hts (gV_ t_1203 t_1204 t_1205 t_191 t_1206) rfl rfl rfl (by decide +kernel) ⟨(Nat.le_of_ble_eq_true rfl), (Nat.le_of_ble_eq_true rfl)⟩) (pre3V g hK mq1_ kq1_ (by decide) (q := (RX7, TX7, 19)) rfl) rfl rfl hl.1 rfl (lv_room (Nat.le_of_ble_eq_true rfl)) dX0_closeParts_159 ⟨(Nat.le_of_ble_eq_true rfl), (Nat.le_of_ble_eq_true rfl)⟩) g hK (by decide) (by decide) (fx' := [(0, 10, a0_, .int x_123), (0, 8, a0_, .int y_67), (8, 6, q0_, .int 1201), (8, 8, q0_, .int x_48), (0, 4, a0_, .ref a_45), (0, 12, a0_, .int 0), (7, 5, q1_, .ref g191_7_5_q1_), (7, 4, q1_, .ref g191_7_4_q1_), (0, 5, a0_, .ref g76_0_5_a0_), (0, 3, a0_, .ref g76_0_3_a0_), (0, 0, a0_, .ref q0_), (0, 2, a0_, .ref q1_)]) rfl (fun fr_196 H locs hp hMr_196 g => ?_)
                                            obtain ⟨hG_197, x_198, h_199, hF_200⟩ := hp
                                            have g := g.more hF_200
                                            refine lv_aload_n hx hb dX0_closeParts_162 rfl (lv_at hl 5 rfl) ?_
                                            refine g_getk (C := RX0) (T := TX0) (N := 14) hx hb hts (mc_ inX0) hown hK g rfl 2 (by decide) rfl (hts _ (List.mem_cons_of_mem _ t_375)) (fun _ h9 => h9) 12 rfl dX0_closeParts_163 ?_
                                            refine lv_aload_n hx hb dX0_closeParts_166 rfl (lv_at hl 5 rfl) ?_
                                            refine g_getk (C := RX0) (T := TX0) (N := 14) hx hb hts (mc_ inX0) hown hK g rfl 5 (by decide) rfl (hts _ (List.mem_cons_of_mem _ t_378)) (fun _ h9 => h9) 9 rfl dX0_closeParts_167 ?_
                                            refine lv_aload_n hx hb dX0_closeParts_170 rfl (lv_at hl 5 rfl) ?_
                                            refine g_getk (C := RX0) (T := TX0) (N := 14) hx hb hts (mc_ inX0) hown hK g rfl 8 (by decide) rfl (hts _ (List.mem_cons_of_mem _ t_381)) (fun _ h9 => h9) 2 rfl dX0_closeParts_171 ?_
                                            refine g_iald hx hb hK g mg76_0_5_a0_ kg76_0_5_a0_ (by decide) rfl (in_bd b_68 (by decide)) dX0_closeParts_174 (fun x_201 bx_201 cx_201 => ?_)
                                            have go_ := g
                                            refine g_callv (va_runV (As := [.int x_201]) (rest := []) ⟨hx, hb, hml, hown, hts⟩ (r_X7_leadHereF l dC dI L kd tys fr_196 H.size g.2.2.2.1 q1_ mq1_ kq1_ g191_7_4_q1_ mg191_7_4_q1_ kg191_7_4_q1_ g191_7_5_q1_ mg191_7_5_q1_ kg191_7_5_q1_ x_198 h_199 T_ hG_197 x_201 (g.fcts [8, 7, 0] rfl)) (cwV 1 hts (gV_ t_1207 t_1208 t_1209 t_191 t_1210) rfl rfl rfl (by decide +kernel) ⟨(Nat.le_of_ble_eq_true rfl), (Nat.le_of_ble_eq_true rfl)⟩) (pre3V g hK mq1_ kq1_ (by decide) (q := (RX7, TX7, 19)) rfl) rfl rfl hl.1 rfl (lv_room (Nat.le_of_ble_eq_true rfl)) dX0_closeParts_175 ⟨(Nat.le_of_ble_eq_true rfl), (Nat.le_of_ble_eq_true rfl)⟩) g hK (by decide) (by decide) (fx' := [(7, 6, q1_, .int x_198), (0, 10, a0_, .int x_123), (0, 8, a0_, .int y_67), (8, 6, q0_, .int 1201), (8, 8, q0_, .int x_48), (0, 4, a0_, .ref a_45), (0, 12, a0_, .int 0), (7, 5, q1_, .ref g191_7_5_q1_), (7, 4, q1_, .ref g191_7_4_q1_), (0, 5, a0_, .ref g76_0_5_a0_), (0, 3, a0_, .ref g76_0_3_a0_), (0, 0, a0_, .ref q0_), (0, 2, a0_, .ref q1_)]) rfl (fun fr_202 H locs hp hMr_202 g => ?_)
                                            obtain ⟨hG_203, x_204, h_205, hF_206⟩ := hp
                                            have g := g.more hF_206
                                            have e_207 := fx_same g 1 0 rfl rfl
                                            have g := g.sub (fx' := [(7, 6, q1_, .int x_198), (0, 10, a0_, .int x_123), (0, 8, a0_, .int y_67), (8, 6, q0_, .int 1201), (8, 8, q0_, .int x_48), (0, 4, a0_, .ref a_45), (0, 12, a0_, .int 0), (7, 5, q1_, .ref g191_7_5_q1_), (7, 4, q1_, .ref g191_7_4_q1_), (0, 5, a0_, .ref g76_0_5_a0_), (0, 3, a0_, .ref g76_0_3_a0_), (0, 0, a0_, .ref q0_), (0, 2, a0_, .ref q1_)]) [1, 2, 3, 4, 5, 6, 7, 8, 9, 10, 11, 12, 13] rfl
                                            refine lv_goto (tgt := 191) hx hb dX0_closeParts_178 (by decide) ?_
                                            refine lv_iconst (v := 1) hx hb dX0_closeParts_191 (by decide) ?_
                                            refine lv_iload hx hb dX0_closeParts_192 (lv_at hl 2 rfl) ?_
                                            refine lv_if_eq (tgt := 202) hx hb dX0_closeParts_194 (by decide) (fun c_ => ?_) (fun c_ => absurd (by decide) c_)
                                            refine lv_iload hx hb dX0_closeParts_202 (lv_at hl 0 rfl) ?_
                                            refine lv_aload_n hx hb dX0_closeParts_204 rfl (lv_at hl 5 rfl) ?_
                                            have go_ := g
                                            refine g_calli (va_runV (As := []) (rest := [.int r_122, .int 1]) ⟨hx, hb, hml, hown, hts⟩ (r_X0_takeHeight l dC dI L kd tys fr_202 H.size g.2.2.2.1 a0_ ma0_ ka0_) (cwV 0 hts (gV_ t_1199 t_1201 t_16 t_190 t_1202) rfl rfl rfl (by decide +kernel) ⟨(Nat.le_of_ble_eq_true rfl), (Nat.le_of_ble_eq_true rfl)⟩) (pre3V g hK ma0_ ka0_ (by decide) (q := (RX0, TX0, 14)) rfl) rfl rfl hl.1 rfl (lv_room (Nat.le_of_ble_eq_true rfl)) dX0_closeParts_205 ⟨(Nat.le_of_ble_eq_true rfl), (Nat.le_of_ble_eq_true rfl)⟩) g hK (by decide) (by decide) (fx' := [(7, 6, q1_, .int x_198), (0, 8, a0_, .int y_67), (8, 6, q0_, .int 1201), (8, 8, q0_, .int x_48), (0, 4, a0_, .ref a_45), (0, 12, a0_, .int 0), (7, 5, q1_, .ref g191_7_5_q1_), (7, 4, q1_, .ref g191_7_4_q1_), (0, 5, a0_, .ref g76_0_5_a0_), (0, 3, a0_, .ref g76_0_3_a0_), (0, 0, a0_, .ref q0_), (0, 2, a0_, .ref q1_)]) rfl (fun r_208 fr_208 H locs hp hMr_208 g => ?_)
                                            obtain ⟨x_209, h_210, hF_211⟩ := hp
                                            have hG_212 := dOK.frame hMr_208 go_.2.2.2.1 mq1_ kq1_ (by decide) (by decide) hG_203
                                            have g := g.more hF_211
                                            refine va_mmax hx hb (hml.trans hl.1.symm) hown (hts _ (List.mem_cons_of_mem _ t_1194)) (hts _ (List.mem_cons_of_mem _ t_1041)) (hts _ (List.mem_cons_of_mem _ t_204)) (hts _ (List.mem_cons_of_mem _ t_1042)) (Nat.le_of_ble_eq_true rfl) (Nat.le_of_ble_eq_true rfl) (Nat.le_of_ble_eq_true rfl) (Nat.le_of_ble_eq_true rfl) dX0_closeParts_208 ?_
                                            refine lv_topi (fun y_213 ey_213 => ?_)
                                            have ty_213 : y_213.toInt = max r_122.toInt r_208.toInt := by rw [ey_213]; exact mmax_ok _ _
                                            have b_214 : bd (-2147483648) 2147483647 y_213 := max_rg ty_213 (bdT r_122) (bdT r_208) (by decide)
                                            refine lv_iadd hx hb dX0_closeParts_211 ?_
                                            refine lv_topi (fun y_215 ey_215 => ?_)
                                            refine lv_istore (lv' := [(6, .int y_215), (2, .int 1), (5, .int 0), (4, .int x_69), (3, .int v4_3), (0, .ref a0_), (1, .int x1_)]) hx hb dX0_closeParts_212 hl (by decide) rfl (fun ls hl => ?_)
                                            refine lv_aload_n hx hb dX0_closeParts_214 rfl (lv_at hl 5 rfl) ?_
                                            refine lv_iload hx hb dX0_closeParts_215 (lv_at hl 0 rfl) ?_
                                            have go_ := g
                                            refine g_callv (va_runV (As := [.int y_215]) (rest := []) ⟨hx, hb, hml, hown, hts⟩ (r_X0_addWhole l dC dI L kd tys fr_208 H.size g.2.2.2.1 a0_ ma0_ ka0_ y_215) (cwV 1 hts (gV_ t_1211 t_1213 t_17 t_190 t_1214) rfl rfl rfl (by decide +kernel) ⟨(Nat.le_of_ble_eq_true rfl), (Nat.le_of_ble_eq_true rfl)⟩) (pre3V g hK ma0_ ka0_ (by decide) (q := (RX0, TX0, 14)) rfl) rfl rfl hl.1 rfl (lv_room (Nat.le_of_ble_eq_true rfl)) dX0_closeParts_217 ⟨(Nat.le_of_ble_eq_true rfl), (Nat.le_of_ble_eq_true rfl)⟩) g hK (by decide) (by decide) (fx' := [(7, 6, q1_, .int x_198), (0, 8, a0_, .int y_67), (8, 6, q0_, .int 1201), (8, 8, q0_, .int x_48), (0, 4, a0_, .ref a_45), (7, 5, q1_, .ref g191_7_5_q1_), (7, 4, q1_, .ref g191_7_4_q1_), (0, 5, a0_, .ref g76_0_5_a0_), (0, 3, a0_, .ref g76_0_3_a0_), (0, 0, a0_, .ref q0_), (0, 2, a0_, .ref q1_)]) rfl (fun fr_216 H locs hp hMr_216 g => ?_)
                                            obtain ⟨x_217, h_218, hF_219⟩ := hp
                                            have hG_220 := dOK.frame hMr_216 go_.2.2.2.1 mq1_ kq1_ (by decide) (by decide) hG_212
                                            have g := g.more hF_219
                                            refine lv_iload hx hb dX0_closeParts_220 (lv_at hl 0 rfl) ?_
                                            refine lv_bipush (v := 12) hx hb dX0_closeParts_222 (by decide) ?_
                                            refine lv_icmp_le (tgt := 245) hx hb dX0_closeParts_224 (by decide) (fun c_221 => ?_) (fun c_221 => ?_)
                                            · have fc_221 := le_f c_221
                                              have b_222 : bd (-2147483648) 12 y_215 := leL fc_221 (bdT y_215) kb_12 (by decide)
                                              obtain ⟨y_223, ey_223⟩ : ∃ z : Int32, z = v4_3 + 1 := ⟨_, rfl⟩
                                              refine lv_iinc (v := y_223) (lv' := [(3, .int y_223), (6, .int y_215), (2, .int 1), (5, .int 0), (4, .int x_69), (0, .ref a0_), (1, .int x1_)]) hx hb dX0_closeParts_245 hl (k := 4) rfl (by rw [ey_223]; rfl) (by decide) rfl (fun ls hl => ?_)
                                              have ty_223 := add_bd ey_223 b_60 kb_1 (by decide)
                                              have b_224 : bd 2 300 y_223 := add_rg ty_223 b_60 kb_1 (by decide)
                                              refine lv_goto (tgt := 4) hx hb dX0_closeParts_248 (by decide) ?_
                                              have hl9 := lv_sub hl [0, 1, 2, 3, 4, 5, 6] (by rfl : lv_pick [(3, .int y_223), (6, .int y_215), (2, .int 1), (5, .int 0), (4, .int x_69), (0, .ref a0_), (1, .int x1_)] [0, 1, 2, 3, 4, 5, 6] = [(3, .int y_223), (6, .int y_215), (2, .int 1), (5, .int 0), (4, .int x_69), (0, .ref a0_), (1, .int x1_)])
                                              have g9 := g.sub (fx' := [(8, 6, q0_, .int 1201), (8, 8, q0_, .int x_48), (0, 4, a0_, .ref a_45), (0, 12, a0_, .int 0), (0, 10, a0_, .int x_217), (7, 6, q1_, .int x_198), (7, 5, q1_, .ref g191_7_5_q1_), (7, 4, q1_, .ref g191_7_4_q1_), (0, 8, a0_, .int y_67), (0, 5, a0_, .ref g76_0_5_a0_), (0, 3, a0_, .ref g76_0_3_a0_), (0, 0, a0_, .ref q0_), (0, 2, a0_, .ref q1_)]) [4, 5, 6, 0, 1, 2, 7, 8, 3, 9, 10, 11, 12] rfl
                                              exact ih4  y_223 y_215 1 0 x_69 x_217 x_198 y_67 (bd_sub b_224 (by decide)) (bd_sub kb_1 (by decide)) (bd_sub kb_0 (by decide)) h_218 h_199 (bd_sub b_68 (by decide)) (by have h9_0 := b_195; unfold bd at h9_0; have h9_1 := b_222; unfold bd at h9_1; have h9_2 := b_224; unfold bd at h9_2; have h9_3 := b_68; unfold bd at h9_3; have h9_4 := bdT v4_4; unfold bd at h9_4; have h9_5 := bdT v4_6; unfold bd at h9_5; have h9_6 := bv4_2; unfold bd at h9_6; have h9_7 := bv4_3; unfold bd at h9_7; have h9_8 := bv4_5; unfold bd at h9_8; have h9_9 := bw4_0_10_a0_; unfold bd at h9_9; have h9_10 := bw4_0_8_a0_; unfold bd at h9_10; have h9_11 := bw4_7_6_q1_; unfold bd at h9_11; have h9_12 := h_199; unfold bd at h9_12; have h9_13 := h_218; unfold bd at h9_13; have h9_14 := kb_0; unfold bd at h9_14; have h9_15 := kb_1; unfold bd at h9_15; have h9_16 := kb_12; unfold bd at h9_16; have h9_17 := kb_205; unfold bd at h9_17; have h9_18 := kb_206; unfold bd at h9_18; have h9_19 := kb_300; unfold bd at h9_19; have h9_20 := kb_6; unfold bd at h9_20; have h9_21 := kb_7; unfold bd at h9_21; omega) _ _ _ _ g9 hG_220 hl9
                                            · have fc_221 := nle_f c_221
                                              have b_225 : bd 13 2147483647 y_215 := ltR fc_221 kb_12 (bdT y_215) (by decide)
                                              refine lv_aload_n hx hb dX0_closeParts_227 rfl (lv_at hl 5 rfl) ?_
                                              refine g_getk (C := RX0) (T := TX0) (N := 14) hx hb hts (mc_ inX0) hown hK g rfl 0 (by decide) rfl (hts _ (List.mem_cons_of_mem _ t_373)) (fun _ h9 => h9) 11 rfl dX0_closeParts_228 ?_
                                              refine lv_bipush (v := 7) hx hb dX0_closeParts_231 (by decide) ?_
                                              refine lv_aload_n hx hb dX0_closeParts_233 rfl (lv_at hl 5 rfl) ?_
                                              refine g_getk (C := RX0) (T := TX0) (N := 14) hx hb hts (mc_ inX0) hown hK g rfl 4 (by decide) rfl (hts _ (List.mem_cons_of_mem _ t_377)) (fun _ h9 => h9) 6 rfl dX0_closeParts_234 ?_
                                              refine lv_aload_n hx hb dX0_closeParts_237 rfl (lv_at hl 5 rfl) ?_
                                              refine g_getk (C := RX0) (T := TX0) (N := 14) hx hb hts (mc_ inX0) hown hK g rfl 8 (by decide) rfl (hts _ (List.mem_cons_of_mem _ t_381)) (fun _ h9 => h9) 3 rfl dX0_closeParts_238 ?_
                                              refine g_iald hx hb hK g ma_45 ka_45 (by decide) rfl (in_bd b_68 (by decide)) dX0_closeParts_241 (fun x_226 bx_226 cx_226 => ?_)
                                              have go_ := g
                                              refine g_callv (va_runV (As := [.int 7, .int x_226]) (rest := []) ⟨hx, hb, hml, hown, hts⟩ (r_X8_fail_2 l dC dI L kd tys fr_216 H.size g.2.2.2.1 q0_ mq0_ kq0_ 7 (bd_sub kb_7 (by decide)) x_226 x_48 h_49 (g.fcts [5] rfl)) (cwV 2 hts (gV_ t_1215 t_1107 t_1108 t_184 t_1109) rfl rfl rfl (by decide +kernel) ⟨(Nat.le_of_ble_eq_true rfl), (Nat.le_of_ble_eq_true rfl)⟩) (pre3V g hK mq0_ kq0_ (by decide) (q := (RX8, TX8, 10)) rfl) rfl rfl hl.1 rfl (lv_room (Nat.le_of_ble_eq_true rfl)) dX0_closeParts_242 ⟨(Nat.le_of_ble_eq_true rfl), (Nat.le_of_ble_eq_true rfl)⟩) g hK (by decide) (by decide) (fx' := [(0, 12, a0_, .int 0), (0, 10, a0_, .int x_217), (7, 6, q1_, .int x_198), (0, 8, a0_, .int y_67), (8, 8, q0_, .int x_48), (0, 4, a0_, .ref a_45), (7, 5, q1_, .ref g191_7_5_q1_), (7, 4, q1_, .ref g191_7_4_q1_), (0, 5, a0_, .ref g76_0_5_a0_), (0, 3, a0_, .ref g76_0_3_a0_), (0, 0, a0_, .ref q0_), (0, 2, a0_, .ref q1_)]) rfl (fun fr_227 H locs hp hMr_227 g => ?_)
                                              have hF_228 := hp
                                              have hG_229 := dOK.frame hMr_227 go_.2.2.2.1 mq1_ kq1_ (by decide) (by decide) hG_220
                                              have g := g.more hF_228
                                              obtain ⟨y_230, ey_230⟩ : ∃ z : Int32, z = v4_3 + 1 := ⟨_, rfl⟩
                                              refine lv_iinc (v := y_230) (lv' := [(3, .int y_230), (6, .int y_215), (2, .int 1), (5, .int 0), (4, .int x_69), (0, .ref a0_), (1, .int x1_)]) hx hb dX0_closeParts_245 hl (k := 4) rfl (by rw [ey_230]; rfl) (by decide) rfl (fun ls hl => ?_)
                                              have ty_230 := add_bd ey_230 b_60 kb_1 (by decide)
                                              have b_231 : bd 2 300 y_230 := add_rg ty_230 b_60 kb_1 (by decide)
                                              refine lv_goto (tgt := 4) hx hb dX0_closeParts_248 (by decide) ?_
                                              have hl9 := lv_sub hl [0, 1, 2, 3, 4, 5, 6] (by rfl : lv_pick [(3, .int y_230), (6, .int y_215), (2, .int 1), (5, .int 0), (4, .int x_69), (0, .ref a0_), (1, .int x1_)] [0, 1, 2, 3, 4, 5, 6] = [(3, .int y_230), (6, .int y_215), (2, .int 1), (5, .int 0), (4, .int x_69), (0, .ref a0_), (1, .int x1_)])
                                              have g9 := g.sub (fx' := [(8, 6, q0_, .int 1201), (8, 8, q0_, .int x_48), (0, 4, a0_, .ref a_45), (0, 12, a0_, .int 0), (0, 10, a0_, .int x_217), (7, 6, q1_, .int x_198), (7, 5, q1_, .ref g191_7_5_q1_), (7, 4, q1_, .ref g191_7_4_q1_), (0, 8, a0_, .int y_67), (0, 5, a0_, .ref g76_0_5_a0_), (0, 3, a0_, .ref g76_0_3_a0_), (0, 0, a0_, .ref q0_), (0, 2, a0_, .ref q1_)]) [0, 5, 6, 1, 2, 3, 7, 8, 4, 9, 10, 11, 12] rfl
                                              exact ih4  y_230 y_215 1 0 x_69 x_217 x_198 y_67 (bd_sub b_231 (by decide)) (bd_sub kb_1 (by decide)) (bd_sub kb_0 (by decide)) h_218 h_199 (bd_sub b_68 (by decide)) (by have h9_0 := b_195; unfold bd at h9_0; have h9_1 := b_225; unfold bd at h9_1; have h9_2 := b_231; unfold bd at h9_2; have h9_3 := b_68; unfold bd at h9_3; have h9_4 := bdT v4_4; unfold bd at h9_4; have h9_5 := bdT v4_6; unfold bd at h9_5; have h9_6 := bv4_2; unfold bd at h9_6; have h9_7 := bv4_3; unfold bd at h9_7; have h9_8 := bv4_5; unfold bd at h9_8; have h9_9 := bw4_0_10_a0_; unfold bd at h9_9; have h9_10 := bw4_0_8_a0_; unfold bd at h9_10; have h9_11 := bw4_7_6_q1_; unfold bd at h9_11; have h9_12 := h_199; unfold bd at h9_12; have h9_13 := h_218; unfold bd at h9_13; have h9_14 := kb_0; unfold bd at h9_14; have h9_15 := kb_1; unfold bd at h9_15; have h9_16 := kb_12; unfold bd at h9_16; have h9_17 := kb_205; unfold bd at h9_17; have h9_18 := kb_206; unfold bd at h9_18; have h9_19 := kb_300; unfold bd at h9_19; have h9_20 := kb_6; unfold bd at h9_20; have h9_21 := kb_7; unfold bd at h9_21; omega) _ _ _ _ g9 hG_229 hl9
                                    · have hG_232 := dOK.frame hMr_109 go_.2.2.2.1 mq1_ kq1_ (by decide) (by decide) hG4_d_q1_
                                      have b_233 : bd 37 206 x_69 := eqX rfl (bdT x_69) h_112 (by decide)
                                      refine lv_iload_n hx hb dX0_closeParts_66 rfl (lv_at hl 6 rfl) ?_
                                      refine lv_icmp_lt (tgt := 74) hx hb dX0_closeParts_67 (by decide) (fun c_234 => ?_) (fun c_234 => ?_)
                                      · have fc_234 := lt_f c_234
                                        have b_235 : bd 2 2147483647 x1_ := ltR fc_234 h_111 (bdT x1_) (by decide)
                                        refine lv_iconst (v := 0) hx hb dX0_closeParts_74 (by decide) ?_
                                        refine lv_istore_n (lv' := [(2, .int 0), (5, .int 0), (4, .int x_69), (3, .int v4_3), (6, .int v4_6), (0, .ref a0_), (1, .int x1_)]) hx hb dX0_closeParts_75 rfl hl (by decide) rfl (fun ls hl => ?_)
                                        refine lv_iload_n hx hb dX0_closeParts_76 rfl (lv_at hl 0 rfl) ?_
                                        refine lv_if_eq (tgt := 245) hx hb dX0_closeParts_77 (by decide) (fun c_ => ?_) (fun c_ => absurd (by decide) c_)
                                        obtain ⟨y_236, ey_236⟩ : ∃ z : Int32, z = v4_3 + 1 := ⟨_, rfl⟩
                                        refine lv_iinc (v := y_236) (lv' := [(3, .int y_236), (2, .int 0), (5, .int 0), (4, .int x_69), (6, .int v4_6), (0, .ref a0_), (1, .int x1_)]) hx hb dX0_closeParts_245 hl (k := 3) rfl (by rw [ey_236]; rfl) (by decide) rfl (fun ls hl => ?_)
                                        have ty_236 := add_bd ey_236 b_60 kb_1 (by decide)
                                        have b_237 : bd 2 300 y_236 := add_rg ty_236 b_60 kb_1 (by decide)
                                        refine lv_goto (tgt := 4) hx hb dX0_closeParts_248 (by decide) ?_
                                        have hl9 := lv_sub hl [0, 4, 1, 2, 3, 5, 6] (by rfl : lv_pick [(3, .int y_236), (2, .int 0), (5, .int 0), (4, .int x_69), (6, .int v4_6), (0, .ref a0_), (1, .int x1_)] [0, 4, 1, 2, 3, 5, 6] = [(3, .int y_236), (6, .int v4_6), (2, .int 0), (5, .int 0), (4, .int x_69), (0, .ref a0_), (1, .int x1_)])
                                        have g9 := g.sub (fx' := [(8, 6, q0_, .int 1201), (8, 8, q0_, .int x_48), (0, 4, a0_, .ref a_45), (0, 12, a0_, .int 0), (0, 10, a0_, .int w4_0_10_a0_), (7, 6, q1_, .int w4_7_6_q1_), (7, 5, q1_, .ref g191_7_5_q1_), (7, 4, q1_, .ref g191_7_4_q1_), (0, 8, a0_, .int w4_0_8_a0_), (0, 5, a0_, .ref g76_0_5_a0_), (0, 3, a0_, .ref g76_0_3_a0_), (0, 0, a0_, .ref q0_), (0, 2, a0_, .ref q1_)]) [0, 1, 2, 3, 4, 5, 6, 7, 8, 9, 10, 11, 12] rfl
                                        exact ih4  y_236 v4_6 0 0 x_69 w4_0_10_a0_ w4_7_6_q1_ w4_0_8_a0_ (bd_sub b_237 (by decide)) (bd_sub kb_0 (by decide)) (bd_sub kb_0 (by decide)) bw4_0_10_a0_ bw4_7_6_q1_ (bd_sub b_66 (by decide)) (by have h9_0 := b_233; unfold bd at h9_0; have h9_1 := b_237; unfold bd at h9_1; have h9_2 := b_66; unfold bd at h9_2; have h9_3 := bdT v4_4; unfold bd at h9_3; have h9_4 := bdT v4_6; unfold bd at h9_4; have h9_5 := bv4_2; unfold bd at h9_5; have h9_6 := bv4_3; unfold bd at h9_6; have h9_7 := bv4_5; unfold bd at h9_7; have h9_8 := bw4_0_10_a0_; unfold bd at h9_8; have h9_9 := bw4_0_8_a0_; unfold bd at h9_9; have h9_10 := bw4_7_6_q1_; unfold bd at h9_10; have h9_11 := kb_0; unfold bd at h9_11; have h9_12 := kb_1; unfold bd at h9_12; have h9_13 := kb_12; unfold bd at h9_13; have h9_14 := kb_300; unfold bd at h9_14; have h9_15 := kb_6; unfold bd at h9_15; have h9_16 := kb_7; unfold bd at h9_16; omega) _ _ _ _ g9 hG_232 hl9
                                      · have fc_234 := nlt_f c_234
                                        have b_238 : bd (-2147483648) 5 x1_ := leL fc_234 (bdT x1_) h_111 (by decide)
                                        refine lv_iconst (v := 1) hx hb dX0_closeParts_70 (by decide) ?_
                                        refine lv_goto (tgt := 75) hx hb dX0_closeParts_71 (by decide) ?_
                                        refine lv_istore_n (lv' := [(2, .int 1), (5, .int 0), (4, .int x_69), (3, .int v4_3), (6, .int v4_6), (0, .ref a0_), (1, .int x1_)]) hx hb dX0_closeParts_75 rfl hl (by decide) rfl (fun ls hl => ?_)
                                        refine lv_iload_n hx hb dX0_closeParts_76 rfl (lv_at hl 0 rfl) ?_
                                        refine lv_if_eq (tgt := 245) hx hb dX0_closeParts_77 (by decide) (fun c_ => absurd c_ (by decide)) (fun c_ => ?_)
                                        refine lv_aload_n hx hb dX0_closeParts_80 rfl (lv_at hl 5 rfl) ?_
                                        refine lv_dup hx hb dX0_closeParts_81 rfl ?_
                                        refine g_getk (C := RX0) (T := TX0) (N := 14) hx hb hts (mc_ inX0) hown hK g rfl 8 (by decide) rfl (hts _ (List.mem_cons_of_mem _ t_381)) (fun _ h9 => h9) 8 rfl dX0_closeParts_82 ?_
                                        refine lv_iconst (v := 1) hx hb dX0_closeParts_85 (by decide) ?_
                                        refine lv_isub hx hb dX0_closeParts_86 ?_
                                        refine lv_topi (fun y_239 ey_239 => ?_)
                                        obtain rfl : y_67 = y_239 := ey_67.trans ey_239.symm
                                        have go_ := g
                                        refine g_put (C := RX0) (T := TX0) (N := 14) hx hb hts (mc_ inX0) tyX0 tyX0_ok nmX0 hown hK g ma0_ ka0_ (by decide) rfl 8 (by decide) (hts _ (List.mem_cons_of_mem _ t_381)) (fun _ h9 => h9) rfl rfl (okV_i (bd_sub b_68 (by decide))) rfl rfl (by decide) (Or.inr (Or.inl (by decide))) (fx' := [(8, 6, q0_, .int 1201), (8, 8, q0_, .int x_48), (0, 4, a0_, .ref a_45), (0, 12, a0_, .int 0), (0, 10, a0_, .int w4_0_10_a0_), (7, 6, q1_, .int w4_7_6_q1_), (7, 5, q1_, .ref g191_7_5_q1_), (7, 4, q1_, .ref g191_7_4_q1_), (0, 5, a0_, .ref g76_0_5_a0_), (0, 3, a0_, .ref g76_0_3_a0_), (0, 0, a0_, .ref q0_), (0, 2, a0_, .ref q1_)]) rfl dX0_closeParts_87 (fun f H locs hM_240 g => ?_)
                                        have hG_241 := dOK.frame hM_240 go_.2.2.2.1 mq1_ kq1_ (by decide) (by decide) hG_232
                                        refine lv_aload_n hx hb dX0_closeParts_90 rfl (lv_at hl 5 rfl) ?_
                                        have go_ := g
                                        refine g_calli (va_runV (As := []) (rest := []) ⟨hx, hb, hml, hown, hts⟩ (r_X0_takeHeight l dC dI L kd tys f H.size g.2.2.2.1 a0_ ma0_ ka0_) (cwV 0 hts (gV_ t_1199 t_1201 t_16 t_190 t_1202) rfl rfl rfl (by decide +kernel) ⟨(Nat.le_of_ble_eq_true rfl), (Nat.le_of_ble_eq_true rfl)⟩) (pre3V g hK ma0_ ka0_ (by decide) (q := (RX0, TX0, 14)) rfl) rfl rfl hl.1 rfl (lv_room (Nat.le_of_ble_eq_true rfl)) dX0_closeParts_91 ⟨(Nat.le_of_ble_eq_true rfl), (Nat.le_of_ble_eq_true rfl)⟩) g hK (by decide) (by decide) (fx' := [(0, 8, a0_, .int y_67), (8, 6, q0_, .int 1201), (8, 8, q0_, .int x_48), (0, 4, a0_, .ref a_45), (0, 12, a0_, .int 0), (7, 6, q1_, .int w4_7_6_q1_), (7, 5, q1_, .ref g191_7_5_q1_), (7, 4, q1_, .ref g191_7_4_q1_), (0, 5, a0_, .ref g76_0_5_a0_), (0, 3, a0_, .ref g76_0_3_a0_), (0, 0, a0_, .ref q0_), (0, 2, a0_, .ref q1_)]) rfl (fun r_242 fr_242 H locs hp hMr_242 g => ?_)
                                        obtain ⟨x_243, h_244, hF_245⟩ := hp
                                        have hG_246 := dOK.frame hMr_242 go_.2.2.2.1 mq1_ kq1_ (by decide) (by decide) hG_241
                                        have g := g.more hF_245
                                        refine lv_istore (lv' := [(6, .int r_242), (2, .int 1), (5, .int 0), (4, .int x_69), (3, .int v4_3), (0, .ref a0_), (1, .int x1_)]) hx hb dX0_closeParts_94 hl (by decide) rfl (fun ls hl => ?_)
                                        refine lv_iload hx hb dX0_closeParts_96 (lv_at hl 2 rfl) ?_
                                        refine lv_if_eq (tgt := 136) hx hb dX0_closeParts_98 (by decide) (fun c_ => ?_) (fun c_ => absurd (by decide) c_)
                                        refine lv_iload hx hb dX0_closeParts_136 (lv_at hl 3 rfl) ?_
                                        refine lv_sipush (v := 205) hx hb dX0_closeParts_138 (by decide) ?_
                                        have kb_205 : bd 205 205 (205 : Int32) := ⟨by decide, by decide⟩
                                        refine lv_icmp_eq (tgt := 152) hx hb dX0_closeParts_141 (by decide) (fun c_247 => ?_) (fun c_247 => ?_)
                                        · have fc_247 := eq_f c_247
                                          have b_248 : bd 205 205 x_69 := eqX fc_247 b_233 kb_205 (by decide)
                                          refine lv_aload_n hx hb dX0_closeParts_152 rfl (lv_at hl 5 rfl) ?_
                                          refine g_getk (C := RX0) (T := TX0) (N := 14) hx hb hts (mc_ inX0) hown hK g rfl 2 (by decide) rfl (hts _ (List.mem_cons_of_mem _ t_375)) (fun _ h9 => h9) 12 rfl dX0_closeParts_153 ?_
                                          refine lv_bipush (v := 8) hx hb dX0_closeParts_156 (by decide) ?_
                                          refine lv_iconst (v := 0) hx hb dX0_closeParts_158 (by decide) ?_
                                          have go_ := g
                                          refine g_callv (va_runV (As := [.int 8, .int 0]) (rest := []) ⟨hx, hb, hml, hown, hts⟩ (r_X7_emitF l dC dI L kd tys fr_242 H.size g.2.2.2.1 q1_ mq1_ kq1_ g191_7_4_q1_ mg191_7_4_q1_ kg191_7_4_q1_ g191_7_5_q1_ mg191_7_5_q1_ kg191_7_5_q1_ w4_7_6_q1_ bw4_7_6_q1_ T_ hG_246 (8 : Int32) (0 : Int32) (g.fcts [8, 7, 6] rfl)) (cwV 2 hts (gV_ t_1203 t_1204 t_1205 t_191 t_1206) rfl rfl rfl (by decide +kernel) ⟨(Nat.le_of_ble_eq_true rfl), (Nat.le_of_ble_eq_true rfl)⟩) (pre3V g hK mq1_ kq1_ (by decide) (q := (RX7, TX7, 19)) rfl) rfl rfl hl.1 rfl (lv_room (Nat.le_of_ble_eq_true rfl)) dX0_closeParts_159 ⟨(Nat.le_of_ble_eq_true rfl), (Nat.le_of_ble_eq_true rfl)⟩) g hK (by decide) (by decide) (fx' := [(0, 10, a0_, .int x_243), (0, 8, a0_, .int y_67), (8, 6, q0_, .int 1201), (8, 8, q0_, .int x_48), (0, 4, a0_, .ref a_45), (0, 12, a0_, .int 0), (7, 5, q1_, .ref g191_7_5_q1_), (7, 4, q1_, .ref g191_7_4_q1_), (0, 5, a0_, .ref g76_0_5_a0_), (0, 3, a0_, .ref g76_0_3_a0_), (0, 0, a0_, .ref q0_), (0, 2, a0_, .ref q1_)]) rfl (fun fr_249 H locs hp hMr_249 g => ?_)
                                          obtain ⟨hG_250, x_251, h_252, hF_253⟩ := hp
                                          have g := g.more hF_253
                                          refine lv_aload_n hx hb dX0_closeParts_162 rfl (lv_at hl 5 rfl) ?_
                                          refine g_getk (C := RX0) (T := TX0) (N := 14) hx hb hts (mc_ inX0) hown hK g rfl 2 (by decide) rfl (hts _ (List.mem_cons_of_mem _ t_375)) (fun _ h9 => h9) 12 rfl dX0_closeParts_163 ?_
                                          refine lv_aload_n hx hb dX0_closeParts_166 rfl (lv_at hl 5 rfl) ?_
                                          refine g_getk (C := RX0) (T := TX0) (N := 14) hx hb hts (mc_ inX0) hown hK g rfl 5 (by decide) rfl (hts _ (List.mem_cons_of_mem _ t_378)) (fun _ h9 => h9) 9 rfl dX0_closeParts_167 ?_
                                          refine lv_aload_n hx hb dX0_closeParts_170 rfl (lv_at hl 5 rfl) ?_
                                          refine g_getk (C := RX0) (T := TX0) (N := 14) hx hb hts (mc_ inX0) hown hK g rfl 8 (by decide) rfl (hts _ (List.mem_cons_of_mem _ t_381)) (fun _ h9 => h9) 2 rfl dX0_closeParts_171 ?_
                                          refine g_iald hx hb hK g mg76_0_5_a0_ kg76_0_5_a0_ (by decide) rfl (in_bd b_68 (by decide)) dX0_closeParts_174 (fun x_254 bx_254 cx_254 => ?_)
                                          have go_ := g
                                          refine g_callv (va_runV (As := [.int x_254]) (rest := []) ⟨hx, hb, hml, hown, hts⟩ (r_X7_leadHereF l dC dI L kd tys fr_249 H.size g.2.2.2.1 q1_ mq1_ kq1_ g191_7_4_q1_ mg191_7_4_q1_ kg191_7_4_q1_ g191_7_5_q1_ mg191_7_5_q1_ kg191_7_5_q1_ x_251 h_252 T_ hG_250 x_254 (g.fcts [8, 7, 0] rfl)) (cwV 1 hts (gV_ t_1207 t_1208 t_1209 t_191 t_1210) rfl rfl rfl (by decide +kernel) ⟨(Nat.le_of_ble_eq_true rfl), (Nat.le_of_ble_eq_true rfl)⟩) (pre3V g hK mq1_ kq1_ (by decide) (q := (RX7, TX7, 19)) rfl) rfl rfl hl.1 rfl (lv_room (Nat.le_of_ble_eq_true rfl)) dX0_closeParts_175 ⟨(Nat.le_of_ble_eq_true rfl), (Nat.le_of_ble_eq_true rfl)⟩) g hK (by decide) (by decide) (fx' := [(7, 6, q1_, .int x_251), (0, 10, a0_, .int x_243), (0, 8, a0_, .int y_67), (8, 6, q0_, .int 1201), (8, 8, q0_, .int x_48), (0, 4, a0_, .ref a_45), (0, 12, a0_, .int 0), (7, 5, q1_, .ref g191_7_5_q1_), (7, 4, q1_, .ref g191_7_4_q1_), (0, 5, a0_, .ref g76_0_5_a0_), (0, 3, a0_, .ref g76_0_3_a0_), (0, 0, a0_, .ref q0_), (0, 2, a0_, .ref q1_)]) rfl (fun fr_255 H locs hp hMr_255 g => ?_)
                                          obtain ⟨hG_256, x_257, h_258, hF_259⟩ := hp
                                          have g := g.more hF_259
                                          have e_260 := fx_same g 1 0 rfl rfl
                                          have g := g.sub (fx' := [(7, 6, q1_, .int x_251), (0, 10, a0_, .int x_243), (0, 8, a0_, .int y_67), (8, 6, q0_, .int 1201), (8, 8, q0_, .int x_48), (0, 4, a0_, .ref a_45), (0, 12, a0_, .int 0), (7, 5, q1_, .ref g191_7_5_q1_), (7, 4, q1_, .ref g191_7_4_q1_), (0, 5, a0_, .ref g76_0_5_a0_), (0, 3, a0_, .ref g76_0_3_a0_), (0, 0, a0_, .ref q0_), (0, 2, a0_, .ref q1_)]) [1, 2, 3, 4, 5, 6, 7, 8, 9, 10, 11, 12, 13] rfl
                                          refine lv_goto (tgt := 191) hx hb dX0_closeParts_178 (by decide) ?_
                                          refine lv_iconst (v := 1) hx hb dX0_closeParts_191 (by decide) ?_
                                          refine lv_iload hx hb dX0_closeParts_192 (lv_at hl 2 rfl) ?_
                                          refine lv_if_eq (tgt := 202) hx hb dX0_closeParts_194 (by decide) (fun c_ => ?_) (fun c_ => absurd (by decide) c_)
                                          refine lv_iload hx hb dX0_closeParts_202 (lv_at hl 0 rfl) ?_
                                          refine lv_aload_n hx hb dX0_closeParts_204 rfl (lv_at hl 5 rfl) ?_
                                          have go_ := g
                                          refine g_calli (va_runV (As := []) (rest := [.int r_242, .int 1]) ⟨hx, hb, hml, hown, hts⟩ (r_X0_takeHeight l dC dI L kd tys fr_255 H.size g.2.2.2.1 a0_ ma0_ ka0_) (cwV 0 hts (gV_ t_1199 t_1201 t_16 t_190 t_1202) rfl rfl rfl (by decide +kernel) ⟨(Nat.le_of_ble_eq_true rfl), (Nat.le_of_ble_eq_true rfl)⟩) (pre3V g hK ma0_ ka0_ (by decide) (q := (RX0, TX0, 14)) rfl) rfl rfl hl.1 rfl (lv_room (Nat.le_of_ble_eq_true rfl)) dX0_closeParts_205 ⟨(Nat.le_of_ble_eq_true rfl), (Nat.le_of_ble_eq_true rfl)⟩) g hK (by decide) (by decide) (fx' := [(7, 6, q1_, .int x_251), (0, 8, a0_, .int y_67), (8, 6, q0_, .int 1201), (8, 8, q0_, .int x_48), (0, 4, a0_, .ref a_45), (0, 12, a0_, .int 0), (7, 5, q1_, .ref g191_7_5_q1_), (7, 4, q1_, .ref g191_7_4_q1_), (0, 5, a0_, .ref g76_0_5_a0_), (0, 3, a0_, .ref g76_0_3_a0_), (0, 0, a0_, .ref q0_), (0, 2, a0_, .ref q1_)]) rfl (fun r_261 fr_261 H locs hp hMr_261 g => ?_)
                                          obtain ⟨x_262, h_263, hF_264⟩ := hp
                                          have hG_265 := dOK.frame hMr_261 go_.2.2.2.1 mq1_ kq1_ (by decide) (by decide) hG_256
                                          have g := g.more hF_264
                                          refine va_mmax hx hb (hml.trans hl.1.symm) hown (hts _ (List.mem_cons_of_mem _ t_1194)) (hts _ (List.mem_cons_of_mem _ t_1041)) (hts _ (List.mem_cons_of_mem _ t_204)) (hts _ (List.mem_cons_of_mem _ t_1042)) (Nat.le_of_ble_eq_true rfl) (Nat.le_of_ble_eq_true rfl) (Nat.le_of_ble_eq_true rfl) (Nat.le_of_ble_eq_true rfl) dX0_closeParts_208 ?_
                                          refine lv_topi (fun y_266 ey_266 => ?_)
                                          have ty_266 : y_266.toInt = max r_242.toInt r_261.toInt := by rw [ey_266]; exact mmax_ok _ _
                                          have b_267 : bd (-2147483648) 2147483647 y_266 := max_rg ty_266 (bdT r_242) (bdT r_261) (by decide)
                                          refine lv_iadd hx hb dX0_closeParts_211 ?_
                                          refine lv_topi (fun y_268 ey_268 => ?_)
                                          refine lv_istore (lv' := [(6, .int y_268), (2, .int 1), (5, .int 0), (4, .int x_69), (3, .int v4_3), (0, .ref a0_), (1, .int x1_)]) hx hb dX0_closeParts_212 hl (by decide) rfl (fun ls hl => ?_)
                                          refine lv_aload_n hx hb dX0_closeParts_214 rfl (lv_at hl 5 rfl) ?_
                                          refine lv_iload hx hb dX0_closeParts_215 (lv_at hl 0 rfl) ?_
                                          have go_ := g
                                          refine g_callv (va_runV (As := [.int y_268]) (rest := []) ⟨hx, hb, hml, hown, hts⟩ (r_X0_addWhole l dC dI L kd tys fr_261 H.size g.2.2.2.1 a0_ ma0_ ka0_ y_268) (cwV 1 hts (gV_ t_1211 t_1213 t_17 t_190 t_1214) rfl rfl rfl (by decide +kernel) ⟨(Nat.le_of_ble_eq_true rfl), (Nat.le_of_ble_eq_true rfl)⟩) (pre3V g hK ma0_ ka0_ (by decide) (q := (RX0, TX0, 14)) rfl) rfl rfl hl.1 rfl (lv_room (Nat.le_of_ble_eq_true rfl)) dX0_closeParts_217 ⟨(Nat.le_of_ble_eq_true rfl), (Nat.le_of_ble_eq_true rfl)⟩) g hK (by decide) (by decide) (fx' := [(7, 6, q1_, .int x_251), (0, 8, a0_, .int y_67), (8, 6, q0_, .int 1201), (8, 8, q0_, .int x_48), (0, 4, a0_, .ref a_45), (7, 5, q1_, .ref g191_7_5_q1_), (7, 4, q1_, .ref g191_7_4_q1_), (0, 5, a0_, .ref g76_0_5_a0_), (0, 3, a0_, .ref g76_0_3_a0_), (0, 0, a0_, .ref q0_), (0, 2, a0_, .ref q1_)]) rfl (fun fr_269 H locs hp hMr_269 g => ?_)
                                          obtain ⟨x_270, h_271, hF_272⟩ := hp
                                          have hG_273 := dOK.frame hMr_269 go_.2.2.2.1 mq1_ kq1_ (by decide) (by decide) hG_265
                                          have g := g.more hF_272
                                          refine lv_iload hx hb dX0_closeParts_220 (lv_at hl 0 rfl) ?_
                                          refine lv_bipush (v := 12) hx hb dX0_closeParts_222 (by decide) ?_
                                          refine lv_icmp_le (tgt := 245) hx hb dX0_closeParts_224 (by decide) (fun c_274 => ?_) (fun c_274 => ?_)
                                          · have fc_274 := le_f c_274
                                            have b_275 : bd (-2147483648) 12 y_268 := leL fc_274 (bdT y_268) kb_12 (by decide)
                                            obtain ⟨y_276, ey_276⟩ : ∃ z : Int32, z = v4_3 + 1 := ⟨_, rfl⟩
                                            refine lv_iinc (v := y_276) (lv' := [(3, .int y_276), (6, .int y_268), (2, .int 1), (5, .int 0), (4, .int x_69), (0, .ref a0_), (1, .int x1_)]) hx hb dX0_closeParts_245 hl (k := 4) rfl (by rw [ey_276]; rfl) (by decide) rfl (fun ls hl => ?_)
                                            have ty_276 := add_bd ey_276 b_60 kb_1 (by decide)
                                            have b_277 : bd 2 300 y_276 := add_rg ty_276 b_60 kb_1 (by decide)
                                            refine lv_goto (tgt := 4) hx hb dX0_closeParts_248 (by decide) ?_
                                            have hl9 := lv_sub hl [0, 1, 2, 3, 4, 5, 6] (by rfl : lv_pick [(3, .int y_276), (6, .int y_268), (2, .int 1), (5, .int 0), (4, .int x_69), (0, .ref a0_), (1, .int x1_)] [0, 1, 2, 3, 4, 5, 6] = [(3, .int y_276), (6, .int y_268), (2, .int 1), (5, .int 0), (4, .int x_69), (0, .ref a0_), (1, .int x1_)])
                                            have g9 := g.sub (fx' := [(8, 6, q0_, .int 1201), (8, 8, q0_, .int x_48), (0, 4, a0_, .ref a_45), (0, 12, a0_, .int 0), (0, 10, a0_, .int x_270), (7, 6, q1_, .int x_251), (7, 5, q1_, .ref g191_7_5_q1_), (7, 4, q1_, .ref g191_7_4_q1_), (0, 8, a0_, .int y_67), (0, 5, a0_, .ref g76_0_5_a0_), (0, 3, a0_, .ref g76_0_3_a0_), (0, 0, a0_, .ref q0_), (0, 2, a0_, .ref q1_)]) [4, 5, 6, 0, 1, 2, 7, 8, 3, 9, 10, 11, 12] rfl
                                            exact ih4  y_276 y_268 1 0 x_69 x_270 x_251 y_67 (bd_sub b_277 (by decide)) (bd_sub kb_1 (by decide)) (bd_sub kb_0 (by decide)) h_271 h_252 (bd_sub b_68 (by decide)) (by have h9_0 := b_248; unfold bd at h9_0; have h9_1 := b_275; unfold bd at h9_1; have h9_2 := b_277; unfold bd at h9_2; have h9_3 := b_68; unfold bd at h9_3; have h9_4 := bdT v4_4; unfold bd at h9_4; have h9_5 := bdT v4_6; unfold bd at h9_5; have h9_6 := bv4_2; unfold bd at h9_6; have h9_7 := bv4_3; unfold bd at h9_7; have h9_8 := bv4_5; unfold bd at h9_8; have h9_9 := bw4_0_10_a0_; unfold bd at h9_9; have h9_10 := bw4_0_8_a0_; unfold bd at h9_10; have h9_11 := bw4_7_6_q1_; unfold bd at h9_11; have h9_12 := h_252; unfold bd at h9_12; have h9_13 := h_271; unfold bd at h9_13; have h9_14 := kb_0; unfold bd at h9_14; have h9_15 := kb_1; unfold bd at h9_15; have h9_16 := kb_12; unfold bd at h9_16; have h9_17 := kb_205; unfold bd at h9_17; have h9_18 := kb_300; unfold bd at h9_18; have h9_19 := kb_6; unfold bd at h9_19; have h9_20 := kb_7; unfold bd at h9_20; omega) _ _ _ _ g9 hG_273 hl9
                                          · have fc_274 := nle_f c_274
                                            have b_278 : bd 13 2147483647 y_268 := ltR fc_274 kb_12 (bdT y_268) (by decide)
                                            refine lv_aload_n hx hb dX0_closeParts_227 rfl (lv_at hl 5 rfl) ?_
                                            refine g_getk (C := RX0) (T := TX0) (N := 14) hx hb hts (mc_ inX0) hown hK g rfl 0 (by decide) rfl (hts _ (List.mem_cons_of_mem _ t_373)) (fun _ h9 => h9) 11 rfl dX0_closeParts_228 ?_
                                            refine lv_bipush (v := 7) hx hb dX0_closeParts_231 (by decide) ?_
                                            refine lv_aload_n hx hb dX0_closeParts_233 rfl (lv_at hl 5 rfl) ?_
                                            refine g_getk (C := RX0) (T := TX0) (N := 14) hx hb hts (mc_ inX0) hown hK g rfl 4 (by decide) rfl (hts _ (List.mem_cons_of_mem _ t_377)) (fun _ h9 => h9) 6 rfl dX0_closeParts_234 ?_
                                            refine lv_aload_n hx hb dX0_closeParts_237 rfl (lv_at hl 5 rfl) ?_
                                            refine g_getk (C := RX0) (T := TX0) (N := 14) hx hb hts (mc_ inX0) hown hK g rfl 8 (by decide) rfl (hts _ (List.mem_cons_of_mem _ t_381)) (fun _ h9 => h9) 3 rfl dX0_closeParts_238 ?_
                                            refine g_iald hx hb hK g ma_45 ka_45 (by decide) rfl (in_bd b_68 (by decide)) dX0_closeParts_241 (fun x_279 bx_279 cx_279 => ?_)
                                            have go_ := g
                                            refine g_callv (va_runV (As := [.int 7, .int x_279]) (rest := []) ⟨hx, hb, hml, hown, hts⟩ (r_X8_fail_2 l dC dI L kd tys fr_269 H.size g.2.2.2.1 q0_ mq0_ kq0_ 7 (bd_sub kb_7 (by decide)) x_279 x_48 h_49 (g.fcts [5] rfl)) (cwV 2 hts (gV_ t_1215 t_1107 t_1108 t_184 t_1109) rfl rfl rfl (by decide +kernel) ⟨(Nat.le_of_ble_eq_true rfl), (Nat.le_of_ble_eq_true rfl)⟩) (pre3V g hK mq0_ kq0_ (by decide) (q := (RX8, TX8, 10)) rfl) rfl rfl hl.1 rfl (lv_room (Nat.le_of_ble_eq_true rfl)) dX0_closeParts_242 ⟨(Nat.le_of_ble_eq_true rfl), (Nat.le_of_ble_eq_true rfl)⟩) g hK (by decide) (by decide) (fx' := [(0, 12, a0_, .int 0), (0, 10, a0_, .int x_270), (7, 6, q1_, .int x_251), (0, 8, a0_, .int y_67), (8, 8, q0_, .int x_48), (0, 4, a0_, .ref a_45), (7, 5, q1_, .ref g191_7_5_q1_), (7, 4, q1_, .ref g191_7_4_q1_), (0, 5, a0_, .ref g76_0_5_a0_), (0, 3, a0_, .ref g76_0_3_a0_), (0, 0, a0_, .ref q0_), (0, 2, a0_, .ref q1_)]) rfl (fun fr_280 H locs hp hMr_280 g => ?_)
                                            have hF_281 := hp
                                            have hG_282 := dOK.frame hMr_280 go_.2.2.2.1 mq1_ kq1_ (by decide) (by decide) hG_273
                                            have g := g.more hF_281
                                            obtain ⟨y_283, ey_283⟩ : ∃ z : Int32, z = v4_3 + 1 := ⟨_, rfl⟩
                                            refine lv_iinc (v := y_283) (lv' := [(3, .int y_283), (6, .int y_268), (2, .int 1), (5, .int 0), (4, .int x_69), (0, .ref a0_), (1, .int x1_)]) hx hb dX0_closeParts_245 hl (k := 4) rfl (by rw [ey_283]; rfl) (by decide) rfl (fun ls hl => ?_)
                                            have ty_283 := add_bd ey_283 b_60 kb_1 (by decide)
                                            have b_284 : bd 2 300 y_283 := add_rg ty_283 b_60 kb_1 (by decide)
                                            refine lv_goto (tgt := 4) hx hb dX0_closeParts_248 (by decide) ?_
                                            have hl9 := lv_sub hl [0, 1, 2, 3, 4, 5, 6] (by rfl : lv_pick [(3, .int y_283), (6, .int y_268), (2, .int 1), (5, .int 0), (4, .int x_69), (0, .ref a0_), (1, .int x1_)] [0, 1, 2, 3, 4, 5, 6] = [(3, .int y_283), (6, .int y_268), (2, .int 1), (5, .int 0), (4, .int x_69), (0, .ref a0_), (1, .int x1_)])
                                            have g9 := g.sub (fx' := [(8, 6, q0_, .int 1201), (8, 8, q0_, .int x_48), (0, 4, a0_, .ref a_45), (0, 12, a0_, .int 0), (0, 10, a0_, .int x_270), (7, 6, q1_, .int x_251), (7, 5, q1_, .ref g191_7_5_q1_), (7, 4, q1_, .ref g191_7_4_q1_), (0, 8, a0_, .int y_67), (0, 5, a0_, .ref g76_0_5_a0_), (0, 3, a0_, .ref g76_0_3_a0_), (0, 0, a0_, .ref q0_), (0, 2, a0_, .ref q1_)]) [0, 5, 6, 1, 2, 3, 7, 8, 4, 9, 10, 11, 12] rfl
                                            exact ih4  y_283 y_268 1 0 x_69 x_270 x_251 y_67 (bd_sub b_284 (by decide)) (bd_sub kb_1 (by decide)) (bd_sub kb_0 (by decide)) h_271 h_252 (bd_sub b_68 (by decide)) (by have h9_0 := b_248; unfold bd at h9_0; have h9_1 := b_278; unfold bd at h9_1; have h9_2 := b_284; unfold bd at h9_2; have h9_3 := b_68; unfold bd at h9_3; have h9_4 := bdT v4_4; unfold bd at h9_4; have h9_5 := bdT v4_6; unfold bd at h9_5; have h9_6 := bv4_2; unfold bd at h9_6; have h9_7 := bv4_3; unfold bd at h9_7; have h9_8 := bv4_5; unfold bd at h9_8; have h9_9 := bw4_0_10_a0_; unfold bd at h9_9; have h9_10 := bw4_0_8_a0_; unfold bd at h9_10; have h9_11 := bw4_7_6_q1_; unfold bd at h9_11; have h9_12 := h_252; unfold bd at h9_12; have h9_13 := h_271; unfold bd at h9_13; have h9_14 := kb_0; unfold bd at h9_14; have h9_15 := kb_1; unfold bd at h9_15; have h9_16 := kb_12; unfold bd at h9_16; have h9_17 := kb_205; unfold bd at h9_17; have h9_18 := kb_300; unfold bd at h9_18; have h9_19 := kb_6; unfold bd at h9_19; have h9_20 := kb_7; unfold bd at h9_20; omega) _ _ _ _ g9 hG_282 hl9
                                        · have fc_247 := neq_f c_247
                                          refine lv_iload hx hb dX0_closeParts_144 (lv_at hl 3 rfl) ?_
                                          refine lv_sipush (v := 206) hx hb dX0_closeParts_146 (by decide) ?_
                                          have kb_206 : bd 206 206 (206 : Int32) := ⟨by decide, by decide⟩
                                          refine lv_icmp_ne (tgt := 181) hx hb dX0_closeParts_149 (by decide) (fun c_285 => ?_) (fun c_285 => ?_)
                                          · have fc_285 := neq_f c_285
                                            have b_286 : bd 37 205 x_69 := neX fc_285 b_233 kb_206 (by decide)
                                            refine lv_aload_n hx hb dX0_closeParts_181 rfl (lv_at hl 5 rfl) ?_
                                            refine g_getk (C := RX0) (T := TX0) (N := 14) hx hb hts (mc_ inX0) hown hK g rfl 2 (by decide) rfl (hts _ (List.mem_cons_of_mem _ t_375)) (fun _ h9 => h9) 12 rfl dX0_closeParts_182 ?_
                                            refine lv_iload hx hb dX0_closeParts_185 (lv_at hl 3 rfl) ?_
                                            refine lv_iconst (v := 0) hx hb dX0_closeParts_187 (by decide) ?_
                                            have go_ := g
                                            refine g_callv (va_runV (As := [.int x_69, .int 0]) (rest := []) ⟨hx, hb, hml, hown, hts⟩ (r_X7_emitF l dC dI L kd tys fr_242 H.size g.2.2.2.1 q1_ mq1_ kq1_ g191_7_4_q1_ mg191_7_4_q1_ kg191_7_4_q1_ g191_7_5_q1_ mg191_7_5_q1_ kg191_7_5_q1_ w4_7_6_q1_ bw4_7_6_q1_ T_ hG_246 x_69 (0 : Int32) (g.fcts [8, 7, 6] rfl)) (cwV 2 hts (gV_ t_1203 t_1204 t_1205 t_191 t_1206) rfl rfl rfl (by decide +kernel) ⟨(Nat.le_of_ble_eq_true rfl), (Nat.le_of_ble_eq_true rfl)⟩) (pre3V g hK mq1_ kq1_ (by decide) (q := (RX7, TX7, 19)) rfl) rfl rfl hl.1 rfl (lv_room (Nat.le_of_ble_eq_true rfl)) dX0_closeParts_188 ⟨(Nat.le_of_ble_eq_true rfl), (Nat.le_of_ble_eq_true rfl)⟩) g hK (by decide) (by decide) (fx' := [(0, 10, a0_, .int x_243), (0, 8, a0_, .int y_67), (8, 6, q0_, .int 1201), (8, 8, q0_, .int x_48), (0, 4, a0_, .ref a_45), (0, 12, a0_, .int 0), (7, 5, q1_, .ref g191_7_5_q1_), (7, 4, q1_, .ref g191_7_4_q1_), (0, 5, a0_, .ref g76_0_5_a0_), (0, 3, a0_, .ref g76_0_3_a0_), (0, 0, a0_, .ref q0_), (0, 2, a0_, .ref q1_)]) rfl (fun fr_287 H locs hp hMr_287 g => ?_)
                                            obtain ⟨hG_288, x_289, h_290, hF_291⟩ := hp
                                            have g := g.more hF_291
                                            refine lv_iconst (v := 1) hx hb dX0_closeParts_191 (by decide) ?_
                                            refine lv_iload hx hb dX0_closeParts_192 (lv_at hl 2 rfl) ?_
                                            refine lv_if_eq (tgt := 202) hx hb dX0_closeParts_194 (by decide) (fun c_ => ?_) (fun c_ => absurd (by decide) c_)
                                            refine lv_iload hx hb dX0_closeParts_202 (lv_at hl 0 rfl) ?_
                                            refine lv_aload_n hx hb dX0_closeParts_204 rfl (lv_at hl 5 rfl) ?_
                                            have go_ := g
                                            refine g_calli (va_runV (As := []) (rest := [.int r_242, .int 1]) ⟨hx, hb, hml, hown, hts⟩ (r_X0_takeHeight l dC dI L kd tys fr_287 H.size g.2.2.2.1 a0_ ma0_ ka0_) (cwV 0 hts (gV_ t_1199 t_1201 t_16 t_190 t_1202) rfl rfl rfl (by decide +kernel) ⟨(Nat.le_of_ble_eq_true rfl), (Nat.le_of_ble_eq_true rfl)⟩) (pre3V g hK ma0_ ka0_ (by decide) (q := (RX0, TX0, 14)) rfl) rfl rfl hl.1 rfl (lv_room (Nat.le_of_ble_eq_true rfl)) dX0_closeParts_205 ⟨(Nat.le_of_ble_eq_true rfl), (Nat.le_of_ble_eq_true rfl)⟩) g hK (by decide) (by decide) (fx' := [(7, 6, q1_, .int x_289), (0, 8, a0_, .int y_67), (8, 6, q0_, .int 1201), (8, 8, q0_, .int x_48), (0, 4, a0_, .ref a_45), (0, 12, a0_, .int 0), (7, 5, q1_, .ref g191_7_5_q1_), (7, 4, q1_, .ref g191_7_4_q1_), (0, 5, a0_, .ref g76_0_5_a0_), (0, 3, a0_, .ref g76_0_3_a0_), (0, 0, a0_, .ref q0_), (0, 2, a0_, .ref q1_)]) rfl (fun r_292 fr_292 H locs hp hMr_292 g => ?_)
                                            obtain ⟨x_293, h_294, hF_295⟩ := hp
                                            have hG_296 := dOK.frame hMr_292 go_.2.2.2.1 mq1_ kq1_ (by decide) (by decide) hG_288
                                            have g := g.more hF_295
                                            refine va_mmax hx hb (hml.trans hl.1.symm) hown (hts _ (List.mem_cons_of_mem _ t_1194)) (hts _ (List.mem_cons_of_mem _ t_1041)) (hts _ (List.mem_cons_of_mem _ t_204)) (hts _ (List.mem_cons_of_mem _ t_1042)) (Nat.le_of_ble_eq_true rfl) (Nat.le_of_ble_eq_true rfl) (Nat.le_of_ble_eq_true rfl) (Nat.le_of_ble_eq_true rfl) dX0_closeParts_208 ?_
                                            refine lv_topi (fun y_297 ey_297 => ?_)
                                            have ty_297 : y_297.toInt = max r_242.toInt r_292.toInt := by rw [ey_297]; exact mmax_ok _ _
                                            have b_298 : bd (-2147483648) 2147483647 y_297 := max_rg ty_297 (bdT r_242) (bdT r_292) (by decide)
                                            refine lv_iadd hx hb dX0_closeParts_211 ?_
                                            refine lv_topi (fun y_299 ey_299 => ?_)
                                            refine lv_istore (lv' := [(6, .int y_299), (2, .int 1), (5, .int 0), (4, .int x_69), (3, .int v4_3), (0, .ref a0_), (1, .int x1_)]) hx hb dX0_closeParts_212 hl (by decide) rfl (fun ls hl => ?_)
                                            refine lv_aload_n hx hb dX0_closeParts_214 rfl (lv_at hl 5 rfl) ?_
                                            refine lv_iload hx hb dX0_closeParts_215 (lv_at hl 0 rfl) ?_
                                            have go_ := g
                                            refine g_callv (va_runV (As := [.int y_299]) (rest := []) ⟨hx, hb, hml, hown, hts⟩ (r_X0_addWhole l dC dI L kd tys fr_292 H.size g.2.2.2.1 a0_ ma0_ ka0_ y_299) (cwV 1 hts (gV_ t_1211 t_1213 t_17 t_190 t_1214) rfl rfl rfl (by decide +kernel) ⟨(Nat.le_of_ble_eq_true rfl), (Nat.le_of_ble_eq_true rfl)⟩) (pre3V g hK ma0_ ka0_ (by decide) (q := (RX0, TX0, 14)) rfl) rfl rfl hl.1 rfl (lv_room (Nat.le_of_ble_eq_true rfl)) dX0_closeParts_217 ⟨(Nat.le_of_ble_eq_true rfl), (Nat.le_of_ble_eq_true rfl)⟩) g hK (by decide) (by decide) (fx' := [(7, 6, q1_, .int x_289), (0, 8, a0_, .int y_67), (8, 6, q0_, .int 1201), (8, 8, q0_, .int x_48), (0, 4, a0_, .ref a_45), (7, 5, q1_, .ref g191_7_5_q1_), (7, 4, q1_, .ref g191_7_4_q1_), (0, 5, a0_, .ref g76_0_5_a0_), (0, 3, a0_, .ref g76_0_3_a0_), (0, 0, a0_, .ref q0_), (0, 2, a0_, .ref q1_)]) rfl (fun fr_300 H locs hp hMr_300 g => ?_)
                                            obtain ⟨x_301, h_302, hF_303⟩ := hp
                                            have hG_304 := dOK.frame hMr_300 go_.2.2.2.1 mq1_ kq1_ (by decide) (by decide) hG_296
                                            have g := g.more hF_303
                                            refine lv_iload hx hb dX0_closeParts_220 (lv_at hl 0 rfl) ?_
                                            refine lv_bipush (v := 12) hx hb dX0_closeParts_222 (by decide) ?_
                                            refine lv_icmp_le (tgt := 245) hx hb dX0_closeParts_224 (by decide) (fun c_305 => ?_) (fun c_305 => ?_)
                                            · have fc_305 := le_f c_305
                                              have b_306 : bd (-2147483648) 12 y_299 := leL fc_305 (bdT y_299) kb_12 (by decide)
                                              obtain ⟨y_307, ey_307⟩ : ∃ z : Int32, z = v4_3 + 1 := ⟨_, rfl⟩
                                              refine lv_iinc (v := y_307) (lv' := [(3, .int y_307), (6, .int y_299), (2, .int 1), (5, .int 0), (4, .int x_69), (0, .ref a0_), (1, .int x1_)]) hx hb dX0_closeParts_245 hl (k := 4) rfl (by rw [ey_307]; rfl) (by decide) rfl (fun ls hl => ?_)
                                              have ty_307 := add_bd ey_307 b_60 kb_1 (by decide)
                                              have b_308 : bd 2 300 y_307 := add_rg ty_307 b_60 kb_1 (by decide)
                                              refine lv_goto (tgt := 4) hx hb dX0_closeParts_248 (by decide) ?_
                                              have hl9 := lv_sub hl [0, 1, 2, 3, 4, 5, 6] (by rfl : lv_pick [(3, .int y_307), (6, .int y_299), (2, .int 1), (5, .int 0), (4, .int x_69), (0, .ref a0_), (1, .int x1_)] [0, 1, 2, 3, 4, 5, 6] = [(3, .int y_307), (6, .int y_299), (2, .int 1), (5, .int 0), (4, .int x_69), (0, .ref a0_), (1, .int x1_)])
                                              have g9 := g.sub (fx' := [(8, 6, q0_, .int 1201), (8, 8, q0_, .int x_48), (0, 4, a0_, .ref a_45), (0, 12, a0_, .int 0), (0, 10, a0_, .int x_301), (7, 6, q1_, .int x_289), (7, 5, q1_, .ref g191_7_5_q1_), (7, 4, q1_, .ref g191_7_4_q1_), (0, 8, a0_, .int y_67), (0, 5, a0_, .ref g76_0_5_a0_), (0, 3, a0_, .ref g76_0_3_a0_), (0, 0, a0_, .ref q0_), (0, 2, a0_, .ref q1_)]) [4, 5, 6, 0, 1, 2, 7, 8, 3, 9, 10, 11, 12] rfl
                                              exact ih4  y_307 y_299 1 0 x_69 x_301 x_289 y_67 (bd_sub b_308 (by decide)) (bd_sub kb_1 (by decide)) (bd_sub kb_0 (by decide)) h_302 h_290 (bd_sub b_68 (by decide)) (by have h9_0 := b_286; unfold bd at h9_0; have h9_1 := b_306; unfold bd at h9_1; have h9_2 := b_308; unfold bd at h9_2; have h9_3 := b_68; unfold bd at h9_3; have h9_4 := bdT v4_4; unfold bd at h9_4; have h9_5 := bdT v4_6; unfold bd at h9_5; have h9_6 := bv4_2; unfold bd at h9_6; have h9_7 := bv4_3; unfold bd at h9_7; have h9_8 := bv4_5; unfold bd at h9_8; have h9_9 := bw4_0_10_a0_; unfold bd at h9_9; have h9_10 := bw4_0_8_a0_; unfold bd at h9_10; have h9_11 := bw4_7_6_q1_; unfold bd at h9_11; have h9_12 := h_290; unfold bd at h9_12; have h9_13 := h_302; unfold bd at h9_13; have h9_14 := kb_0; unfold bd at h9_14; have h9_15 := kb_1; unfold bd at h9_15; have h9_16 := kb_12; unfold bd at h9_16; have h9_17 := kb_205; unfold bd at h9_17; have h9_18 := kb_206; unfold bd at h9_18; have h9_19 := kb_300; unfold bd at h9_19; have h9_20 := kb_6; unfold bd at h9_20; have h9_21 := kb_7; unfold bd at h9_21; omega) _ _ _ _ g9 hG_304 hl9
                                            · have fc_305 := nle_f c_305
                                              have b_309 : bd 13 2147483647 y_299 := ltR fc_305 kb_12 (bdT y_299) (by decide)
                                              refine lv_aload_n hx hb dX0_closeParts_227 rfl (lv_at hl 5 rfl) ?_
                                              refine g_getk (C := RX0) (T := TX0) (N := 14) hx hb hts (mc_ inX0) hown hK g rfl 0 (by decide) rfl (hts _ (List.mem_cons_of_mem _ t_373)) (fun _ h9 => h9) 11 rfl dX0_closeParts_228 ?_
                                              refine lv_bipush (v := 7) hx hb dX0_closeParts_231 (by decide) ?_
                                              refine lv_aload_n hx hb dX0_closeParts_233 rfl (lv_at hl 5 rfl) ?_
                                              refine g_getk (C := RX0) (T := TX0) (N := 14) hx hb hts (mc_ inX0) hown hK g rfl 4 (by decide) rfl (hts _ (List.mem_cons_of_mem _ t_377)) (fun _ h9 => h9) 6 rfl dX0_closeParts_234 ?_
                                              refine lv_aload_n hx hb dX0_closeParts_237 rfl (lv_at hl 5 rfl) ?_
                                              refine g_getk (C := RX0) (T := TX0) (N := 14) hx hb hts (mc_ inX0) hown hK g rfl 8 (by decide) rfl (hts _ (List.mem_cons_of_mem _ t_381)) (fun _ h9 => h9) 3 rfl dX0_closeParts_238 ?_
                                              refine g_iald hx hb hK g ma_45 ka_45 (by decide) rfl (in_bd b_68 (by decide)) dX0_closeParts_241 (fun x_310 bx_310 cx_310 => ?_)
                                              have go_ := g
                                              refine g_callv (va_runV (As := [.int 7, .int x_310]) (rest := []) ⟨hx, hb, hml, hown, hts⟩ (r_X8_fail_2 l dC dI L kd tys fr_300 H.size g.2.2.2.1 q0_ mq0_ kq0_ 7 (bd_sub kb_7 (by decide)) x_310 x_48 h_49 (g.fcts [5] rfl)) (cwV 2 hts (gV_ t_1215 t_1107 t_1108 t_184 t_1109) rfl rfl rfl (by decide +kernel) ⟨(Nat.le_of_ble_eq_true rfl), (Nat.le_of_ble_eq_true rfl)⟩) (pre3V g hK mq0_ kq0_ (by decide) (q := (RX8, TX8, 10)) rfl) rfl rfl hl.1 rfl (lv_room (Nat.le_of_ble_eq_true rfl)) dX0_closeParts_242 ⟨(Nat.le_of_ble_eq_true rfl), (Nat.le_of_ble_eq_true rfl)⟩) g hK (by decide) (by decide) (fx' := [(0, 12, a0_, .int 0), (0, 10, a0_, .int x_301), (7, 6, q1_, .int x_289), (0, 8, a0_, .int y_67), (8, 8, q0_, .int x_48), (0, 4, a0_, .ref a_45), (7, 5, q1_, .ref g191_7_5_q1_), (7, 4, q1_, .ref g191_7_4_q1_), (0, 5, a0_, .ref g76_0_5_a0_), (0, 3, a0_, .ref g76_0_3_a0_), (0, 0, a0_, .ref q0_), (0, 2, a0_, .ref q1_)]) rfl (fun fr_311 H locs hp hMr_311 g => ?_)
                                              have hF_312 := hp
                                              have hG_313 := dOK.frame hMr_311 go_.2.2.2.1 mq1_ kq1_ (by decide) (by decide) hG_304
                                              have g := g.more hF_312
                                              obtain ⟨y_314, ey_314⟩ : ∃ z : Int32, z = v4_3 + 1 := ⟨_, rfl⟩
                                              refine lv_iinc (v := y_314) (lv' := [(3, .int y_314), (6, .int y_299), (2, .int 1), (5, .int 0), (4, .int x_69), (0, .ref a0_), (1, .int x1_)]) hx hb dX0_closeParts_245 hl (k := 4) rfl (by rw [ey_314]; rfl) (by decide) rfl (fun ls hl => ?_)
                                              have ty_314 := add_bd ey_314 b_60 kb_1 (by decide)
                                              have b_315 : bd 2 300 y_314 := add_rg ty_314 b_60 kb_1 (by decide)
                                              refine lv_goto (tgt := 4) hx hb dX0_closeParts_248 (by decide) ?_
                                              have hl9 := lv_sub hl [0, 1, 2, 3, 4, 5, 6] (by rfl : lv_pick [(3, .int y_314), (6, .int y_299), (2, .int 1), (5, .int 0), (4, .int x_69), (0, .ref a0_), (1, .int x1_)] [0, 1, 2, 3, 4, 5, 6] = [(3, .int y_314), (6, .int y_299), (2, .int 1), (5, .int 0), (4, .int x_69), (0, .ref a0_), (1, .int x1_)])
                                              have g9 := g.sub (fx' := [(8, 6, q0_, .int 1201), (8, 8, q0_, .int x_48), (0, 4, a0_, .ref a_45), (0, 12, a0_, .int 0), (0, 10, a0_, .int x_301), (7, 6, q1_, .int x_289), (7, 5, q1_, .ref g191_7_5_q1_), (7, 4, q1_, .ref g191_7_4_q1_), (0, 8, a0_, .int y_67), (0, 5, a0_, .ref g76_0_5_a0_), (0, 3, a0_, .ref g76_0_3_a0_), (0, 0, a0_, .ref q0_), (0, 2, a0_, .ref q1_)]) [0, 5, 6, 1, 2, 3, 7, 8, 4, 9, 10, 11, 12] rfl
                                              exact ih4  y_314 y_299 1 0 x_69 x_301 x_289 y_67 (bd_sub b_315 (by decide)) (bd_sub kb_1 (by decide)) (bd_sub kb_0 (by decide)) h_302 h_290 (bd_sub b_68 (by decide)) (by have h9_0 := b_286; unfold bd at h9_0; have h9_1 := b_309; unfold bd at h9_1; have h9_2 := b_315; unfold bd at h9_2; have h9_3 := b_68; unfold bd at h9_3; have h9_4 := bdT v4_4; unfold bd at h9_4; have h9_5 := bdT v4_6; unfold bd at h9_5; have h9_6 := bv4_2; unfold bd at h9_6; have h9_7 := bv4_3; unfold bd at h9_7; have h9_8 := bv4_5; unfold bd at h9_8; have h9_9 := bw4_0_10_a0_; unfold bd at h9_9; have h9_10 := bw4_0_8_a0_; unfold bd at h9_10; have h9_11 := bw4_7_6_q1_; unfold bd at h9_11; have h9_12 := h_290; unfold bd at h9_12; have h9_13 := h_302; unfold bd at h9_13; have h9_14 := kb_0; unfold bd at h9_14; have h9_15 := kb_1; unfold bd at h9_15; have h9_16 := kb_12; unfold bd at h9_16; have h9_17 := kb_205; unfold bd at h9_17; have h9_18 := kb_206; unfold bd at h9_18; have h9_19 := kb_300; unfold bd at h9_19; have h9_20 := kb_6; unfold bd at h9_20; have h9_21 := kb_7; unfold bd at h9_21; omega) _ _ _ _ g9 hG_313 hl9
                                          · have fc_285 := eq_f c_285
                                            have b_316 : bd 206 206 x_69 := eqX fc_285 b_233 kb_206 (by decide)
                                            refine lv_aload_n hx hb dX0_closeParts_152 rfl (lv_at hl 5 rfl) ?_
                                            refine g_getk (C := RX0) (T := TX0) (N := 14) hx hb hts (mc_ inX0) hown hK g rfl 2 (by decide) rfl (hts _ (List.mem_cons_of_mem _ t_375)) (fun _ h9 => h9) 12 rfl dX0_closeParts_153 ?_
                                            refine lv_bipush (v := 8) hx hb dX0_closeParts_156 (by decide) ?_
                                            refine lv_iconst (v := 0) hx hb dX0_closeParts_158 (by decide) ?_
                                            have go_ := g
                                            refine g_callv (va_runV (As := [.int 8, .int 0]) (rest := []) ⟨hx, hb, hml, hown, hts⟩ (r_X7_emitF l dC dI L kd tys fr_242 H.size g.2.2.2.1 q1_ mq1_ kq1_ g191_7_4_q1_ mg191_7_4_q1_ kg191_7_4_q1_ g191_7_5_q1_ mg191_7_5_q1_ kg191_7_5_q1_ w4_7_6_q1_ bw4_7_6_q1_ T_ hG_246 (8 : Int32) (0 : Int32) (g.fcts [8, 7, 6] rfl)) (cwV 2 hts (gV_ t_1203 t_1204 t_1205 t_191 t_1206) rfl rfl rfl (by decide +kernel) ⟨(Nat.le_of_ble_eq_true rfl), (Nat.le_of_ble_eq_true rfl)⟩) (pre3V g hK mq1_ kq1_ (by decide) (q := (RX7, TX7, 19)) rfl) rfl rfl hl.1 rfl (lv_room (Nat.le_of_ble_eq_true rfl)) dX0_closeParts_159 ⟨(Nat.le_of_ble_eq_true rfl), (Nat.le_of_ble_eq_true rfl)⟩) g hK (by decide) (by decide) (fx' := [(0, 10, a0_, .int x_243), (0, 8, a0_, .int y_67), (8, 6, q0_, .int 1201), (8, 8, q0_, .int x_48), (0, 4, a0_, .ref a_45), (0, 12, a0_, .int 0), (7, 5, q1_, .ref g191_7_5_q1_), (7, 4, q1_, .ref g191_7_4_q1_), (0, 5, a0_, .ref g76_0_5_a0_), (0, 3, a0_, .ref g76_0_3_a0_), (0, 0, a0_, .ref q0_), (0, 2, a0_, .ref q1_)]) rfl (fun fr_317 H locs hp hMr_317 g => ?_)
                                            obtain ⟨hG_318, x_319, h_320, hF_321⟩ := hp
                                            have g := g.more hF_321
                                            refine lv_aload_n hx hb dX0_closeParts_162 rfl (lv_at hl 5 rfl) ?_
                                            refine g_getk (C := RX0) (T := TX0) (N := 14) hx hb hts (mc_ inX0) hown hK g rfl 2 (by decide) rfl (hts _ (List.mem_cons_of_mem _ t_375)) (fun _ h9 => h9) 12 rfl dX0_closeParts_163 ?_
                                            refine lv_aload_n hx hb dX0_closeParts_166 rfl (lv_at hl 5 rfl) ?_
                                            refine g_getk (C := RX0) (T := TX0) (N := 14) hx hb hts (mc_ inX0) hown hK g rfl 5 (by decide) rfl (hts _ (List.mem_cons_of_mem _ t_378)) (fun _ h9 => h9) 9 rfl dX0_closeParts_167 ?_
                                            refine lv_aload_n hx hb dX0_closeParts_170 rfl (lv_at hl 5 rfl) ?_
                                            refine g_getk (C := RX0) (T := TX0) (N := 14) hx hb hts (mc_ inX0) hown hK g rfl 8 (by decide) rfl (hts _ (List.mem_cons_of_mem _ t_381)) (fun _ h9 => h9) 2 rfl dX0_closeParts_171 ?_
                                            refine g_iald hx hb hK g mg76_0_5_a0_ kg76_0_5_a0_ (by decide) rfl (in_bd b_68 (by decide)) dX0_closeParts_174 (fun x_322 bx_322 cx_322 => ?_)
                                            have go_ := g
                                            refine g_callv (va_runV (As := [.int x_322]) (rest := []) ⟨hx, hb, hml, hown, hts⟩ (r_X7_leadHereF l dC dI L kd tys fr_317 H.size g.2.2.2.1 q1_ mq1_ kq1_ g191_7_4_q1_ mg191_7_4_q1_ kg191_7_4_q1_ g191_7_5_q1_ mg191_7_5_q1_ kg191_7_5_q1_ x_319 h_320 T_ hG_318 x_322 (g.fcts [8, 7, 0] rfl)) (cwV 1 hts (gV_ t_1207 t_1208 t_1209 t_191 t_1210) rfl rfl rfl (by decide +kernel) ⟨(Nat.le_of_ble_eq_true rfl), (Nat.le_of_ble_eq_true rfl)⟩) (pre3V g hK mq1_ kq1_ (by decide) (q := (RX7, TX7, 19)) rfl) rfl rfl hl.1 rfl (lv_room (Nat.le_of_ble_eq_true rfl)) dX0_closeParts_175 ⟨(Nat.le_of_ble_eq_true rfl), (Nat.le_of_ble_eq_true rfl)⟩) g hK (by decide) (by decide) (fx' := [(7, 6, q1_, .int x_319), (0, 10, a0_, .int x_243), (0, 8, a0_, .int y_67), (8, 6, q0_, .int 1201), (8, 8, q0_, .int x_48), (0, 4, a0_, .ref a_45), (0, 12, a0_, .int 0), (7, 5, q1_, .ref g191_7_5_q1_), (7, 4, q1_, .ref g191_7_4_q1_), (0, 5, a0_, .ref g76_0_5_a0_), (0, 3, a0_, .ref g76_0_3_a0_), (0, 0, a0_, .ref q0_), (0, 2, a0_, .ref q1_)]) rfl (fun fr_323 H locs hp hMr_323 g => ?_)
                                            obtain ⟨hG_324, x_325, h_326, hF_327⟩ := hp
                                            have g := g.more hF_327
                                            have e_328 := fx_same g 1 0 rfl rfl
                                            have g := g.sub (fx' := [(7, 6, q1_, .int x_319), (0, 10, a0_, .int x_243), (0, 8, a0_, .int y_67), (8, 6, q0_, .int 1201), (8, 8, q0_, .int x_48), (0, 4, a0_, .ref a_45), (0, 12, a0_, .int 0), (7, 5, q1_, .ref g191_7_5_q1_), (7, 4, q1_, .ref g191_7_4_q1_), (0, 5, a0_, .ref g76_0_5_a0_), (0, 3, a0_, .ref g76_0_3_a0_), (0, 0, a0_, .ref q0_), (0, 2, a0_, .ref q1_)]) [1, 2, 3, 4, 5, 6, 7, 8, 9, 10, 11, 12, 13] rfl
                                            refine lv_goto (tgt := 191) hx hb dX0_closeParts_178 (by decide) ?_
                                            refine lv_iconst (v := 1) hx hb dX0_closeParts_191 (by decide) ?_
                                            refine lv_iload hx hb dX0_closeParts_192 (lv_at hl 2 rfl) ?_
                                            refine lv_if_eq (tgt := 202) hx hb dX0_closeParts_194 (by decide) (fun c_ => ?_) (fun c_ => absurd (by decide) c_)
                                            refine lv_iload hx hb dX0_closeParts_202 (lv_at hl 0 rfl) ?_
                                            refine lv_aload_n hx hb dX0_closeParts_204 rfl (lv_at hl 5 rfl) ?_
                                            have go_ := g
                                            refine g_calli (va_runV (As := []) (rest := [.int r_242, .int 1]) ⟨hx, hb, hml, hown, hts⟩ (r_X0_takeHeight l dC dI L kd tys fr_323 H.size g.2.2.2.1 a0_ ma0_ ka0_) (cwV 0 hts (gV_ t_1199 t_1201 t_16 t_190 t_1202) rfl rfl rfl (by decide +kernel) ⟨(Nat.le_of_ble_eq_true rfl), (Nat.le_of_ble_eq_true rfl)⟩) (pre3V g hK ma0_ ka0_ (by decide) (q := (RX0, TX0, 14)) rfl) rfl rfl hl.1 rfl (lv_room (Nat.le_of_ble_eq_true rfl)) dX0_closeParts_205 ⟨(Nat.le_of_ble_eq_true rfl), (Nat.le_of_ble_eq_true rfl)⟩) g hK (by decide) (by decide) (fx' := [(7, 6, q1_, .int x_319), (0, 8, a0_, .int y_67), (8, 6, q0_, .int 1201), (8, 8, q0_, .int x_48), (0, 4, a0_, .ref a_45), (0, 12, a0_, .int 0), (7, 5, q1_, .ref g191_7_5_q1_), (7, 4, q1_, .ref g191_7_4_q1_), (0, 5, a0_, .ref g76_0_5_a0_), (0, 3, a0_, .ref g76_0_3_a0_), (0, 0, a0_, .ref q0_), (0, 2, a0_, .ref q1_)]) rfl (fun r_329 fr_329 H locs hp hMr_329 g => ?_)
                                            obtain ⟨x_330, h_331, hF_332⟩ := hp
                                            have hG_333 := dOK.frame hMr_329 go_.2.2.2.1 mq1_ kq1_ (by decide) (by decide) hG_324
                                            have g := g.more hF_332
                                            refine va_mmax hx hb (hml.trans hl.1.symm) hown (hts _ (List.mem_cons_of_mem _ t_1194)) (hts _ (List.mem_cons_of_mem _ t_1041)) (hts _ (List.mem_cons_of_mem _ t_204)) (hts _ (List.mem_cons_of_mem _ t_1042)) (Nat.le_of_ble_eq_true rfl) (Nat.le_of_ble_eq_true rfl) (Nat.le_of_ble_eq_true rfl) (Nat.le_of_ble_eq_true rfl) dX0_closeParts_208 ?_
                                            refine lv_topi (fun y_334 ey_334 => ?_)
                                            have ty_334 : y_334.toInt = max r_242.toInt r_329.toInt := by rw [ey_334]; exact mmax_ok _ _
                                            have b_335 : bd (-2147483648) 2147483647 y_334 := max_rg ty_334 (bdT r_242) (bdT r_329) (by decide)
                                            refine lv_iadd hx hb dX0_closeParts_211 ?_
                                            refine lv_topi (fun y_336 ey_336 => ?_)
                                            refine lv_istore (lv' := [(6, .int y_336), (2, .int 1), (5, .int 0), (4, .int x_69), (3, .int v4_3), (0, .ref a0_), (1, .int x1_)]) hx hb dX0_closeParts_212 hl (by decide) rfl (fun ls hl => ?_)
                                            refine lv_aload_n hx hb dX0_closeParts_214 rfl (lv_at hl 5 rfl) ?_
                                            refine lv_iload hx hb dX0_closeParts_215 (lv_at hl 0 rfl) ?_
                                            have go_ := g
                                            refine g_callv (va_runV (As := [.int y_336]) (rest := []) ⟨hx, hb, hml, hown, hts⟩ (r_X0_addWhole l dC dI L kd tys fr_329 H.size g.2.2.2.1 a0_ ma0_ ka0_ y_336) (cwV 1 hts (gV_ t_1211 t_1213 t_17 t_190 t_1214) rfl rfl rfl (by decide +kernel) ⟨(Nat.le_of_ble_eq_true rfl), (Nat.le_of_ble_eq_true rfl)⟩) (pre3V g hK ma0_ ka0_ (by decide) (q := (RX0, TX0, 14)) rfl) rfl rfl hl.1 rfl (lv_room (Nat.le_of_ble_eq_true rfl)) dX0_closeParts_217 ⟨(Nat.le_of_ble_eq_true rfl), (Nat.le_of_ble_eq_true rfl)⟩) g hK (by decide) (by decide) (fx' := [(7, 6, q1_, .int x_319), (0, 8, a0_, .int y_67), (8, 6, q0_, .int 1201), (8, 8, q0_, .int x_48), (0, 4, a0_, .ref a_45), (7, 5, q1_, .ref g191_7_5_q1_), (7, 4, q1_, .ref g191_7_4_q1_), (0, 5, a0_, .ref g76_0_5_a0_), (0, 3, a0_, .ref g76_0_3_a0_), (0, 0, a0_, .ref q0_), (0, 2, a0_, .ref q1_)]) rfl (fun fr_337 H locs hp hMr_337 g => ?_)
                                            obtain ⟨x_338, h_339, hF_340⟩ := hp
                                            have hG_341 := dOK.frame hMr_337 go_.2.2.2.1 mq1_ kq1_ (by decide) (by decide) hG_333
                                            have g := g.more hF_340
                                            refine lv_iload hx hb dX0_closeParts_220 (lv_at hl 0 rfl) ?_
                                            refine lv_bipush (v := 12) hx hb dX0_closeParts_222 (by decide) ?_
                                            refine lv_icmp_le (tgt := 245) hx hb dX0_closeParts_224 (by decide) (fun c_342 => ?_) (fun c_342 => ?_)
                                            · have fc_342 := le_f c_342
                                              have b_343 : bd (-2147483648) 12 y_336 := leL fc_342 (bdT y_336) kb_12 (by decide)
                                              obtain ⟨y_344, ey_344⟩ : ∃ z : Int32, z = v4_3 + 1 := ⟨_, rfl⟩
                                              refine lv_iinc (v := y_344) (lv' := [(3, .int y_344), (6, .int y_336), (2, .int 1), (5, .int 0), (4, .int x_69), (0, .ref a0_), (1, .int x1_)]) hx hb dX0_closeParts_245 hl (k := 4) rfl (by rw [ey_344]; rfl) (by decide) rfl (fun ls hl => ?_)
                                              have ty_344 := add_bd ey_344 b_60 kb_1 (by decide)
                                              have b_345 : bd 2 300 y_344 := add_rg ty_344 b_60 kb_1 (by decide)
                                              refine lv_goto (tgt := 4) hx hb dX0_closeParts_248 (by decide) ?_
                                              have hl9 := lv_sub hl [0, 1, 2, 3, 4, 5, 6] (by rfl : lv_pick [(3, .int y_344), (6, .int y_336), (2, .int 1), (5, .int 0), (4, .int x_69), (0, .ref a0_), (1, .int x1_)] [0, 1, 2, 3, 4, 5, 6] = [(3, .int y_344), (6, .int y_336), (2, .int 1), (5, .int 0), (4, .int x_69), (0, .ref a0_), (1, .int x1_)])
                                              have g9 := g.sub (fx' := [(8, 6, q0_, .int 1201), (8, 8, q0_, .int x_48), (0, 4, a0_, .ref a_45), (0, 12, a0_, .int 0), (0, 10, a0_, .int x_338), (7, 6, q1_, .int x_319), (7, 5, q1_, .ref g191_7_5_q1_), (7, 4, q1_, .ref g191_7_4_q1_), (0, 8, a0_, .int y_67), (0, 5, a0_, .ref g76_0_5_a0_), (0, 3, a0_, .ref g76_0_3_a0_), (0, 0, a0_, .ref q0_), (0, 2, a0_, .ref q1_)]) [4, 5, 6, 0, 1, 2, 7, 8, 3, 9, 10, 11, 12] rfl
                                              exact ih4  y_344 y_336 1 0 x_69 x_338 x_319 y_67 (bd_sub b_345 (by decide)) (bd_sub kb_1 (by decide)) (bd_sub kb_0 (by decide)) h_339 h_320 (bd_sub b_68 (by decide)) (by have h9_0 := b_316; unfold bd at h9_0; have h9_1 := b_343; unfold bd at h9_1; have h9_2 := b_345; unfold bd at h9_2; have h9_3 := b_68; unfold bd at h9_3; have h9_4 := bdT v4_4; unfold bd at h9_4; have h9_5 := bdT v4_6; unfold bd at h9_5; have h9_6 := bv4_2; unfold bd at h9_6; have h9_7 := bv4_3; unfold bd at h9_7; have h9_8 := bv4_5; unfold bd at h9_8; have h9_9 := bw4_0_10_a0_; unfold bd at h9_9; have h9_10 := bw4_0_8_a0_; unfold bd at h9_10; have h9_11 := bw4_7_6_q1_; unfold bd at h9_11; have h9_12 := h_320; unfold bd at h9_12; have h9_13 := h_339; unfold bd at h9_13; have h9_14 := kb_0; unfold bd at h9_14; have h9_15 := kb_1; unfold bd at h9_15; have h9_16 := kb_12; unfold bd at h9_16; have h9_17 := kb_205; unfold bd at h9_17; have h9_18 := kb_206; unfold bd at h9_18; have h9_19 := kb_300; unfold bd at h9_19; have h9_20 := kb_6; unfold bd at h9_20; have h9_21 := kb_7; unfold bd at h9_21; omega) _ _ _ _ g9 hG_341 hl9
                                            · have fc_342 := nle_f c_342
                                              have b_346 : bd 13 2147483647 y_336 := ltR fc_342 kb_12 (bdT y_336) (by decide)
                                              refine lv_aload_n hx hb dX0_closeParts_227 rfl (lv_at hl 5 rfl) ?_
                                              refine g_getk (C := RX0) (T := TX0) (N := 14) hx hb hts (mc_ inX0) hown hK g rfl 0 (by decide) rfl (hts _ (List.mem_cons_of_mem _ t_373)) (fun _ h9 => h9) 11 rfl dX0_closeParts_228 ?_
                                              refine lv_bipush (v := 7) hx hb dX0_closeParts_231 (by decide) ?_
                                              refine lv_aload_n hx hb dX0_closeParts_233 rfl (lv_at hl 5 rfl) ?_
                                              refine g_getk (C := RX0) (T := TX0) (N := 14) hx hb hts (mc_ inX0) hown hK g rfl 4 (by decide) rfl (hts _ (List.mem_cons_of_mem _ t_377)) (fun _ h9 => h9) 6 rfl dX0_closeParts_234 ?_
                                              refine lv_aload_n hx hb dX0_closeParts_237 rfl (lv_at hl 5 rfl) ?_
                                              refine g_getk (C := RX0) (T := TX0) (N := 14) hx hb hts (mc_ inX0) hown hK g rfl 8 (by decide) rfl (hts _ (List.mem_cons_of_mem _ t_381)) (fun _ h9 => h9) 3 rfl dX0_closeParts_238 ?_
                                              refine g_iald hx hb hK g ma_45 ka_45 (by decide) rfl (in_bd b_68 (by decide)) dX0_closeParts_241 (fun x_347 bx_347 cx_347 => ?_)
                                              have go_ := g
                                              refine g_callv (va_runV (As := [.int 7, .int x_347]) (rest := []) ⟨hx, hb, hml, hown, hts⟩ (r_X8_fail_2 l dC dI L kd tys fr_337 H.size g.2.2.2.1 q0_ mq0_ kq0_ 7 (bd_sub kb_7 (by decide)) x_347 x_48 h_49 (g.fcts [5] rfl)) (cwV 2 hts (gV_ t_1215 t_1107 t_1108 t_184 t_1109) rfl rfl rfl (by decide +kernel) ⟨(Nat.le_of_ble_eq_true rfl), (Nat.le_of_ble_eq_true rfl)⟩) (pre3V g hK mq0_ kq0_ (by decide) (q := (RX8, TX8, 10)) rfl) rfl rfl hl.1 rfl (lv_room (Nat.le_of_ble_eq_true rfl)) dX0_closeParts_242 ⟨(Nat.le_of_ble_eq_true rfl), (Nat.le_of_ble_eq_true rfl)⟩) g hK (by decide) (by decide) (fx' := [(0, 12, a0_, .int 0), (0, 10, a0_, .int x_338), (7, 6, q1_, .int x_319), (0, 8, a0_, .int y_67), (8, 8, q0_, .int x_48), (0, 4, a0_, .ref a_45), (7, 5, q1_, .ref g191_7_5_q1_), (7, 4, q1_, .ref g191_7_4_q1_), (0, 5, a0_, .ref g76_0_5_a0_), (0, 3, a0_, .ref g76_0_3_a0_), (0, 0, a0_, .ref q0_), (0, 2, a0_, .ref q1_)]) rfl (fun fr_348 H locs hp hMr_348 g => ?_)
                                              have hF_349 := hp
                                              have hG_350 := dOK.frame hMr_348 go_.2.2.2.1 mq1_ kq1_ (by decide) (by decide) hG_341
                                              have g := g.more hF_349
                                              obtain ⟨y_351, ey_351⟩ : ∃ z : Int32, z = v4_3 + 1 := ⟨_, rfl⟩
                                              refine lv_iinc (v := y_351) (lv' := [(3, .int y_351), (6, .int y_336), (2, .int 1), (5, .int 0), (4, .int x_69), (0, .ref a0_), (1, .int x1_)]) hx hb dX0_closeParts_245 hl (k := 4) rfl (by rw [ey_351]; rfl) (by decide) rfl (fun ls hl => ?_)
                                              have ty_351 := add_bd ey_351 b_60 kb_1 (by decide)
                                              have b_352 : bd 2 300 y_351 := add_rg ty_351 b_60 kb_1 (by decide)
                                              refine lv_goto (tgt := 4) hx hb dX0_closeParts_248 (by decide) ?_
                                              have hl9 := lv_sub hl [0, 1, 2, 3, 4, 5, 6] (by rfl : lv_pick [(3, .int y_351), (6, .int y_336), (2, .int 1), (5, .int 0), (4, .int x_69), (0, .ref a0_), (1, .int x1_)] [0, 1, 2, 3, 4, 5, 6] = [(3, .int y_351), (6, .int y_336), (2, .int 1), (5, .int 0), (4, .int x_69), (0, .ref a0_), (1, .int x1_)])
                                              have g9 := g.sub (fx' := [(8, 6, q0_, .int 1201), (8, 8, q0_, .int x_48), (0, 4, a0_, .ref a_45), (0, 12, a0_, .int 0), (0, 10, a0_, .int x_338), (7, 6, q1_, .int x_319), (7, 5, q1_, .ref g191_7_5_q1_), (7, 4, q1_, .ref g191_7_4_q1_), (0, 8, a0_, .int y_67), (0, 5, a0_, .ref g76_0_5_a0_), (0, 3, a0_, .ref g76_0_3_a0_), (0, 0, a0_, .ref q0_), (0, 2, a0_, .ref q1_)]) [0, 5, 6, 1, 2, 3, 7, 8, 4, 9, 10, 11, 12] rfl
                                              exact ih4  y_351 y_336 1 0 x_69 x_338 x_319 y_67 (bd_sub b_352 (by decide)) (bd_sub kb_1 (by decide)) (bd_sub kb_0 (by decide)) h_339 h_320 (bd_sub b_68 (by decide)) (by have h9_0 := b_316; unfold bd at h9_0; have h9_1 := b_346; unfold bd at h9_1; have h9_2 := b_352; unfold bd at h9_2; have h9_3 := b_68; unfold bd at h9_3; have h9_4 := bdT v4_4; unfold bd at h9_4; have h9_5 := bdT v4_6; unfold bd at h9_5; have h9_6 := bv4_2; unfold bd at h9_6; have h9_7 := bv4_3; unfold bd at h9_7; have h9_8 := bv4_5; unfold bd at h9_8; have h9_9 := bw4_0_10_a0_; unfold bd at h9_9; have h9_10 := bw4_0_8_a0_; unfold bd at h9_10; have h9_11 := bw4_7_6_q1_; unfold bd at h9_11; have h9_12 := h_320; unfold bd at h9_12; have h9_13 := h_339; unfold bd at h9_13; have h9_14 := kb_0; unfold bd at h9_14; have h9_15 := kb_1; unfold bd at h9_15; have h9_16 := kb_12; unfold bd at h9_16; have h9_17 := kb_205; unfold bd at h9_17; have h9_18 := kb_206; unfold bd at h9_18; have h9_19 := kb_300; unfold bd at h9_19; have h9_20 := kb_6; unfold bd at h9_20; have h9_21 := kb_7; unfold bd at h9_21; omega) _ _ _ _ g9 hG_350 hl9
                                  · have fc_108 := eq_f c_108
                                    have b_353 : bd 7 7 x_69 := eqX fc_108 (bdT x_69) kb_7 (by decide)
                                    refine lv_iconst (v := 1) hx hb dX0_closeParts_49 (by decide) ?_
                                    refine lv_goto (tgt := 54) hx hb dX0_closeParts_50 (by decide) ?_
                                    refine lv_istore (lv' := [(5, .int 1), (4, .int x_69), (3, .int v4_3), (6, .int v4_6), (2, .int v4_2), (0, .ref a0_), (1, .int x1_)]) hx hb dX0_closeParts_54 hl (by decide) rfl (fun ls hl => ?_)
                                    refine lv_iload hx hb dX0_closeParts_56 (lv_at hl 0 rfl) ?_
                                    refine lv_if_ne (tgt := 70) hx hb dX0_closeParts_58 (by decide) (fun c_ => ?_) (fun c_ => absurd c_ (by decide))
                                    refine lv_iconst (v := 1) hx hb dX0_closeParts_70 (by decide) ?_
                                    refine lv_goto (tgt := 75) hx hb dX0_closeParts_71 (by decide) ?_
                                    refine lv_istore_n (lv' := [(2, .int 1), (5, .int 1), (4, .int x_69), (3, .int v4_3), (6, .int v4_6), (0, .ref a0_), (1, .int x1_)]) hx hb dX0_closeParts_75 rfl hl (by decide) rfl (fun ls hl => ?_)
                                    refine lv_iload_n hx hb dX0_closeParts_76 rfl (lv_at hl 0 rfl) ?_
                                    refine lv_if_eq (tgt := 245) hx hb dX0_closeParts_77 (by decide) (fun c_ => absurd c_ (by decide)) (fun c_ => ?_)
                                    refine lv_aload_n hx hb dX0_closeParts_80 rfl (lv_at hl 5 rfl) ?_
                                    refine lv_dup hx hb dX0_closeParts_81 rfl ?_
                                    refine g_getk (C := RX0) (T := TX0) (N := 14) hx hb hts (mc_ inX0) hown hK g rfl 8 (by decide) rfl (hts _ (List.mem_cons_of_mem _ t_381)) (fun _ h9 => h9) 8 rfl dX0_closeParts_82 ?_
                                    refine lv_iconst (v := 1) hx hb dX0_closeParts_85 (by decide) ?_
                                    refine lv_isub hx hb dX0_closeParts_86 ?_
                                    refine lv_topi (fun y_354 ey_354 => ?_)
                                    obtain rfl : y_67 = y_354 := ey_67.trans ey_354.symm
                                    have go_ := g
                                    refine g_put (C := RX0) (T := TX0) (N := 14) hx hb hts (mc_ inX0) tyX0 tyX0_ok nmX0 hown hK g ma0_ ka0_ (by decide) rfl 8 (by decide) (hts _ (List.mem_cons_of_mem _ t_381)) (fun _ h9 => h9) rfl rfl (okV_i (bd_sub b_68 (by decide))) rfl rfl (by decide) (Or.inr (Or.inl (by decide))) (fx' := [(8, 6, q0_, .int 1201), (8, 8, q0_, .int x_48), (0, 4, a0_, .ref a_45), (0, 12, a0_, .int 0), (0, 10, a0_, .int w4_0_10_a0_), (7, 6, q1_, .int w4_7_6_q1_), (7, 5, q1_, .ref g191_7_5_q1_), (7, 4, q1_, .ref g191_7_4_q1_), (0, 5, a0_, .ref g76_0_5_a0_), (0, 3, a0_, .ref g76_0_3_a0_), (0, 0, a0_, .ref q0_), (0, 2, a0_, .ref q1_)]) rfl dX0_closeParts_87 (fun f H locs hM_355 g => ?_)
                                    have hG_356 := dOK.frame hM_355 go_.2.2.2.1 mq1_ kq1_ (by decide) (by decide) hG4_d_q1_
                                    refine lv_aload_n hx hb dX0_closeParts_90 rfl (lv_at hl 5 rfl) ?_
                                    have go_ := g
                                    refine g_calli (va_runV (As := []) (rest := []) ⟨hx, hb, hml, hown, hts⟩ (r_X0_takeHeight l dC dI L kd tys f H.size g.2.2.2.1 a0_ ma0_ ka0_) (cwV 0 hts (gV_ t_1199 t_1201 t_16 t_190 t_1202) rfl rfl rfl (by decide +kernel) ⟨(Nat.le_of_ble_eq_true rfl), (Nat.le_of_ble_eq_true rfl)⟩) (pre3V g hK ma0_ ka0_ (by decide) (q := (RX0, TX0, 14)) rfl) rfl rfl hl.1 rfl (lv_room (Nat.le_of_ble_eq_true rfl)) dX0_closeParts_91 ⟨(Nat.le_of_ble_eq_true rfl), (Nat.le_of_ble_eq_true rfl)⟩) g hK (by decide) (by decide) (fx' := [(0, 8, a0_, .int y_67), (8, 6, q0_, .int 1201), (8, 8, q0_, .int x_48), (0, 4, a0_, .ref a_45), (0, 12, a0_, .int 0), (7, 6, q1_, .int w4_7_6_q1_), (7, 5, q1_, .ref g191_7_5_q1_), (7, 4, q1_, .ref g191_7_4_q1_), (0, 5, a0_, .ref g76_0_5_a0_), (0, 3, a0_, .ref g76_0_3_a0_), (0, 0, a0_, .ref q0_), (0, 2, a0_, .ref q1_)]) rfl (fun r_357 fr_357 H locs hp hMr_357 g => ?_)
                                    obtain ⟨x_358, h_359, hF_360⟩ := hp
                                    have hG_361 := dOK.frame hMr_357 go_.2.2.2.1 mq1_ kq1_ (by decide) (by decide) hG_356
                                    have g := g.more hF_360
                                    refine lv_istore (lv' := [(6, .int r_357), (2, .int 1), (5, .int 1), (4, .int x_69), (3, .int v4_3), (0, .ref a0_), (1, .int x1_)]) hx hb dX0_closeParts_94 hl (by decide) rfl (fun ls hl => ?_)
                                    refine lv_iload hx hb dX0_closeParts_96 (lv_at hl 2 rfl) ?_
                                    refine lv_if_eq (tgt := 136) hx hb dX0_closeParts_98 (by decide) (fun c_ => absurd c_ (by decide)) (fun c_ => ?_)
                                    refine lv_aload_n hx hb dX0_closeParts_101 rfl (lv_at hl 5 rfl) ?_
                                    refine lv_dup hx hb dX0_closeParts_102 rfl ?_
                                    refine g_geti (C := RX0) (T := TX0) (N := 14) hx hb hts (mc_ inX0) hown hK g ma0_ ka0_ (by decide) rfl 11 (by decide) rfl (hts _ (List.mem_cons_of_mem _ t_384)) (fun _ h9 => h9) rfl dX0_closeParts_103 (fun x_362 bx_362 g => ?_)
                                    refine lv_iconst (v := 1) hx hb dX0_closeParts_106 (by decide) ?_
                                    refine lv_isub hx hb dX0_closeParts_107 ?_
                                    refine lv_topi (fun y_363 ey_363 => ?_)
                                    have go_ := g
                                    refine g_put (C := RX0) (T := TX0) (N := 14) hx hb hts (mc_ inX0) tyX0 tyX0_ok nmX0 hown hK g ma0_ ka0_ (by decide) rfl 11 (by decide) (hts _ (List.mem_cons_of_mem _ t_384)) (fun _ h9 => h9) rfl rfl (okV_i (bdT y_363)) rfl rfl (by decide) (Or.inr (Or.inl (by decide))) (fx' := [(0, 10, a0_, .int x_358), (0, 8, a0_, .int y_67), (8, 6, q0_, .int 1201), (8, 8, q0_, .int x_48), (0, 4, a0_, .ref a_45), (0, 12, a0_, .int 0), (7, 6, q1_, .int w4_7_6_q1_), (7, 5, q1_, .ref g191_7_5_q1_), (7, 4, q1_, .ref g191_7_4_q1_), (0, 5, a0_, .ref g76_0_5_a0_), (0, 3, a0_, .ref g76_0_3_a0_), (0, 0, a0_, .ref q0_), (0, 2, a0_, .ref q1_)]) rfl dX0_closeParts_108 (fun f H locs hM_364 g => ?_)
                                    have hG_365 := dOK.frame hM_364 go_.2.2.2.1 mq1_ kq1_ (by decide) (by decide) hG_361
                                    refine lv_aload_n hx hb dX0_closeParts_111 rfl (lv_at hl 5 rfl) ?_
                                    refine g_getk (C := RX0) (T := TX0) (N := 14) hx hb hts (mc_ inX0) hown hK g rfl 2 (by decide) rfl (hts _ (List.mem_cons_of_mem _ t_375)) (fun _ h9 => h9) 13 rfl dX0_closeParts_112 ?_
                                    refine lv_iload hx hb dX0_closeParts_115 (lv_at hl 3 rfl) ?_
                                    refine lv_bipush (v := 6) hx hb dX0_closeParts_117 (by decide) ?_
                                    refine lv_icmp_ne (tgt := 127) hx hb dX0_closeParts_119 (by decide) (fun c_366 => ?_) (fun c_366 => ?_)
                                    · have fc_366 := neq_f c_366
                                      refine lv_bipush (v := 7) hx hb dX0_closeParts_127 (by decide) ?_
                                      refine lv_iconst (v := 0) hx hb dX0_closeParts_129 (by decide) ?_
                                      have go_ := g
                                      refine g_callv (va_runV (As := [.int 7, .int 0]) (rest := []) ⟨hx, hb, hml, hown, hts⟩ (r_X7_emitF l dC dI L kd tys f H.size g.2.2.2.1 q1_ mq1_ kq1_ g191_7_4_q1_ mg191_7_4_q1_ kg191_7_4_q1_ g191_7_5_q1_ mg191_7_5_q1_ kg191_7_5_q1_ w4_7_6_q1_ bw4_7_6_q1_ T_ hG_365 (7 : Int32) (0 : Int32) (g.fcts [9, 8, 7] rfl)) (cwV 2 hts (gV_ t_1203 t_1204 t_1205 t_191 t_1206) rfl rfl rfl (by decide +kernel) ⟨(Nat.le_of_ble_eq_true rfl), (Nat.le_of_ble_eq_true rfl)⟩) (pre3V g hK mq1_ kq1_ (by decide) (q := (RX7, TX7, 19)) rfl) rfl rfl hl.1 rfl (lv_room (Nat.le_of_ble_eq_true rfl)) dX0_closeParts_130 ⟨(Nat.le_of_ble_eq_true rfl), (Nat.le_of_ble_eq_true rfl)⟩) g hK (by decide) (by decide) (fx' := [(0, 11, a0_, .int y_363), (0, 10, a0_, .int x_358), (0, 8, a0_, .int y_67), (8, 6, q0_, .int 1201), (8, 8, q0_, .int x_48), (0, 4, a0_, .ref a_45), (0, 12, a0_, .int 0), (7, 5, q1_, .ref g191_7_5_q1_), (7, 4, q1_, .ref g191_7_4_q1_), (0, 5, a0_, .ref g76_0_5_a0_), (0, 3, a0_, .ref g76_0_3_a0_), (0, 0, a0_, .ref q0_), (0, 2, a0_, .ref q1_)]) rfl (fun fr_367 H locs hp hMr_367 g => ?_)
                                      obtain ⟨hG_368, x_369, h_370, hF_371⟩ := hp
                                      have g := g.more hF_371
                                      refine lv_goto (tgt := 191) hx hb dX0_closeParts_133 (by decide) ?_
                                      refine lv_iconst (v := 1) hx hb dX0_closeParts_191 (by decide) ?_
                                      refine lv_iload hx hb dX0_closeParts_192 (lv_at hl 2 rfl) ?_
                                      refine lv_if_eq (tgt := 202) hx hb dX0_closeParts_194 (by decide) (fun c_ => absurd c_ (by decide)) (fun c_ => ?_)
                                      refine lv_iload hx hb dX0_closeParts_197 (lv_at hl 0 rfl) ?_
                                      refine lv_goto (tgt := 211) hx hb dX0_closeParts_199 (by decide) ?_
                                      refine lv_iadd hx hb dX0_closeParts_211 ?_
                                      refine lv_topi (fun y_372 ey_372 => ?_)
                                      refine lv_istore (lv' := [(6, .int y_372), (2, .int 1), (5, .int 1), (4, .int x_69), (3, .int v4_3), (0, .ref a0_), (1, .int x1_)]) hx hb dX0_closeParts_212 hl (by decide) rfl (fun ls hl => ?_)
                                      refine lv_aload_n hx hb dX0_closeParts_214 rfl (lv_at hl 5 rfl) ?_
                                      refine lv_iload hx hb dX0_closeParts_215 (lv_at hl 0 rfl) ?_
                                      have go_ := g
                                      refine g_callv (va_runV (As := [.int y_372]) (rest := []) ⟨hx, hb, hml, hown, hts⟩ (r_X0_addWhole l dC dI L kd tys fr_367 H.size g.2.2.2.1 a0_ ma0_ ka0_ y_372) (cwV 1 hts (gV_ t_1211 t_1213 t_17 t_190 t_1214) rfl rfl rfl (by decide +kernel) ⟨(Nat.le_of_ble_eq_true rfl), (Nat.le_of_ble_eq_true rfl)⟩) (pre3V g hK ma0_ ka0_ (by decide) (q := (RX0, TX0, 14)) rfl) rfl rfl hl.1 rfl (lv_room (Nat.le_of_ble_eq_true rfl)) dX0_closeParts_217 ⟨(Nat.le_of_ble_eq_true rfl), (Nat.le_of_ble_eq_true rfl)⟩) g hK (by decide) (by decide) (fx' := [(7, 6, q1_, .int x_369), (0, 11, a0_, .int y_363), (0, 8, a0_, .int y_67), (8, 6, q0_, .int 1201), (8, 8, q0_, .int x_48), (0, 4, a0_, .ref a_45), (7, 5, q1_, .ref g191_7_5_q1_), (7, 4, q1_, .ref g191_7_4_q1_), (0, 5, a0_, .ref g76_0_5_a0_), (0, 3, a0_, .ref g76_0_3_a0_), (0, 0, a0_, .ref q0_), (0, 2, a0_, .ref q1_)]) rfl (fun fr_373 H locs hp hMr_373 g => ?_)
                                      obtain ⟨x_374, h_375, hF_376⟩ := hp
                                      have hG_377 := dOK.frame hMr_373 go_.2.2.2.1 mq1_ kq1_ (by decide) (by decide) hG_368
                                      have g := g.more hF_376
                                      refine lv_iload hx hb dX0_closeParts_220 (lv_at hl 0 rfl) ?_
                                      refine lv_bipush (v := 12) hx hb dX0_closeParts_222 (by decide) ?_
                                      refine lv_icmp_le (tgt := 245) hx hb dX0_closeParts_224 (by decide) (fun c_378 => ?_) (fun c_378 => ?_)
                                      · have fc_378 := le_f c_378
                                        have b_379 : bd (-2147483648) 12 y_372 := leL fc_378 (bdT y_372) kb_12 (by decide)
                                        obtain ⟨y_380, ey_380⟩ : ∃ z : Int32, z = v4_3 + 1 := ⟨_, rfl⟩
                                        refine lv_iinc (v := y_380) (lv' := [(3, .int y_380), (6, .int y_372), (2, .int 1), (5, .int 1), (4, .int x_69), (0, .ref a0_), (1, .int x1_)]) hx hb dX0_closeParts_245 hl (k := 4) rfl (by rw [ey_380]; rfl) (by decide) rfl (fun ls hl => ?_)
                                        have ty_380 := add_bd ey_380 b_60 kb_1 (by decide)
                                        have b_381 : bd 2 300 y_380 := add_rg ty_380 b_60 kb_1 (by decide)
                                        refine lv_goto (tgt := 4) hx hb dX0_closeParts_248 (by decide) ?_
                                        have hl9 := lv_sub hl [0, 1, 2, 3, 4, 5, 6] (by rfl : lv_pick [(3, .int y_380), (6, .int y_372), (2, .int 1), (5, .int 1), (4, .int x_69), (0, .ref a0_), (1, .int x1_)] [0, 1, 2, 3, 4, 5, 6] = [(3, .int y_380), (6, .int y_372), (2, .int 1), (5, .int 1), (4, .int x_69), (0, .ref a0_), (1, .int x1_)])
                                        have g9 := g.sub (fx' := [(8, 6, q0_, .int 1201), (8, 8, q0_, .int x_48), (0, 4, a0_, .ref a_45), (0, 12, a0_, .int 0), (0, 10, a0_, .int x_374), (7, 6, q1_, .int x_369), (7, 5, q1_, .ref g191_7_5_q1_), (7, 4, q1_, .ref g191_7_4_q1_), (0, 8, a0_, .int y_67), (0, 5, a0_, .ref g76_0_5_a0_), (0, 3, a0_, .ref g76_0_3_a0_), (0, 0, a0_, .ref q0_), (0, 2, a0_, .ref q1_)]) [5, 6, 7, 0, 1, 2, 8, 9, 4, 10, 11, 12, 13] rfl
                                        exact ih4  y_380 y_372 1 1 x_69 x_374 x_369 y_67 (bd_sub b_381 (by decide)) (bd_sub kb_1 (by decide)) (bd_sub kb_1 (by decide)) h_375 h_370 (bd_sub b_68 (by decide)) (by have h9_0 := b_353; unfold bd at h9_0; have h9_1 := b_379; unfold bd at h9_1; have h9_2 := b_381; unfold bd at h9_2; have h9_3 := b_68; unfold bd at h9_3; have h9_4 := bdT v4_4; unfold bd at h9_4; have h9_5 := bdT v4_6; unfold bd at h9_5; have h9_6 := bv4_2; unfold bd at h9_6; have h9_7 := bv4_3; unfold bd at h9_7; have h9_8 := bv4_5; unfold bd at h9_8; have h9_9 := bw4_0_10_a0_; unfold bd at h9_9; have h9_10 := bw4_0_8_a0_; unfold bd at h9_10; have h9_11 := bw4_7_6_q1_; unfold bd at h9_11; have h9_12 := h_370; unfold bd at h9_12; have h9_13 := h_375; unfold bd at h9_13; have h9_14 := kb_0; unfold bd at h9_14; have h9_15 := kb_1; unfold bd at h9_15; have h9_16 := kb_12; unfold bd at h9_16; have h9_17 := kb_300; unfold bd at h9_17; have h9_18 := kb_6; unfold bd at h9_18; have h9_19 := kb_7; unfold bd at h9_19; omega) _ _ _ _ g9 hG_377 hl9
                                      · have fc_378 := nle_f c_378
                                        have b_382 : bd 13 2147483647 y_372 := ltR fc_378 kb_12 (bdT y_372) (by decide)
                                        refine lv_aload_n hx hb dX0_closeParts_227 rfl (lv_at hl 5 rfl) ?_
                                        refine g_getk (C := RX0) (T := TX0) (N := 14) hx hb hts (mc_ inX0) hown hK g rfl 0 (by decide) rfl (hts _ (List.mem_cons_of_mem _ t_373)) (fun _ h9 => h9) 12 rfl dX0_closeParts_228 ?_
                                        refine lv_bipush (v := 7) hx hb dX0_closeParts_231 (by decide) ?_
                                        refine lv_aload_n hx hb dX0_closeParts_233 rfl (lv_at hl 5 rfl) ?_
                                        refine g_getk (C := RX0) (T := TX0) (N := 14) hx hb hts (mc_ inX0) hown hK g rfl 4 (by decide) rfl (hts _ (List.mem_cons_of_mem _ t_377)) (fun _ h9 => h9) 7 rfl dX0_closeParts_234 ?_
                                        refine lv_aload_n hx hb dX0_closeParts_237 rfl (lv_at hl 5 rfl) ?_
                                        refine g_getk (C := RX0) (T := TX0) (N := 14) hx hb hts (mc_ inX0) hown hK g rfl 8 (by decide) rfl (hts _ (List.mem_cons_of_mem _ t_381)) (fun _ h9 => h9) 4 rfl dX0_closeParts_238 ?_
                                        refine g_iald hx hb hK g ma_45 ka_45 (by decide) rfl (in_bd b_68 (by decide)) dX0_closeParts_241 (fun x_383 bx_383 cx_383 => ?_)
                                        have go_ := g
                                        refine g_callv (va_runV (As := [.int 7, .int x_383]) (rest := []) ⟨hx, hb, hml, hown, hts⟩ (r_X8_fail_2 l dC dI L kd tys fr_373 H.size g.2.2.2.1 q0_ mq0_ kq0_ 7 (bd_sub kb_7 (by decide)) x_383 x_48 h_49 (g.fcts [6] rfl)) (cwV 2 hts (gV_ t_1215 t_1107 t_1108 t_184 t_1109) rfl rfl rfl (by decide +kernel) ⟨(Nat.le_of_ble_eq_true rfl), (Nat.le_of_ble_eq_true rfl)⟩) (pre3V g hK mq0_ kq0_ (by decide) (q := (RX8, TX8, 10)) rfl) rfl rfl hl.1 rfl (lv_room (Nat.le_of_ble_eq_true rfl)) dX0_closeParts_242 ⟨(Nat.le_of_ble_eq_true rfl), (Nat.le_of_ble_eq_true rfl)⟩) g hK (by decide) (by decide) (fx' := [(0, 12, a0_, .int 0), (0, 10, a0_, .int x_374), (7, 6, q1_, .int x_369), (0, 11, a0_, .int y_363), (0, 8, a0_, .int y_67), (8, 8, q0_, .int x_48), (0, 4, a0_, .ref a_45), (7, 5, q1_, .ref g191_7_5_q1_), (7, 4, q1_, .ref g191_7_4_q1_), (0, 5, a0_, .ref g76_0_5_a0_), (0, 3, a0_, .ref g76_0_3_a0_), (0, 0, a0_, .ref q0_), (0, 2, a0_, .ref q1_)]) rfl (fun fr_384 H locs hp hMr_384 g => ?_)
                                        have hF_385 := hp
                                        have hG_386 := dOK.frame hMr_384 go_.2.2.2.1 mq1_ kq1_ (by decide) (by decide) hG_377
                                        have g := g.more hF_385
                                        obtain ⟨y_387, ey_387⟩ : ∃ z : Int32, z = v4_3 + 1 := ⟨_, rfl⟩
                                        refine lv_iinc (v := y_387) (lv' := [(3, .int y_387), (6, .int y_372), (2, .int 1), (5, .int 1), (4, .int x_69), (0, .ref a0_), (1, .int x1_)]) hx hb dX0_closeParts_245 hl (k := 4) rfl (by rw [ey_387]; rfl) (by decide) rfl (fun ls hl => ?_)
                                        have ty_387 := add_bd ey_387 b_60 kb_1 (by decide)
                                        have b_388 : bd 2 300 y_387 := add_rg ty_387 b_60 kb_1 (by decide)
                                        refine lv_goto (tgt := 4) hx hb dX0_closeParts_248 (by decide) ?_
                                        have hl9 := lv_sub hl [0, 1, 2, 3, 4, 5, 6] (by rfl : lv_pick [(3, .int y_387), (6, .int y_372), (2, .int 1), (5, .int 1), (4, .int x_69), (0, .ref a0_), (1, .int x1_)] [0, 1, 2, 3, 4, 5, 6] = [(3, .int y_387), (6, .int y_372), (2, .int 1), (5, .int 1), (4, .int x_69), (0, .ref a0_), (1, .int x1_)])
                                        have g9 := g.sub (fx' := [(8, 6, q0_, .int 1201), (8, 8, q0_, .int x_48), (0, 4, a0_, .ref a_45), (0, 12, a0_, .int 0), (0, 10, a0_, .int x_374), (7, 6, q1_, .int x_369), (7, 5, q1_, .ref g191_7_5_q1_), (7, 4, q1_, .ref g191_7_4_q1_), (0, 8, a0_, .int y_67), (0, 5, a0_, .ref g76_0_5_a0_), (0, 3, a0_, .ref g76_0_3_a0_), (0, 0, a0_, .ref q0_), (0, 2, a0_, .ref q1_)]) [0, 6, 7, 1, 2, 3, 8, 9, 5, 10, 11, 12, 13] rfl
                                        exact ih4  y_387 y_372 1 1 x_69 x_374 x_369 y_67 (bd_sub b_388 (by decide)) (bd_sub kb_1 (by decide)) (bd_sub kb_1 (by decide)) h_375 h_370 (bd_sub b_68 (by decide)) (by have h9_0 := b_353; unfold bd at h9_0; have h9_1 := b_382; unfold bd at h9_1; have h9_2 := b_388; unfold bd at h9_2; have h9_3 := b_68; unfold bd at h9_3; have h9_4 := bdT v4_4; unfold bd at h9_4; have h9_5 := bdT v4_6; unfold bd at h9_5; have h9_6 := bv4_2; unfold bd at h9_6; have h9_7 := bv4_3; unfold bd at h9_7; have h9_8 := bv4_5; unfold bd at h9_8; have h9_9 := bw4_0_10_a0_; unfold bd at h9_9; have h9_10 := bw4_0_8_a0_; unfold bd at h9_10; have h9_11 := bw4_7_6_q1_; unfold bd at h9_11; have h9_12 := h_370; unfold bd at h9_12; have h9_13 := h_375; unfold bd at h9_13; have h9_14 := kb_0; unfold bd at h9_14; have h9_15 := kb_1; unfold bd at h9_15; have h9_16 := kb_12; unfold bd at h9_16; have h9_17 := kb_300; unfold bd at h9_17; have h9_18 := kb_6; unfold bd at h9_18; have h9_19 := kb_7; unfold bd at h9_19; omega) _ _ _ _ g9 hG_386 hl9
                                    · have fc_366 := eq_f c_366
                                      exact absurd fc_366 fc_70
                      have hl9 := lv_sub hl [0, 1, 2, 3, 4, 5, 6] (by rfl : lv_pick [(3, .int y_55), (6, .int y_31), (2, .int j76_2), (5, .int j76_5), (4, .int j76_4), (0, .ref a0_), (1, .int x1_)] [0, 1, 2, 3, 4, 5, 6] = [(3, .int y_55), (6, .int y_31), (2, .int j76_2), (5, .int j76_5), (4, .int j76_4), (0, .ref a0_), (1, .int x1_)])
                      have g9 := g.sub (fx' := [(8, 6, q0_, .int 1201), (8, 8, q0_, .int x_48), (0, 4, a0_, .ref a_45), (0, 12, a0_, .int 0), (0, 10, a0_, .int x_33), (7, 6, q1_, .int g191_7_6_q1_), (7, 5, q1_, .ref g191_7_5_q1_), (7, 4, q1_, .ref g191_7_4_q1_), (0, 8, a0_, .int g191_0_8_a0_), (0, 5, a0_, .ref g76_0_5_a0_), (0, 3, a0_, .ref g76_0_3_a0_), (0, 0, a0_, .ref q0_), (0, 2, a0_, .ref q1_)]) [0, 1, 2, 3, 4, 5, 6, 7, 8, 9, 10, 11, 12] rfl
                      exact loop_57 (601) y_55 y_31 j76_2 j76_5 j76_4 x_33 g191_7_6_q1_ g191_0_8_a0_ b_56 (bd_sub b_17 (by decide)) (bd_sub b_20 (by decide)) h_34 bg191_7_6_q1_ bg191_0_8_a0_ (by have h9_0 := b_17; unfold bd at h9_0; have h9_1 := b_20; unfold bd at h9_1; have h9_2 := b_44; unfold bd at h9_2; have h9_3 := b_56; unfold bd at h9_3; have h9_4 := bdT j76_4; unfold bd at h9_4; have h9_5 := bg191_0_8_a0_; unfold bd at h9_5; have h9_6 := bg191_7_6_q1_; unfold bd at h9_6; have h9_7 := h_34; unfold bd at h9_7; have h9_8 := kb_0; unfold bd at h9_8; have h9_9 := kb_1; unfold bd at h9_9; have h9_10 := kb_12; unfold bd at h9_10; have h9_11 := kb_300; unfold bd at h9_11; have h9_12 := kb_7; unfold bd at h9_12; omega) _ _ _ _ g9 hG_53 hl9
                  · have fc_19 := neq_f c_19
                    have b_389 : bd 1 1 j76_5 := neX fc_19 bj76_5 kb_0 (by decide)
                    refine lv_iload hx hb dX0_closeParts_197 (lv_at hl 0 rfl) ?_
                    refine lv_goto (tgt := 211) hx hb dX0_closeParts_199 (by decide) ?_
                    have kb_1 : bd 1 1 (1 : Int32) := ⟨by decide, by decide⟩
                    refine lv_iadd hx hb dX0_closeParts_211 ?_
                    refine lv_topi (fun y_390 ey_390 => ?_)
                    refine lv_istore (lv' := [(6, .int y_390), (2, .int j76_2), (5, .int j76_5), (4, .int j76_4), (3, .int v4_3), (0, .ref a0_), (1, .int x1_)]) hx hb dX0_closeParts_212 hl (by decide) rfl (fun ls hl => ?_)
                    refine lv_aload_n hx hb dX0_closeParts_214 rfl (lv_at hl 5 rfl) ?_
                    refine lv_iload hx hb dX0_closeParts_215 (lv_at hl 0 rfl) ?_
                    have go_ := g
                    refine g_callv (va_runV (As := [.int y_390]) (rest := []) ⟨hx, hb, hml, hown, hts⟩ (r_X0_addWhole l dC dI L kd tys f H.size g.2.2.2.1 a0_ ma0_ ka0_ y_390) (cwV 1 hts (gV_ t_1211 t_1213 t_17 t_190 t_1214) rfl rfl rfl (by decide +kernel) ⟨(Nat.le_of_ble_eq_true rfl), (Nat.le_of_ble_eq_true rfl)⟩) (pre3V g hK ma0_ ka0_ (by decide) (q := (RX0, TX0, 14)) rfl) rfl rfl hl.1 rfl (lv_room (Nat.le_of_ble_eq_true rfl)) dX0_closeParts_217 ⟨(Nat.le_of_ble_eq_true rfl), (Nat.le_of_ble_eq_true rfl)⟩) g hK (by decide) (by decide) (fx' := [(7, 6, q1_, .int g191_7_6_q1_), (7, 5, q1_, .ref g191_7_5_q1_), (7, 4, q1_, .ref g191_7_4_q1_), (0, 8, a0_, .int g191_0_8_a0_), (0, 5, a0_, .ref g76_0_5_a0_), (0, 3, a0_, .ref g76_0_3_a0_), (0, 0, a0_, .ref q0_), (0, 2, a0_, .ref q1_), (8, 8, q0_, .int y0_)]) rfl (fun fr_391 H locs hp hMr_391 g => ?_)
                    obtain ⟨x_392, h_393, hF_394⟩ := hp
                    have hG_395 := eJx.frame hMr_391 go_.2.2.2.1 ma0_ ka0_ (by decide) (by decide) hJ191_i_a0_
                    have hG_396 := cOK.frame hMr_391 go_.2.2.2.1 mq1_ kq1_ (by decide) (by decide) hJ191_c_q1_
                    have hG_397 := dOK.frame hMr_391 go_.2.2.2.1 mq1_ kq1_ (by decide) (by decide) hJ191_d_q1_
                    have hG_398 := jS.frame hMr_391 go_.2.2.2.1 mq1_ kq1_ (by decide) (by decide) hJ191_s_q1_
                    have g := g.more hF_394
                    refine lv_iload hx hb dX0_closeParts_220 (lv_at hl 0 rfl) ?_
                    refine lv_bipush (v := 12) hx hb dX0_closeParts_222 (by decide) ?_
                    have kb_12 : bd 12 12 (12 : Int32) := ⟨by decide, by decide⟩
                    refine lv_icmp_le (tgt := 245) hx hb dX0_closeParts_224 (by decide) (fun c_399 => ?_) (fun c_399 => ?_)
                    · have fc_399 := le_f c_399
                      have b_400 : bd (-2147483648) 12 y_390 := leL fc_399 (bdT y_390) kb_12 (by decide)
                      obtain ⟨y_401, ey_401⟩ : ∃ z : Int32, z = v4_3 + 1 := ⟨_, rfl⟩
                      refine lv_iinc (v := y_401) (lv' := [(3, .int y_401), (6, .int y_390), (2, .int j76_2), (5, .int j76_5), (4, .int j76_4), (0, .ref a0_), (1, .int x1_)]) hx hb dX0_closeParts_245 hl (k := 4) rfl (by rw [ey_401]; rfl) (by decide) rfl (fun ls hl => ?_)
                      have ty_401 := add_bd ey_401 b_4 kb_1 (by decide)
                      have b_402 : bd 1 300 y_401 := add_rg ty_401 b_4 kb_1 (by decide)
                      refine lv_goto (tgt := 4) hx hb dX0_closeParts_248 (by decide) ?_
                      have hl9 := lv_sub hl [0, 2, 5, 6] (by rfl : lv_pick [(3, .int y_401), (6, .int y_390), (2, .int j76_2), (5, .int j76_5), (4, .int j76_4), (0, .ref a0_), (1, .int x1_)] [0, 2, 5, 6] = [(3, .int y_401), (2, .int j76_2), (0, .ref a0_), (1, .int x1_)])
                      have g9 := g.sub (fx' := [(0, 0, a0_, .ref q0_), (0, 2, a0_, .ref q1_), (8, 8, q0_, .int y0_)]) [8, 9, 10] rfl
                      exact ih4  y_401 j76_2 (bd_sub b_402 (by decide)) (bd_sub b_17 (by decide)) (by have h9_0 := b_17; unfold bd at h9_0; have h9_1 := b_402; unfold bd at h9_1; have h9_2 := bv4_2; unfold bd at h9_2; have h9_3 := bv4_3; unfold bd at h9_3; have h9_4 := kb_0; unfold bd at h9_4; have h9_5 := kb_1; unfold bd at h9_5; have h9_6 := kb_12; unfold bd at h9_6; have h9_7 := kb_300; unfold bd at h9_7; omega) _ _ _ _ g9 hG_395 hG_396 hG_397 hG_398 hl9
                    · have fc_399 := nle_f c_399
                      have b_403 : bd 13 2147483647 y_390 := ltR fc_399 kb_12 (bdT y_390) (by decide)
                      refine lv_aload_n hx hb dX0_closeParts_227 rfl (lv_at hl 5 rfl) ?_
                      refine g_getk (C := RX0) (T := TX0) (N := 14) hx hb hts (mc_ inX0) hown hK g rfl 0 (by decide) rfl (hts _ (List.mem_cons_of_mem _ t_373)) (fun _ h9 => h9) 8 rfl dX0_closeParts_228 ?_
                      refine lv_bipush (v := 7) hx hb dX0_closeParts_231 (by decide) ?_
                      refine lv_aload_n hx hb dX0_closeParts_233 rfl (lv_at hl 5 rfl) ?_
                      refine g_getr (K := 111) (C := RX0) (T := TX0) (N := 14) hx hb hts (mc_ inX0) hown hK g ma0_ ka0_ (by decide) rfl 4 (by decide) rfl (hts _ (List.mem_cons_of_mem _ t_377)) (fun _ h9 => h9) rfl dX0_closeParts_234 (fun a_404 ma_404 ka_404 g => ?_)
                      refine lv_aload_n hx hb dX0_closeParts_237 rfl (lv_at hl 5 rfl) ?_
                      refine g_getk (C := RX0) (T := TX0) (N := 14) hx hb hts (mc_ inX0) hown hK g rfl 8 (by decide) rfl (hts _ (List.mem_cons_of_mem _ t_381)) (fun _ h9 => h9) 6 rfl dX0_closeParts_238 ?_
                      refine g_iald hx hb hK g ma_404 ka_404 (by decide) rfl (in_bd bg191_0_8_a0_ (by decide)) dX0_closeParts_241 (fun x_405 bx_405 cx_405 => ?_)
                      have kb_7 : bd 7 7 (7 : Int32) := ⟨by decide, by decide⟩
                      have go_ := g
                      refine g_callv (va_runV (As := [.int 7, .int x_405]) (rest := []) ⟨hx, hb, hml, hown, hts⟩ (r_X8_fail l dC dI L kd tys fr_391 H.size g.2.2.2.1 q0_ mq0_ kq0_ 7 (bd_sub kb_7 (by decide)) x_405 y0_ by0_ (g.fcts [11] rfl)) (cwV 2 hts (gV_ t_1215 t_1107 t_1108 t_184 t_1109) rfl rfl rfl (by decide +kernel) ⟨(Nat.le_of_ble_eq_true rfl), (Nat.le_of_ble_eq_true rfl)⟩) (pre3V g hK mq0_ kq0_ (by decide) (q := (RX8, TX8, 10)) rfl) rfl rfl hl.1 rfl (lv_room (Nat.le_of_ble_eq_true rfl)) dX0_closeParts_242 ⟨(Nat.le_of_ble_eq_true rfl), (Nat.le_of_ble_eq_true rfl)⟩) g hK (by decide) (by decide) (fx' := [(0, 4, a0_, .ref a_404), (0, 12, a0_, .int 0), (0, 10, a0_, .int x_392), (7, 6, q1_, .int g191_7_6_q1_), (7, 5, q1_, .ref g191_7_5_q1_), (7, 4, q1_, .ref g191_7_4_q1_), (0, 8, a0_, .int g191_0_8_a0_), (0, 5, a0_, .ref g76_0_5_a0_), (0, 3, a0_, .ref g76_0_3_a0_), (0, 0, a0_, .ref q0_), (0, 2, a0_, .ref q1_)]) rfl (fun fr_406 H locs hp hMr_406 g => ?_)
                      obtain ⟨x_407, h_408, hF_409⟩ := hp
                      have hG_410 := eJx.frame hMr_406 go_.2.2.2.1 ma0_ ka0_ (by decide) (by decide) hG_395
                      have hG_411 := cOK.frame hMr_406 go_.2.2.2.1 mq1_ kq1_ (by decide) (by decide) hG_396
                      have hG_412 := dOK.frame hMr_406 go_.2.2.2.1 mq1_ kq1_ (by decide) (by decide) hG_397
                      have hG_413 := jS.frame hMr_406 go_.2.2.2.1 mq1_ kq1_ (by decide) (by decide) hG_398
                      have g := g.more hF_409
                      obtain ⟨y_414, ey_414⟩ : ∃ z : Int32, z = v4_3 + 1 := ⟨_, rfl⟩
                      refine lv_iinc (v := y_414) (lv' := [(3, .int y_414), (6, .int y_390), (2, .int j76_2), (5, .int j76_5), (4, .int j76_4), (0, .ref a0_), (1, .int x1_)]) hx hb dX0_closeParts_245 hl (k := 4) rfl (by rw [ey_414]; rfl) (by decide) rfl (fun ls hl => ?_)
                      have ty_414 := add_bd ey_414 b_4 kb_1 (by decide)
                      have b_415 : bd 1 300 y_414 := add_rg ty_414 b_4 kb_1 (by decide)
                      refine lv_goto (tgt := 4) hx hb dX0_closeParts_248 (by decide) ?_
                      have loop_416 : ∀ (n : Nat) (v4_3 : Int32) (v4_6 : Int32) (v4_2 : Int32) (v4_5 : Int32) (v4_4 : Int32) (w4_0_10_a0_ : Int32) (w4_7_6_q1_ : Int32) (w4_0_8_a0_ : Int32), bd 1 300 v4_3 → bd 0 1 v4_2 → bd 0 1 v4_5 → bd 1 300 w4_0_10_a0_ → bd 0 2000 w4_7_6_q1_ → bd 0 299 w4_0_8_a0_ → (300 - v4_3.toInt < (n : Int)) → ∀ (f : Nat → va_E) (H : Heap) (locs : List Loc) (ls : Array Slot), G3 (dC, dI) L kd tys s f0 [(0, 8), (0, 10), (0, 11), (0, 12), (7, 6), (8, 6), (8, 8), (8, 9)] [115, 138, 139] f H locs [(8, 6, q0_, .int 1201), (8, 8, q0_, .int x_407), (0, 4, a0_, .ref a_404), (0, 12, a0_, .int 0), (0, 10, a0_, .int w4_0_10_a0_), (7, 6, q1_, .int w4_7_6_q1_), (7, 5, q1_, .ref g191_7_5_q1_), (7, 4, q1_, .ref g191_7_4_q1_), (0, 8, a0_, .int w4_0_8_a0_), (0, 5, a0_, .ref g76_0_5_a0_), (0, 3, a0_, .ref g76_0_3_a0_), (0, 0, a0_, .ref q0_), (0, 2, a0_, .ref q1_)] → dOK L kd f q1_ T_ → lv_has ls 7 [(3, .int v4_3), (6, .int v4_6), (2, .int v4_2), (5, .int v4_5), (4, .int v4_4), (0, .ref a0_), (1, .int x1_)] → W p l e ({ frames := 1, cells := 0, slots := 0, locals := 23 } : Room) s m [.ref a0_, .int x1_].toArray below meth c H locs 0 0 Q (F0 m 4 ls []) := by
                        intro n4
                        induction n4 with
                        | zero =>
                          intro v4_3 v4_6 v4_2 v4_5 v4_4 w4_0_10_a0_ w4_7_6_q1_ w4_0_8_a0_ bv4_3  bv4_2 bv4_5  bw4_0_10_a0_ bw4_7_6_q1_ bw4_0_8_a0_ hm4 f H locs ls g hG4_d_q1_ hl
                          exact absurd hm4 (by have h9_v4_3 := bv4_3; unfold bd at h9_v4_3; have h9_v4_6 := bdT v4_6; unfold bd at h9_v4_6; have h9_v4_2 := bv4_2; unfold bd at h9_v4_2; have h9_v4_5 := bv4_5; unfold bd at h9_v4_5; have h9_v4_4 := bdT v4_4; unfold bd at h9_v4_4; have h9_w4_0_10_a0_ := bw4_0_10_a0_; unfold bd at h9_w4_0_10_a0_; have h9_w4_7_6_q1_ := bw4_7_6_q1_; unfold bd at h9_w4_7_6_q1_; have h9_w4_0_8_a0_ := bw4_0_8_a0_; unfold bd at h9_w4_0_8_a0_; omega)
                        | succ n4 ih4 =>
                          intro v4_3 v4_6 v4_2 v4_5 v4_4 w4_0_10_a0_ w4_7_6_q1_ w4_0_8_a0_ bv4_3  bv4_2 bv4_5  bw4_0_10_a0_ bw4_7_6_q1_ bw4_0_8_a0_ hm4 f H locs ls g hG4_d_q1_ hl
                          refine lv_iload_n hx hb dX0_closeParts_4 rfl (lv_at hl 0 rfl) ?_
                          refine lv_sipush (v := 300) hx hb dX0_closeParts_5 (by decide) ?_
                          refine lv_icmp_ge (tgt := 251) hx hb dX0_closeParts_8 (by decide) (fun c_417 => ?_) (fun c_417 => ?_)
                          · have fc_417 := le_f c_417
                            have b_418 : bd 300 300 v4_3 := leR fc_417 kb_300 bv4_3 (by decide)
                            subst hQ
                            exact W.vret hx hb hr (fun t ht hW => ⟨⟨_, rfl, Or.inr (⟨hG4_d_q1_, x_407, h_408, w4_0_10_a0_, bw4_0_10_a0_, w4_0_8_a0_, bw4_0_8_a0_, (g.fcts [0, 1, 3, 4, 8] rfl)⟩), q3_of g hK ht hW⟩, g.2.2.1.F ht⟩) g.2.2.1.2.2 dX0_closeParts_251
                          · have fc_417 := nle_f c_417
                            have b_419 : bd 1 299 v4_3 := ltL fc_417 bv4_3 kb_300 (by decide)
                            refine lv_iload_n hx hb dX0_closeParts_11 rfl (lv_at hl 2 rfl) ?_
                            refine lv_if_eq (tgt := 251) hx hb dX0_closeParts_12 (by decide) (fun c_420 => ?_) (fun c_420 => ?_)
                            · have fc_420 := eq_f c_420
                              have b_421 : bd 0 0 v4_2 := eqX fc_420 bv4_2 kb_0 (by decide)
                              subst hQ
                              exact W.vret hx hb hr (fun t ht hW => ⟨⟨_, rfl, Or.inr (⟨hG4_d_q1_, x_407, h_408, w4_0_10_a0_, bw4_0_10_a0_, w4_0_8_a0_, bw4_0_8_a0_, (g.fcts [0, 1, 3, 4, 8] rfl)⟩), q3_of g hK ht hW⟩, g.2.2.1.F ht⟩) g.2.2.1.2.2 dX0_closeParts_251
                            · have fc_420 := neq_f c_420
                              have b_422 : bd 1 1 v4_2 := neX fc_420 bv4_2 kb_0 (by decide)
                              refine lv_aload_n hx hb dX0_closeParts_15 rfl (lv_at hl 5 rfl) ?_
                              refine g_getk (C := RX0) (T := TX0) (N := 14) hx hb hts (mc_ inX0) hown hK g rfl 8 (by decide) rfl (hts _ (List.mem_cons_of_mem _ t_381)) (fun _ h9 => h9) 8 rfl dX0_closeParts_16 ?_
                              refine lv_if_le (tgt := 251) hx hb dX0_closeParts_19 (by decide) (fun c_423 => ?_) (fun c_423 => ?_)
                              · have fc_423 := le_f c_423
                                have b_424 : bd 0 0 w4_0_8_a0_ := leL fc_423 bw4_0_8_a0_ kb_0 (by decide)
                                subst hQ
                                exact W.vret hx hb hr (fun t ht hW => ⟨⟨_, rfl, Or.inr (⟨hG4_d_q1_, x_407, h_408, w4_0_10_a0_, bw4_0_10_a0_, w4_0_8_a0_, (bd_sub b_424 (by decide)), (g.fcts [0, 1, 3, 4, 8] rfl)⟩), q3_of g hK ht hW⟩, g.2.2.1.F ht⟩) g.2.2.1.2.2 dX0_closeParts_251
                              · have fc_423 := nle_f c_423
                                have b_425 : bd 1 299 w4_0_8_a0_ := ltR fc_423 kb_0 bw4_0_8_a0_ (by decide)
                                refine lv_aload_n hx hb dX0_closeParts_22 rfl (lv_at hl 5 rfl) ?_
                                refine g_getk (C := RX0) (T := TX0) (N := 14) hx hb hts (mc_ inX0) hown hK g rfl 3 (by decide) rfl (hts _ (List.mem_cons_of_mem _ t_376)) (fun _ h9 => h9) 10 rfl dX0_closeParts_23 ?_
                                refine lv_aload_n hx hb dX0_closeParts_26 rfl (lv_at hl 5 rfl) ?_
                                refine g_getk (C := RX0) (T := TX0) (N := 14) hx hb hts (mc_ inX0) hown hK g rfl 8 (by decide) rfl (hts _ (List.mem_cons_of_mem _ t_381)) (fun _ h9 => h9) 8 rfl dX0_closeParts_27 ?_
                                refine lv_iconst (v := 1) hx hb dX0_closeParts_30 (by decide) ?_
                                refine lv_isub hx hb dX0_closeParts_31 ?_
                                refine lv_topi (fun y_426 ey_426 => ?_)
                                have ty_426 := sub_bd ey_426 b_425 kb_1 (by decide)
                                have b_427 : bd 0 298 y_426 := sub_rg ty_426 b_425 kb_1 (by decide)
                                refine g_iald hx hb hK g mg76_0_3_a0_ kg76_0_3_a0_ (by decide) rfl (in_bd b_427 (by decide)) dX0_closeParts_32 (fun x_428 bx_428 cx_428 => ?_)
                                refine lv_istore (lv' := [(4, .int x_428), (3, .int v4_3), (6, .int v4_6), (2, .int v4_2), (5, .int v4_5), (0, .ref a0_), (1, .int x1_)]) hx hb dX0_closeParts_33 hl (by decide) rfl (fun ls hl => ?_)
                                refine lv_iload hx hb dX0_closeParts_35 (lv_at hl 0 rfl) ?_
                                refine lv_bipush (v := 6) hx hb dX0_closeParts_37 (by decide) ?_
                                have kb_6 : bd 6 6 (6 : Int32) := ⟨by decide, by decide⟩
                                refine lv_icmp_eq (tgt := 49) hx hb dX0_closeParts_39 (by decide) (fun c_429 => ?_) (fun c_429 => ?_)
                                · have fc_429 := eq_f c_429
                                  have b_430 : bd 6 6 x_428 := eqX fc_429 (bdT x_428) kb_6 (by decide)
                                  refine lv_iconst (v := 1) hx hb dX0_closeParts_49 (by decide) ?_
                                  refine lv_goto (tgt := 54) hx hb dX0_closeParts_50 (by decide) ?_
                                  refine lv_istore (lv' := [(5, .int 1), (4, .int x_428), (3, .int v4_3), (6, .int v4_6), (2, .int v4_2), (0, .ref a0_), (1, .int x1_)]) hx hb dX0_closeParts_54 hl (by decide) rfl (fun ls hl => ?_)
                                  refine lv_iload hx hb dX0_closeParts_56 (lv_at hl 0 rfl) ?_
                                  refine lv_if_ne (tgt := 70) hx hb dX0_closeParts_58 (by decide) (fun c_ => ?_) (fun c_ => absurd c_ (by decide))
                                  refine lv_iconst (v := 1) hx hb dX0_closeParts_70 (by decide) ?_
                                  refine lv_goto (tgt := 75) hx hb dX0_closeParts_71 (by decide) ?_
                                  refine lv_istore_n (lv' := [(2, .int 1), (5, .int 1), (4, .int x_428), (3, .int v4_3), (6, .int v4_6), (0, .ref a0_), (1, .int x1_)]) hx hb dX0_closeParts_75 rfl hl (by decide) rfl (fun ls hl => ?_)
                                  refine lv_iload_n hx hb dX0_closeParts_76 rfl (lv_at hl 0 rfl) ?_
                                  refine lv_if_eq (tgt := 245) hx hb dX0_closeParts_77 (by decide) (fun c_ => absurd c_ (by decide)) (fun c_ => ?_)
                                  refine lv_aload_n hx hb dX0_closeParts_80 rfl (lv_at hl 5 rfl) ?_
                                  refine lv_dup hx hb dX0_closeParts_81 rfl ?_
                                  refine g_getk (C := RX0) (T := TX0) (N := 14) hx hb hts (mc_ inX0) hown hK g rfl 8 (by decide) rfl (hts _ (List.mem_cons_of_mem _ t_381)) (fun _ h9 => h9) 8 rfl dX0_closeParts_82 ?_
                                  refine lv_iconst (v := 1) hx hb dX0_closeParts_85 (by decide) ?_
                                  refine lv_isub hx hb dX0_closeParts_86 ?_
                                  refine lv_topi (fun y_431 ey_431 => ?_)
                                  obtain rfl : y_426 = y_431 := ey_426.trans ey_431.symm
                                  have go_ := g
                                  refine g_put (C := RX0) (T := TX0) (N := 14) hx hb hts (mc_ inX0) tyX0 tyX0_ok nmX0 hown hK g ma0_ ka0_ (by decide) rfl 8 (by decide) (hts _ (List.mem_cons_of_mem _ t_381)) (fun _ h9 => h9) rfl rfl (okV_i (bd_sub b_427 (by decide))) rfl rfl (by decide) (Or.inr (Or.inl (by decide))) (fx' := [(8, 6, q0_, .int 1201), (8, 8, q0_, .int x_407), (0, 4, a0_, .ref a_404), (0, 12, a0_, .int 0), (0, 10, a0_, .int w4_0_10_a0_), (7, 6, q1_, .int w4_7_6_q1_), (7, 5, q1_, .ref g191_7_5_q1_), (7, 4, q1_, .ref g191_7_4_q1_), (0, 5, a0_, .ref g76_0_5_a0_), (0, 3, a0_, .ref g76_0_3_a0_), (0, 0, a0_, .ref q0_), (0, 2, a0_, .ref q1_)]) rfl dX0_closeParts_87 (fun f H locs hM_432 g => ?_)
                                  have hG_433 := dOK.frame hM_432 go_.2.2.2.1 mq1_ kq1_ (by decide) (by decide) hG4_d_q1_
                                  refine lv_aload_n hx hb dX0_closeParts_90 rfl (lv_at hl 5 rfl) ?_
                                  have go_ := g
                                  refine g_calli (va_runV (As := []) (rest := []) ⟨hx, hb, hml, hown, hts⟩ (r_X0_takeHeight l dC dI L kd tys f H.size g.2.2.2.1 a0_ ma0_ ka0_) (cwV 0 hts (gV_ t_1199 t_1201 t_16 t_190 t_1202) rfl rfl rfl (by decide +kernel) ⟨(Nat.le_of_ble_eq_true rfl), (Nat.le_of_ble_eq_true rfl)⟩) (pre3V g hK ma0_ ka0_ (by decide) (q := (RX0, TX0, 14)) rfl) rfl rfl hl.1 rfl (lv_room (Nat.le_of_ble_eq_true rfl)) dX0_closeParts_91 ⟨(Nat.le_of_ble_eq_true rfl), (Nat.le_of_ble_eq_true rfl)⟩) g hK (by decide) (by decide) (fx' := [(0, 8, a0_, .int y_426), (8, 6, q0_, .int 1201), (8, 8, q0_, .int x_407), (0, 4, a0_, .ref a_404), (0, 12, a0_, .int 0), (7, 6, q1_, .int w4_7_6_q1_), (7, 5, q1_, .ref g191_7_5_q1_), (7, 4, q1_, .ref g191_7_4_q1_), (0, 5, a0_, .ref g76_0_5_a0_), (0, 3, a0_, .ref g76_0_3_a0_), (0, 0, a0_, .ref q0_), (0, 2, a0_, .ref q1_)]) rfl (fun r_434 fr_434 H locs hp hMr_434 g => ?_)
                                  obtain ⟨x_435, h_436, hF_437⟩ := hp
                                  have hG_438 := dOK.frame hMr_434 go_.2.2.2.1 mq1_ kq1_ (by decide) (by decide) hG_433
                                  have g := g.more hF_437
                                  refine lv_istore (lv' := [(6, .int r_434), (2, .int 1), (5, .int 1), (4, .int x_428), (3, .int v4_3), (0, .ref a0_), (1, .int x1_)]) hx hb dX0_closeParts_94 hl (by decide) rfl (fun ls hl => ?_)
                                  refine lv_iload hx hb dX0_closeParts_96 (lv_at hl 2 rfl) ?_
                                  refine lv_if_eq (tgt := 136) hx hb dX0_closeParts_98 (by decide) (fun c_ => absurd c_ (by decide)) (fun c_ => ?_)
                                  refine lv_aload_n hx hb dX0_closeParts_101 rfl (lv_at hl 5 rfl) ?_
                                  refine lv_dup hx hb dX0_closeParts_102 rfl ?_
                                  refine g_geti (C := RX0) (T := TX0) (N := 14) hx hb hts (mc_ inX0) hown hK g ma0_ ka0_ (by decide) rfl 11 (by decide) rfl (hts _ (List.mem_cons_of_mem _ t_384)) (fun _ h9 => h9) rfl dX0_closeParts_103 (fun x_439 bx_439 g => ?_)
                                  refine lv_iconst (v := 1) hx hb dX0_closeParts_106 (by decide) ?_
                                  refine lv_isub hx hb dX0_closeParts_107 ?_
                                  refine lv_topi (fun y_440 ey_440 => ?_)
                                  have go_ := g
                                  refine g_put (C := RX0) (T := TX0) (N := 14) hx hb hts (mc_ inX0) tyX0 tyX0_ok nmX0 hown hK g ma0_ ka0_ (by decide) rfl 11 (by decide) (hts _ (List.mem_cons_of_mem _ t_384)) (fun _ h9 => h9) rfl rfl (okV_i (bdT y_440)) rfl rfl (by decide) (Or.inr (Or.inl (by decide))) (fx' := [(0, 10, a0_, .int x_435), (0, 8, a0_, .int y_426), (8, 6, q0_, .int 1201), (8, 8, q0_, .int x_407), (0, 4, a0_, .ref a_404), (0, 12, a0_, .int 0), (7, 6, q1_, .int w4_7_6_q1_), (7, 5, q1_, .ref g191_7_5_q1_), (7, 4, q1_, .ref g191_7_4_q1_), (0, 5, a0_, .ref g76_0_5_a0_), (0, 3, a0_, .ref g76_0_3_a0_), (0, 0, a0_, .ref q0_), (0, 2, a0_, .ref q1_)]) rfl dX0_closeParts_108 (fun f H locs hM_441 g => ?_)
                                  have hG_442 := dOK.frame hM_441 go_.2.2.2.1 mq1_ kq1_ (by decide) (by decide) hG_438
                                  refine lv_aload_n hx hb dX0_closeParts_111 rfl (lv_at hl 5 rfl) ?_
                                  refine g_getk (C := RX0) (T := TX0) (N := 14) hx hb hts (mc_ inX0) hown hK g rfl 2 (by decide) rfl (hts _ (List.mem_cons_of_mem _ t_375)) (fun _ h9 => h9) 13 rfl dX0_closeParts_112 ?_
                                  refine lv_iload hx hb dX0_closeParts_115 (lv_at hl 3 rfl) ?_
                                  refine lv_bipush (v := 6) hx hb dX0_closeParts_117 (by decide) ?_
                                  refine lv_icmp_ne (tgt := 127) hx hb dX0_closeParts_119 (by decide) (fun c_443 => ?_) (fun c_443 => ?_)
                                  · have fc_443 := neq_f c_443
                                    have b_444 : bd 7 5 x_428 := neX fc_443 b_430 kb_6 (by decide)
                                    exact bd_no b_444 (by decide)
                                  · have fc_443 := eq_f c_443
                                    refine lv_bipush (v := 6) hx hb dX0_closeParts_122 (by decide) ?_
                                    refine lv_goto (tgt := 129) hx hb dX0_closeParts_124 (by decide) ?_
                                    refine lv_iconst (v := 0) hx hb dX0_closeParts_129 (by decide) ?_
                                    have go_ := g
                                    refine g_callv (va_runV (As := [.int 6, .int 0]) (rest := []) ⟨hx, hb, hml, hown, hts⟩ (r_X7_emitF l dC dI L kd tys f H.size g.2.2.2.1 q1_ mq1_ kq1_ g191_7_4_q1_ mg191_7_4_q1_ kg191_7_4_q1_ g191_7_5_q1_ mg191_7_5_q1_ kg191_7_5_q1_ w4_7_6_q1_ bw4_7_6_q1_ T_ hG_442 (6 : Int32) (0 : Int32) (g.fcts [9, 8, 7] rfl)) (cwV 2 hts (gV_ t_1203 t_1204 t_1205 t_191 t_1206) rfl rfl rfl (by decide +kernel) ⟨(Nat.le_of_ble_eq_true rfl), (Nat.le_of_ble_eq_true rfl)⟩) (pre3V g hK mq1_ kq1_ (by decide) (q := (RX7, TX7, 19)) rfl) rfl rfl hl.1 rfl (lv_room (Nat.le_of_ble_eq_true rfl)) dX0_closeParts_130 ⟨(Nat.le_of_ble_eq_true rfl), (Nat.le_of_ble_eq_true rfl)⟩) g hK (by decide) (by decide) (fx' := [(0, 11, a0_, .int y_440), (0, 10, a0_, .int x_435), (0, 8, a0_, .int y_426), (8, 6, q0_, .int 1201), (8, 8, q0_, .int x_407), (0, 4, a0_, .ref a_404), (0, 12, a0_, .int 0), (7, 5, q1_, .ref g191_7_5_q1_), (7, 4, q1_, .ref g191_7_4_q1_), (0, 5, a0_, .ref g76_0_5_a0_), (0, 3, a0_, .ref g76_0_3_a0_), (0, 0, a0_, .ref q0_), (0, 2, a0_, .ref q1_)]) rfl (fun fr_445 H locs hp hMr_445 g => ?_)
                                    obtain ⟨hG_446, x_447, h_448, hF_449⟩ := hp
                                    have g := g.more hF_449
                                    refine lv_goto (tgt := 191) hx hb dX0_closeParts_133 (by decide) ?_
                                    refine lv_iconst (v := 1) hx hb dX0_closeParts_191 (by decide) ?_
                                    refine lv_iload hx hb dX0_closeParts_192 (lv_at hl 2 rfl) ?_
                                    refine lv_if_eq (tgt := 202) hx hb dX0_closeParts_194 (by decide) (fun c_ => absurd c_ (by decide)) (fun c_ => ?_)
                                    refine lv_iload hx hb dX0_closeParts_197 (lv_at hl 0 rfl) ?_
                                    refine lv_goto (tgt := 211) hx hb dX0_closeParts_199 (by decide) ?_
                                    refine lv_iadd hx hb dX0_closeParts_211 ?_
                                    refine lv_topi (fun y_450 ey_450 => ?_)
                                    refine lv_istore (lv' := [(6, .int y_450), (2, .int 1), (5, .int 1), (4, .int x_428), (3, .int v4_3), (0, .ref a0_), (1, .int x1_)]) hx hb dX0_closeParts_212 hl (by decide) rfl (fun ls hl => ?_)
                                    refine lv_aload_n hx hb dX0_closeParts_214 rfl (lv_at hl 5 rfl) ?_
                                    refine lv_iload hx hb dX0_closeParts_215 (lv_at hl 0 rfl) ?_
                                    have go_ := g
                                    refine g_callv (va_runV (As := [.int y_450]) (rest := []) ⟨hx, hb, hml, hown, hts⟩ (r_X0_addWhole l dC dI L kd tys fr_445 H.size g.2.2.2.1 a0_ ma0_ ka0_ y_450) (cwV 1 hts (gV_ t_1211 t_1213 t_17 t_190 t_1214) rfl rfl rfl (by decide +kernel) ⟨(Nat.le_of_ble_eq_true rfl), (Nat.le_of_ble_eq_true rfl)⟩) (pre3V g hK ma0_ ka0_ (by decide) (q := (RX0, TX0, 14)) rfl) rfl rfl hl.1 rfl (lv_room (Nat.le_of_ble_eq_true rfl)) dX0_closeParts_217 ⟨(Nat.le_of_ble_eq_true rfl), (Nat.le_of_ble_eq_true rfl)⟩) g hK (by decide) (by decide) (fx' := [(7, 6, q1_, .int x_447), (0, 11, a0_, .int y_440), (0, 8, a0_, .int y_426), (8, 6, q0_, .int 1201), (8, 8, q0_, .int x_407), (0, 4, a0_, .ref a_404), (7, 5, q1_, .ref g191_7_5_q1_), (7, 4, q1_, .ref g191_7_4_q1_), (0, 5, a0_, .ref g76_0_5_a0_), (0, 3, a0_, .ref g76_0_3_a0_), (0, 0, a0_, .ref q0_), (0, 2, a0_, .ref q1_)]) rfl (fun fr_451 H locs hp hMr_451 g => ?_)
                                    obtain ⟨x_452, h_453, hF_454⟩ := hp
                                    have hG_455 := dOK.frame hMr_451 go_.2.2.2.1 mq1_ kq1_ (by decide) (by decide) hG_446
                                    have g := g.more hF_454
                                    refine lv_iload hx hb dX0_closeParts_220 (lv_at hl 0 rfl) ?_
                                    refine lv_bipush (v := 12) hx hb dX0_closeParts_222 (by decide) ?_
                                    refine lv_icmp_le (tgt := 245) hx hb dX0_closeParts_224 (by decide) (fun c_456 => ?_) (fun c_456 => ?_)
                                    · have fc_456 := le_f c_456
                                      have b_457 : bd (-2147483648) 12 y_450 := leL fc_456 (bdT y_450) kb_12 (by decide)
                                      obtain ⟨y_458, ey_458⟩ : ∃ z : Int32, z = v4_3 + 1 := ⟨_, rfl⟩
                                      refine lv_iinc (v := y_458) (lv' := [(3, .int y_458), (6, .int y_450), (2, .int 1), (5, .int 1), (4, .int x_428), (0, .ref a0_), (1, .int x1_)]) hx hb dX0_closeParts_245 hl (k := 4) rfl (by rw [ey_458]; rfl) (by decide) rfl (fun ls hl => ?_)
                                      have ty_458 := add_bd ey_458 b_419 kb_1 (by decide)
                                      have b_459 : bd 2 300 y_458 := add_rg ty_458 b_419 kb_1 (by decide)
                                      refine lv_goto (tgt := 4) hx hb dX0_closeParts_248 (by decide) ?_
                                      have hl9 := lv_sub hl [0, 1, 2, 3, 4, 5, 6] (by rfl : lv_pick [(3, .int y_458), (6, .int y_450), (2, .int 1), (5, .int 1), (4, .int x_428), (0, .ref a0_), (1, .int x1_)] [0, 1, 2, 3, 4, 5, 6] = [(3, .int y_458), (6, .int y_450), (2, .int 1), (5, .int 1), (4, .int x_428), (0, .ref a0_), (1, .int x1_)])
                                      have g9 := g.sub (fx' := [(8, 6, q0_, .int 1201), (8, 8, q0_, .int x_407), (0, 4, a0_, .ref a_404), (0, 12, a0_, .int 0), (0, 10, a0_, .int x_452), (7, 6, q1_, .int x_447), (7, 5, q1_, .ref g191_7_5_q1_), (7, 4, q1_, .ref g191_7_4_q1_), (0, 8, a0_, .int y_426), (0, 5, a0_, .ref g76_0_5_a0_), (0, 3, a0_, .ref g76_0_3_a0_), (0, 0, a0_, .ref q0_), (0, 2, a0_, .ref q1_)]) [5, 6, 7, 0, 1, 2, 8, 9, 4, 10, 11, 12, 13] rfl
                                      exact ih4  y_458 y_450 1 1 x_428 x_452 x_447 y_426 (bd_sub b_459 (by decide)) (bd_sub kb_1 (by decide)) (bd_sub kb_1 (by decide)) h_453 h_448 (bd_sub b_427 (by decide)) (by have h9_0 := b_427; unfold bd at h9_0; have h9_1 := b_430; unfold bd at h9_1; have h9_2 := b_457; unfold bd at h9_2; have h9_3 := b_459; unfold bd at h9_3; have h9_4 := bdT v4_4; unfold bd at h9_4; have h9_5 := bdT v4_6; unfold bd at h9_5; have h9_6 := bv4_2; unfold bd at h9_6; have h9_7 := bv4_3; unfold bd at h9_7; have h9_8 := bv4_5; unfold bd at h9_8; have h9_9 := bw4_0_10_a0_; unfold bd at h9_9; have h9_10 := bw4_0_8_a0_; unfold bd at h9_10; have h9_11 := bw4_7_6_q1_; unfold bd at h9_11; have h9_12 := h_448; unfold bd at h9_12; have h9_13 := h_453; unfold bd at h9_13; have h9_14 := kb_0; unfold bd at h9_14; have h9_15 := kb_1; unfold bd at h9_15; have h9_16 := kb_12; unfold bd at h9_16; have h9_17 := kb_300; unfold bd at h9_17; have h9_18 := kb_6; unfold bd at h9_18; have h9_19 := kb_7; unfold bd at h9_19; omega) _ _ _ _ g9 hG_455 hl9
                                    · have fc_456 := nle_f c_456
                                      have b_460 : bd 13 2147483647 y_450 := ltR fc_456 kb_12 (bdT y_450) (by decide)
                                      refine lv_aload_n hx hb dX0_closeParts_227 rfl (lv_at hl 5 rfl) ?_
                                      refine g_getk (C := RX0) (T := TX0) (N := 14) hx hb hts (mc_ inX0) hown hK g rfl 0 (by decide) rfl (hts _ (List.mem_cons_of_mem _ t_373)) (fun _ h9 => h9) 12 rfl dX0_closeParts_228 ?_
                                      refine lv_bipush (v := 7) hx hb dX0_closeParts_231 (by decide) ?_
                                      refine lv_aload_n hx hb dX0_closeParts_233 rfl (lv_at hl 5 rfl) ?_
                                      refine g_getk (C := RX0) (T := TX0) (N := 14) hx hb hts (mc_ inX0) hown hK g rfl 4 (by decide) rfl (hts _ (List.mem_cons_of_mem _ t_377)) (fun _ h9 => h9) 7 rfl dX0_closeParts_234 ?_
                                      refine lv_aload_n hx hb dX0_closeParts_237 rfl (lv_at hl 5 rfl) ?_
                                      refine g_getk (C := RX0) (T := TX0) (N := 14) hx hb hts (mc_ inX0) hown hK g rfl 8 (by decide) rfl (hts _ (List.mem_cons_of_mem _ t_381)) (fun _ h9 => h9) 4 rfl dX0_closeParts_238 ?_
                                      refine g_iald hx hb hK g ma_404 ka_404 (by decide) rfl (in_bd b_427 (by decide)) dX0_closeParts_241 (fun x_461 bx_461 cx_461 => ?_)
                                      have go_ := g
                                      refine g_callv (va_runV (As := [.int 7, .int x_461]) (rest := []) ⟨hx, hb, hml, hown, hts⟩ (r_X8_fail_2 l dC dI L kd tys fr_451 H.size g.2.2.2.1 q0_ mq0_ kq0_ 7 (bd_sub kb_7 (by decide)) x_461 x_407 h_408 (g.fcts [6] rfl)) (cwV 2 hts (gV_ t_1215 t_1107 t_1108 t_184 t_1109) rfl rfl rfl (by decide +kernel) ⟨(Nat.le_of_ble_eq_true rfl), (Nat.le_of_ble_eq_true rfl)⟩) (pre3V g hK mq0_ kq0_ (by decide) (q := (RX8, TX8, 10)) rfl) rfl rfl hl.1 rfl (lv_room (Nat.le_of_ble_eq_true rfl)) dX0_closeParts_242 ⟨(Nat.le_of_ble_eq_true rfl), (Nat.le_of_ble_eq_true rfl)⟩) g hK (by decide) (by decide) (fx' := [(0, 12, a0_, .int 0), (0, 10, a0_, .int x_452), (7, 6, q1_, .int x_447), (0, 11, a0_, .int y_440), (0, 8, a0_, .int y_426), (8, 8, q0_, .int x_407), (0, 4, a0_, .ref a_404), (7, 5, q1_, .ref g191_7_5_q1_), (7, 4, q1_, .ref g191_7_4_q1_), (0, 5, a0_, .ref g76_0_5_a0_), (0, 3, a0_, .ref g76_0_3_a0_), (0, 0, a0_, .ref q0_), (0, 2, a0_, .ref q1_)]) rfl (fun fr_462 H locs hp hMr_462 g => ?_)
                                      have hF_463 := hp
                                      have hG_464 := dOK.frame hMr_462 go_.2.2.2.1 mq1_ kq1_ (by decide) (by decide) hG_455
                                      have g := g.more hF_463
                                      obtain ⟨y_465, ey_465⟩ : ∃ z : Int32, z = v4_3 + 1 := ⟨_, rfl⟩
                                      refine lv_iinc (v := y_465) (lv' := [(3, .int y_465), (6, .int y_450), (2, .int 1), (5, .int 1), (4, .int x_428), (0, .ref a0_), (1, .int x1_)]) hx hb dX0_closeParts_245 hl (k := 4) rfl (by rw [ey_465]; rfl) (by decide) rfl (fun ls hl => ?_)
                                      have ty_465 := add_bd ey_465 b_419 kb_1 (by decide)
                                      have b_466 : bd 2 300 y_465 := add_rg ty_465 b_419 kb_1 (by decide)
                                      refine lv_goto (tgt := 4) hx hb dX0_closeParts_248 (by decide) ?_
                                      have hl9 := lv_sub hl [0, 1, 2, 3, 4, 5, 6] (by rfl : lv_pick [(3, .int y_465), (6, .int y_450), (2, .int 1), (5, .int 1), (4, .int x_428), (0, .ref a0_), (1, .int x1_)] [0, 1, 2, 3, 4, 5, 6] = [(3, .int y_465), (6, .int y_450), (2, .int 1), (5, .int 1), (4, .int x_428), (0, .ref a0_), (1, .int x1_)])
                                      have g9 := g.sub (fx' := [(8, 6, q0_, .int 1201), (8, 8, q0_, .int x_407), (0, 4, a0_, .ref a_404), (0, 12, a0_, .int 0), (0, 10, a0_, .int x_452), (7, 6, q1_, .int x_447), (7, 5, q1_, .ref g191_7_5_q1_), (7, 4, q1_, .ref g191_7_4_q1_), (0, 8, a0_, .int y_426), (0, 5, a0_, .ref g76_0_5_a0_), (0, 3, a0_, .ref g76_0_3_a0_), (0, 0, a0_, .ref q0_), (0, 2, a0_, .ref q1_)]) [0, 6, 7, 1, 2, 3, 8, 9, 5, 10, 11, 12, 13] rfl
                                      exact ih4  y_465 y_450 1 1 x_428 x_452 x_447 y_426 (bd_sub b_466 (by decide)) (bd_sub kb_1 (by decide)) (bd_sub kb_1 (by decide)) h_453 h_448 (bd_sub b_427 (by decide)) (by have h9_0 := b_427; unfold bd at h9_0; have h9_1 := b_430; unfold bd at h9_1; have h9_2 := b_460; unfold bd at h9_2; have h9_3 := b_466; unfold bd at h9_3; have h9_4 := bdT v4_4; unfold bd at h9_4; have h9_5 := bdT v4_6; unfold bd at h9_5; have h9_6 := bv4_2; unfold bd at h9_6; have h9_7 := bv4_3; unfold bd at h9_7; have h9_8 := bv4_5; unfold bd at h9_8; have h9_9 := bw4_0_10_a0_; unfold bd at h9_9; have h9_10 := bw4_0_8_a0_; unfold bd at h9_10; have h9_11 := bw4_7_6_q1_; unfold bd at h9_11; have h9_12 := h_448; unfold bd at h9_12; have h9_13 := h_453; unfold bd at h9_13; have h9_14 := kb_0; unfold bd at h9_14; have h9_15 := kb_1; unfold bd at h9_15; have h9_16 := kb_12; unfold bd at h9_16; have h9_17 := kb_300; unfold bd at h9_17; have h9_18 := kb_6; unfold bd at h9_18; have h9_19 := kb_7; unfold bd at h9_19; omega) _ _ _ _ g9 hG_464 hl9
                                · have fc_429 := neq_f c_429
                                  refine lv_iload hx hb dX0_closeParts_42 (lv_at hl 0 rfl) ?_
                                  refine lv_bipush (v := 7) hx hb dX0_closeParts_44 (by decide) ?_
                                  refine lv_icmp_ne (tgt := 53) hx hb dX0_closeParts_46 (by decide) (fun c_467 => ?_) (fun c_467 => ?_)
                                  · have fc_467 := neq_f c_467
                                    refine lv_iconst (v := 0) hx hb dX0_closeParts_53 (by decide) ?_
                                    refine lv_istore (lv' := [(5, .int 0), (4, .int x_428), (3, .int v4_3), (6, .int v4_6), (2, .int v4_2), (0, .ref a0_), (1, .int x1_)]) hx hb dX0_closeParts_54 hl (by decide) rfl (fun ls hl => ?_)
                                    refine lv_iload hx hb dX0_closeParts_56 (lv_at hl 0 rfl) ?_
                                    refine lv_if_ne (tgt := 70) hx hb dX0_closeParts_58 (by decide) (fun c_ => absurd c_ (by decide)) (fun c_ => ?_)
                                    refine lv_iload hx hb dX0_closeParts_61 (lv_at hl 1 rfl) ?_
                                    have go_ := g
                                    refine g_calli (va_runS (As := [.int x_428]) (rest := []) ⟨hx, hb, hml, hown, hts⟩ (r_X0_levelOf l dC dI L kd tys f H.size g.2.2.2.1 x_428) (va_cwS 1 hts (gS_ t_1191 t_1192 t_190 t_1193) rfl rfl rfl (by decide +kernel) ⟨(Nat.le_of_ble_eq_true rfl), (Nat.le_of_ble_eq_true rfl)⟩) (pre3S g hK) rfl rfl hl.1 rfl (lv_room (Nat.le_of_ble_eq_true rfl)) dX0_closeParts_63 ⟨(Nat.le_of_ble_eq_true rfl), (Nat.le_of_ble_eq_true rfl)⟩) g hK (by decide) (by decide) (fx' := [(8, 6, q0_, .int 1201), (8, 8, q0_, .int x_407), (0, 4, a0_, .ref a_404), (0, 12, a0_, .int 0), (0, 10, a0_, .int w4_0_10_a0_), (7, 6, q1_, .int w4_7_6_q1_), (7, 5, q1_, .ref g191_7_5_q1_), (7, 4, q1_, .ref g191_7_4_q1_), (0, 8, a0_, .int w4_0_8_a0_), (0, 5, a0_, .ref g76_0_5_a0_), (0, 3, a0_, .ref g76_0_3_a0_), (0, 0, a0_, .ref q0_), (0, 2, a0_, .ref q1_)]) rfl (fun r_468 fr_468 H locs hp hMr_468 g => ?_)
                                    rcases hp with ⟨h_469, -⟩ | ⟨h_470, h_471, -⟩
                                    · have hG_472 := dOK.frame hMr_468 go_.2.2.2.1 mq1_ kq1_ (by decide) (by decide) hG4_d_q1_
                                      obtain rfl : r_468 = 0 := h_469
                                      refine lv_iload_n hx hb dX0_closeParts_66 rfl (lv_at hl 6 rfl) ?_
                                      refine lv_icmp_lt (tgt := 74) hx hb dX0_closeParts_67 (by decide) (fun c_473 => ?_) (fun c_473 => ?_)
                                      · have fc_473 := lt_f c_473
                                        have b_474 : bd 1 2147483647 x1_ := ltR fc_473 kb_0 (bdT x1_) (by decide)
                                        refine lv_iconst (v := 0) hx hb dX0_closeParts_74 (by decide) ?_
                                        refine lv_istore_n (lv' := [(2, .int 0), (5, .int 0), (4, .int x_428), (3, .int v4_3), (6, .int v4_6), (0, .ref a0_), (1, .int x1_)]) hx hb dX0_closeParts_75 rfl hl (by decide) rfl (fun ls hl => ?_)
                                        refine lv_iload_n hx hb dX0_closeParts_76 rfl (lv_at hl 0 rfl) ?_
                                        refine lv_if_eq (tgt := 245) hx hb dX0_closeParts_77 (by decide) (fun c_ => ?_) (fun c_ => absurd (by decide) c_)
                                        obtain ⟨y_475, ey_475⟩ : ∃ z : Int32, z = v4_3 + 1 := ⟨_, rfl⟩
                                        refine lv_iinc (v := y_475) (lv' := [(3, .int y_475), (2, .int 0), (5, .int 0), (4, .int x_428), (6, .int v4_6), (0, .ref a0_), (1, .int x1_)]) hx hb dX0_closeParts_245 hl (k := 3) rfl (by rw [ey_475]; rfl) (by decide) rfl (fun ls hl => ?_)
                                        have ty_475 := add_bd ey_475 b_419 kb_1 (by decide)
                                        have b_476 : bd 2 300 y_475 := add_rg ty_475 b_419 kb_1 (by decide)
                                        refine lv_goto (tgt := 4) hx hb dX0_closeParts_248 (by decide) ?_
                                        have hl9 := lv_sub hl [0, 4, 1, 2, 3, 5, 6] (by rfl : lv_pick [(3, .int y_475), (2, .int 0), (5, .int 0), (4, .int x_428), (6, .int v4_6), (0, .ref a0_), (1, .int x1_)] [0, 4, 1, 2, 3, 5, 6] = [(3, .int y_475), (6, .int v4_6), (2, .int 0), (5, .int 0), (4, .int x_428), (0, .ref a0_), (1, .int x1_)])
                                        have g9 := g.sub (fx' := [(8, 6, q0_, .int 1201), (8, 8, q0_, .int x_407), (0, 4, a0_, .ref a_404), (0, 12, a0_, .int 0), (0, 10, a0_, .int w4_0_10_a0_), (7, 6, q1_, .int w4_7_6_q1_), (7, 5, q1_, .ref g191_7_5_q1_), (7, 4, q1_, .ref g191_7_4_q1_), (0, 8, a0_, .int w4_0_8_a0_), (0, 5, a0_, .ref g76_0_5_a0_), (0, 3, a0_, .ref g76_0_3_a0_), (0, 0, a0_, .ref q0_), (0, 2, a0_, .ref q1_)]) [0, 1, 2, 3, 4, 5, 6, 7, 8, 9, 10, 11, 12] rfl
                                        exact ih4  y_475 v4_6 0 0 x_428 w4_0_10_a0_ w4_7_6_q1_ w4_0_8_a0_ (bd_sub b_476 (by decide)) (bd_sub kb_0 (by decide)) (bd_sub kb_0 (by decide)) bw4_0_10_a0_ bw4_7_6_q1_ (bd_sub b_425 (by decide)) (by have h9_0 := b_425; unfold bd at h9_0; have h9_1 := b_476; unfold bd at h9_1; have h9_2 := bdT v4_4; unfold bd at h9_2; have h9_3 := bdT v4_6; unfold bd at h9_3; have h9_4 := bdT x_428; unfold bd at h9_4; have h9_5 := bv4_2; unfold bd at h9_5; have h9_6 := bv4_3; unfold bd at h9_6; have h9_7 := bv4_5; unfold bd at h9_7; have h9_8 := bw4_0_10_a0_; unfold bd at h9_8; have h9_9 := bw4_0_8_a0_; unfold bd at h9_9; have h9_10 := bw4_7_6_q1_; unfold bd at h9_10; have h9_11 := kb_0; unfold bd at h9_11; have h9_12 := kb_1; unfold bd at h9_12; have h9_13 := kb_12; unfold bd at h9_13; have h9_14 := kb_300; unfold bd at h9_14; have h9_15 := kb_6; unfold bd at h9_15; have h9_16 := kb_7; unfold bd at h9_16; omega) _ _ _ _ g9 hG_472 hl9
                                      · have fc_473 := nlt_f c_473
                                        have b_477 : bd (-2147483648) 0 x1_ := leL fc_473 (bdT x1_) kb_0 (by decide)
                                        refine lv_iconst (v := 1) hx hb dX0_closeParts_70 (by decide) ?_
                                        refine lv_goto (tgt := 75) hx hb dX0_closeParts_71 (by decide) ?_
                                        refine lv_istore_n (lv' := [(2, .int 1), (5, .int 0), (4, .int x_428), (3, .int v4_3), (6, .int v4_6), (0, .ref a0_), (1, .int x1_)]) hx hb dX0_closeParts_75 rfl hl (by decide) rfl (fun ls hl => ?_)
                                        refine lv_iload_n hx hb dX0_closeParts_76 rfl (lv_at hl 0 rfl) ?_
                                        refine lv_if_eq (tgt := 245) hx hb dX0_closeParts_77 (by decide) (fun c_ => absurd c_ (by decide)) (fun c_ => ?_)
                                        refine lv_aload_n hx hb dX0_closeParts_80 rfl (lv_at hl 5 rfl) ?_
                                        refine lv_dup hx hb dX0_closeParts_81 rfl ?_
                                        refine g_getk (C := RX0) (T := TX0) (N := 14) hx hb hts (mc_ inX0) hown hK g rfl 8 (by decide) rfl (hts _ (List.mem_cons_of_mem _ t_381)) (fun _ h9 => h9) 8 rfl dX0_closeParts_82 ?_
                                        refine lv_iconst (v := 1) hx hb dX0_closeParts_85 (by decide) ?_
                                        refine lv_isub hx hb dX0_closeParts_86 ?_
                                        refine lv_topi (fun y_478 ey_478 => ?_)
                                        obtain rfl : y_426 = y_478 := ey_426.trans ey_478.symm
                                        have go_ := g
                                        refine g_put (C := RX0) (T := TX0) (N := 14) hx hb hts (mc_ inX0) tyX0 tyX0_ok nmX0 hown hK g ma0_ ka0_ (by decide) rfl 8 (by decide) (hts _ (List.mem_cons_of_mem _ t_381)) (fun _ h9 => h9) rfl rfl (okV_i (bd_sub b_427 (by decide))) rfl rfl (by decide) (Or.inr (Or.inl (by decide))) (fx' := [(8, 6, q0_, .int 1201), (8, 8, q0_, .int x_407), (0, 4, a0_, .ref a_404), (0, 12, a0_, .int 0), (0, 10, a0_, .int w4_0_10_a0_), (7, 6, q1_, .int w4_7_6_q1_), (7, 5, q1_, .ref g191_7_5_q1_), (7, 4, q1_, .ref g191_7_4_q1_), (0, 5, a0_, .ref g76_0_5_a0_), (0, 3, a0_, .ref g76_0_3_a0_), (0, 0, a0_, .ref q0_), (0, 2, a0_, .ref q1_)]) rfl dX0_closeParts_87 (fun f H locs hM_479 g => ?_)
                                        have hG_480 := dOK.frame hM_479 go_.2.2.2.1 mq1_ kq1_ (by decide) (by decide) hG_472
                                        refine lv_aload_n hx hb dX0_closeParts_90 rfl (lv_at hl 5 rfl) ?_
                                        have go_ := g
                                        refine g_calli (va_runV (As := []) (rest := []) ⟨hx, hb, hml, hown, hts⟩ (r_X0_takeHeight l dC dI L kd tys f H.size g.2.2.2.1 a0_ ma0_ ka0_) (cwV 0 hts (gV_ t_1199 t_1201 t_16 t_190 t_1202) rfl rfl rfl (by decide +kernel) ⟨(Nat.le_of_ble_eq_true rfl), (Nat.le_of_ble_eq_true rfl)⟩) (pre3V g hK ma0_ ka0_ (by decide) (q := (RX0, TX0, 14)) rfl) rfl rfl hl.1 rfl (lv_room (Nat.le_of_ble_eq_true rfl)) dX0_closeParts_91 ⟨(Nat.le_of_ble_eq_true rfl), (Nat.le_of_ble_eq_true rfl)⟩) g hK (by decide) (by decide) (fx' := [(0, 8, a0_, .int y_426), (8, 6, q0_, .int 1201), (8, 8, q0_, .int x_407), (0, 4, a0_, .ref a_404), (0, 12, a0_, .int 0), (7, 6, q1_, .int w4_7_6_q1_), (7, 5, q1_, .ref g191_7_5_q1_), (7, 4, q1_, .ref g191_7_4_q1_), (0, 5, a0_, .ref g76_0_5_a0_), (0, 3, a0_, .ref g76_0_3_a0_), (0, 0, a0_, .ref q0_), (0, 2, a0_, .ref q1_)]) rfl (fun r_481 fr_481 H locs hp hMr_481 g => ?_)
                                        obtain ⟨x_482, h_483, hF_484⟩ := hp
                                        have hG_485 := dOK.frame hMr_481 go_.2.2.2.1 mq1_ kq1_ (by decide) (by decide) hG_480
                                        have g := g.more hF_484
                                        refine lv_istore (lv' := [(6, .int r_481), (2, .int 1), (5, .int 0), (4, .int x_428), (3, .int v4_3), (0, .ref a0_), (1, .int x1_)]) hx hb dX0_closeParts_94 hl (by decide) rfl (fun ls hl => ?_)
                                        refine lv_iload hx hb dX0_closeParts_96 (lv_at hl 2 rfl) ?_
                                        refine lv_if_eq (tgt := 136) hx hb dX0_closeParts_98 (by decide) (fun c_ => ?_) (fun c_ => absurd (by decide) c_)
                                        refine lv_iload hx hb dX0_closeParts_136 (lv_at hl 3 rfl) ?_
                                        refine lv_sipush (v := 205) hx hb dX0_closeParts_138 (by decide) ?_
                                        have kb_205 : bd 205 205 (205 : Int32) := ⟨by decide, by decide⟩
                                        refine lv_icmp_eq (tgt := 152) hx hb dX0_closeParts_141 (by decide) (fun c_486 => ?_) (fun c_486 => ?_)
                                        · have fc_486 := eq_f c_486
                                          have b_487 : bd 205 205 x_428 := eqX fc_486 (bdT x_428) kb_205 (by decide)
                                          refine lv_aload_n hx hb dX0_closeParts_152 rfl (lv_at hl 5 rfl) ?_
                                          refine g_getk (C := RX0) (T := TX0) (N := 14) hx hb hts (mc_ inX0) hown hK g rfl 2 (by decide) rfl (hts _ (List.mem_cons_of_mem _ t_375)) (fun _ h9 => h9) 12 rfl dX0_closeParts_153 ?_
                                          refine lv_bipush (v := 8) hx hb dX0_closeParts_156 (by decide) ?_
                                          refine lv_iconst (v := 0) hx hb dX0_closeParts_158 (by decide) ?_
                                          have go_ := g
                                          refine g_callv (va_runV (As := [.int 8, .int 0]) (rest := []) ⟨hx, hb, hml, hown, hts⟩ (r_X7_emitF l dC dI L kd tys fr_481 H.size g.2.2.2.1 q1_ mq1_ kq1_ g191_7_4_q1_ mg191_7_4_q1_ kg191_7_4_q1_ g191_7_5_q1_ mg191_7_5_q1_ kg191_7_5_q1_ w4_7_6_q1_ bw4_7_6_q1_ T_ hG_485 (8 : Int32) (0 : Int32) (g.fcts [8, 7, 6] rfl)) (cwV 2 hts (gV_ t_1203 t_1204 t_1205 t_191 t_1206) rfl rfl rfl (by decide +kernel) ⟨(Nat.le_of_ble_eq_true rfl), (Nat.le_of_ble_eq_true rfl)⟩) (pre3V g hK mq1_ kq1_ (by decide) (q := (RX7, TX7, 19)) rfl) rfl rfl hl.1 rfl (lv_room (Nat.le_of_ble_eq_true rfl)) dX0_closeParts_159 ⟨(Nat.le_of_ble_eq_true rfl), (Nat.le_of_ble_eq_true rfl)⟩) g hK (by decide) (by decide) (fx' := [(0, 10, a0_, .int x_482), (0, 8, a0_, .int y_426), (8, 6, q0_, .int 1201), (8, 8, q0_, .int x_407), (0, 4, a0_, .ref a_404), (0, 12, a0_, .int 0), (7, 5, q1_, .ref g191_7_5_q1_), (7, 4, q1_, .ref g191_7_4_q1_), (0, 5, a0_, .ref g76_0_5_a0_), (0, 3, a0_, .ref g76_0_3_a0_), (0, 0, a0_, .ref q0_), (0, 2, a0_, .ref q1_)]) rfl (fun fr_488 H locs hp hMr_488 g => ?_)
                                          obtain ⟨hG_489, x_490, h_491, hF_492⟩ := hp
                                          have g := g.more hF_492
                                          refine lv_aload_n hx hb dX0_closeParts_162 rfl (lv_at hl 5 rfl) ?_
                                          refine g_getk (C := RX0) (T := TX0) (N := 14) hx hb hts (mc_ inX0) hown hK g rfl 2 (by decide) rfl (hts _ (List.mem_cons_of_mem _ t_375)) (fun _ h9 => h9) 12 rfl dX0_closeParts_163 ?_
                                          refine lv_aload_n hx hb dX0_closeParts_166 rfl (lv_at hl 5 rfl) ?_
                                          refine g_getk (C := RX0) (T := TX0) (N := 14) hx hb hts (mc_ inX0) hown hK g rfl 5 (by decide) rfl (hts _ (List.mem_cons_of_mem _ t_378)) (fun _ h9 => h9) 9 rfl dX0_closeParts_167 ?_
                                          refine lv_aload_n hx hb dX0_closeParts_170 rfl (lv_at hl 5 rfl) ?_
                                          refine g_getk (C := RX0) (T := TX0) (N := 14) hx hb hts (mc_ inX0) hown hK g rfl 8 (by decide) rfl (hts _ (List.mem_cons_of_mem _ t_381)) (fun _ h9 => h9) 2 rfl dX0_closeParts_171 ?_
                                          refine g_iald hx hb hK g mg76_0_5_a0_ kg76_0_5_a0_ (by decide) rfl (in_bd b_427 (by decide)) dX0_closeParts_174 (fun x_493 bx_493 cx_493 => ?_)
                                          have go_ := g
                                          refine g_callv (va_runV (As := [.int x_493]) (rest := []) ⟨hx, hb, hml, hown, hts⟩ (r_X7_leadHereF l dC dI L kd tys fr_488 H.size g.2.2.2.1 q1_ mq1_ kq1_ g191_7_4_q1_ mg191_7_4_q1_ kg191_7_4_q1_ g191_7_5_q1_ mg191_7_5_q1_ kg191_7_5_q1_ x_490 h_491 T_ hG_489 x_493 (g.fcts [8, 7, 0] rfl)) (cwV 1 hts (gV_ t_1207 t_1208 t_1209 t_191 t_1210) rfl rfl rfl (by decide +kernel) ⟨(Nat.le_of_ble_eq_true rfl), (Nat.le_of_ble_eq_true rfl)⟩) (pre3V g hK mq1_ kq1_ (by decide) (q := (RX7, TX7, 19)) rfl) rfl rfl hl.1 rfl (lv_room (Nat.le_of_ble_eq_true rfl)) dX0_closeParts_175 ⟨(Nat.le_of_ble_eq_true rfl), (Nat.le_of_ble_eq_true rfl)⟩) g hK (by decide) (by decide) (fx' := [(7, 6, q1_, .int x_490), (0, 10, a0_, .int x_482), (0, 8, a0_, .int y_426), (8, 6, q0_, .int 1201), (8, 8, q0_, .int x_407), (0, 4, a0_, .ref a_404), (0, 12, a0_, .int 0), (7, 5, q1_, .ref g191_7_5_q1_), (7, 4, q1_, .ref g191_7_4_q1_), (0, 5, a0_, .ref g76_0_5_a0_), (0, 3, a0_, .ref g76_0_3_a0_), (0, 0, a0_, .ref q0_), (0, 2, a0_, .ref q1_)]) rfl (fun fr_494 H locs hp hMr_494 g => ?_)
                                          obtain ⟨hG_495, x_496, h_497, hF_498⟩ := hp
                                          have g := g.more hF_498
                                          have e_499 := fx_same g 1 0 rfl rfl
                                          have g := g.sub (fx' := [(7, 6, q1_, .int x_490), (0, 10, a0_, .int x_482), (0, 8, a0_, .int y_426), (8, 6, q0_, .int 1201), (8, 8, q0_, .int x_407), (0, 4, a0_, .ref a_404), (0, 12, a0_, .int 0), (7, 5, q1_, .ref g191_7_5_q1_), (7, 4, q1_, .ref g191_7_4_q1_), (0, 5, a0_, .ref g76_0_5_a0_), (0, 3, a0_, .ref g76_0_3_a0_), (0, 0, a0_, .ref q0_), (0, 2, a0_, .ref q1_)]) [1, 2, 3, 4, 5, 6, 7, 8, 9, 10, 11, 12, 13] rfl
                                          refine lv_goto (tgt := 191) hx hb dX0_closeParts_178 (by decide) ?_
                                          refine lv_iconst (v := 1) hx hb dX0_closeParts_191 (by decide) ?_
                                          refine lv_iload hx hb dX0_closeParts_192 (lv_at hl 2 rfl) ?_
                                          refine lv_if_eq (tgt := 202) hx hb dX0_closeParts_194 (by decide) (fun c_ => ?_) (fun c_ => absurd (by decide) c_)
                                          refine lv_iload hx hb dX0_closeParts_202 (lv_at hl 0 rfl) ?_
                                          refine lv_aload_n hx hb dX0_closeParts_204 rfl (lv_at hl 5 rfl) ?_
                                          have go_ := g
                                          refine g_calli (va_runV (As := []) (rest := [.int r_481, .int 1]) ⟨hx, hb, hml, hown, hts⟩ (r_X0_takeHeight l dC dI L kd tys fr_494 H.size g.2.2.2.1 a0_ ma0_ ka0_) (cwV 0 hts (gV_ t_1199 t_1201 t_16 t_190 t_1202) rfl rfl rfl (by decide +kernel) ⟨(Nat.le_of_ble_eq_true rfl), (Nat.le_of_ble_eq_true rfl)⟩) (pre3V g hK ma0_ ka0_ (by decide) (q := (RX0, TX0, 14)) rfl) rfl rfl hl.1 rfl (lv_room (Nat.le_of_ble_eq_true rfl)) dX0_closeParts_205 ⟨(Nat.le_of_ble_eq_true rfl), (Nat.le_of_ble_eq_true rfl)⟩) g hK (by decide) (by decide) (fx' := [(7, 6, q1_, .int x_490), (0, 8, a0_, .int y_426), (8, 6, q0_, .int 1201), (8, 8, q0_, .int x_407), (0, 4, a0_, .ref a_404), (0, 12, a0_, .int 0), (7, 5, q1_, .ref g191_7_5_q1_), (7, 4, q1_, .ref g191_7_4_q1_), (0, 5, a0_, .ref g76_0_5_a0_), (0, 3, a0_, .ref g76_0_3_a0_), (0, 0, a0_, .ref q0_), (0, 2, a0_, .ref q1_)]) rfl (fun r_500 fr_500 H locs hp hMr_500 g => ?_)
                                          obtain ⟨x_501, h_502, hF_503⟩ := hp
                                          have hG_504 := dOK.frame hMr_500 go_.2.2.2.1 mq1_ kq1_ (by decide) (by decide) hG_495
                                          have g := g.more hF_503
                                          refine va_mmax hx hb (hml.trans hl.1.symm) hown (hts _ (List.mem_cons_of_mem _ t_1194)) (hts _ (List.mem_cons_of_mem _ t_1041)) (hts _ (List.mem_cons_of_mem _ t_204)) (hts _ (List.mem_cons_of_mem _ t_1042)) (Nat.le_of_ble_eq_true rfl) (Nat.le_of_ble_eq_true rfl) (Nat.le_of_ble_eq_true rfl) (Nat.le_of_ble_eq_true rfl) dX0_closeParts_208 ?_
                                          refine lv_topi (fun y_505 ey_505 => ?_)
                                          have ty_505 : y_505.toInt = max r_481.toInt r_500.toInt := by rw [ey_505]; exact mmax_ok _ _
                                          have b_506 : bd (-2147483648) 2147483647 y_505 := max_rg ty_505 (bdT r_481) (bdT r_500) (by decide)
                                          refine lv_iadd hx hb dX0_closeParts_211 ?_
                                          refine lv_topi (fun y_507 ey_507 => ?_)
                                          refine lv_istore (lv' := [(6, .int y_507), (2, .int 1), (5, .int 0), (4, .int x_428), (3, .int v4_3), (0, .ref a0_), (1, .int x1_)]) hx hb dX0_closeParts_212 hl (by decide) rfl (fun ls hl => ?_)
                                          refine lv_aload_n hx hb dX0_closeParts_214 rfl (lv_at hl 5 rfl) ?_
                                          refine lv_iload hx hb dX0_closeParts_215 (lv_at hl 0 rfl) ?_
                                          have go_ := g
                                          refine g_callv (va_runV (As := [.int y_507]) (rest := []) ⟨hx, hb, hml, hown, hts⟩ (r_X0_addWhole l dC dI L kd tys fr_500 H.size g.2.2.2.1 a0_ ma0_ ka0_ y_507) (cwV 1 hts (gV_ t_1211 t_1213 t_17 t_190 t_1214) rfl rfl rfl (by decide +kernel) ⟨(Nat.le_of_ble_eq_true rfl), (Nat.le_of_ble_eq_true rfl)⟩) (pre3V g hK ma0_ ka0_ (by decide) (q := (RX0, TX0, 14)) rfl) rfl rfl hl.1 rfl (lv_room (Nat.le_of_ble_eq_true rfl)) dX0_closeParts_217 ⟨(Nat.le_of_ble_eq_true rfl), (Nat.le_of_ble_eq_true rfl)⟩) g hK (by decide) (by decide) (fx' := [(7, 6, q1_, .int x_490), (0, 8, a0_, .int y_426), (8, 6, q0_, .int 1201), (8, 8, q0_, .int x_407), (0, 4, a0_, .ref a_404), (7, 5, q1_, .ref g191_7_5_q1_), (7, 4, q1_, .ref g191_7_4_q1_), (0, 5, a0_, .ref g76_0_5_a0_), (0, 3, a0_, .ref g76_0_3_a0_), (0, 0, a0_, .ref q0_), (0, 2, a0_, .ref q1_)]) rfl (fun fr_508 H locs hp hMr_508 g => ?_)
                                          obtain ⟨x_509, h_510, hF_511⟩ := hp
                                          have hG_512 := dOK.frame hMr_508 go_.2.2.2.1 mq1_ kq1_ (by decide) (by decide) hG_504
                                          have g := g.more hF_511
                                          refine lv_iload hx hb dX0_closeParts_220 (lv_at hl 0 rfl) ?_
                                          refine lv_bipush (v := 12) hx hb dX0_closeParts_222 (by decide) ?_
                                          refine lv_icmp_le (tgt := 245) hx hb dX0_closeParts_224 (by decide) (fun c_513 => ?_) (fun c_513 => ?_)
                                          · have fc_513 := le_f c_513
                                            have b_514 : bd (-2147483648) 12 y_507 := leL fc_513 (bdT y_507) kb_12 (by decide)
                                            obtain ⟨y_515, ey_515⟩ : ∃ z : Int32, z = v4_3 + 1 := ⟨_, rfl⟩
                                            refine lv_iinc (v := y_515) (lv' := [(3, .int y_515), (6, .int y_507), (2, .int 1), (5, .int 0), (4, .int x_428), (0, .ref a0_), (1, .int x1_)]) hx hb dX0_closeParts_245 hl (k := 4) rfl (by rw [ey_515]; rfl) (by decide) rfl (fun ls hl => ?_)
                                            have ty_515 := add_bd ey_515 b_419 kb_1 (by decide)
                                            have b_516 : bd 2 300 y_515 := add_rg ty_515 b_419 kb_1 (by decide)
                                            refine lv_goto (tgt := 4) hx hb dX0_closeParts_248 (by decide) ?_
                                            have hl9 := lv_sub hl [0, 1, 2, 3, 4, 5, 6] (by rfl : lv_pick [(3, .int y_515), (6, .int y_507), (2, .int 1), (5, .int 0), (4, .int x_428), (0, .ref a0_), (1, .int x1_)] [0, 1, 2, 3, 4, 5, 6] = [(3, .int y_515), (6, .int y_507), (2, .int 1), (5, .int 0), (4, .int x_428), (0, .ref a0_), (1, .int x1_)])
                                            have g9 := g.sub (fx' := [(8, 6, q0_, .int 1201), (8, 8, q0_, .int x_407), (0, 4, a0_, .ref a_404), (0, 12, a0_, .int 0), (0, 10, a0_, .int x_509), (7, 6, q1_, .int x_490), (7, 5, q1_, .ref g191_7_5_q1_), (7, 4, q1_, .ref g191_7_4_q1_), (0, 8, a0_, .int y_426), (0, 5, a0_, .ref g76_0_5_a0_), (0, 3, a0_, .ref g76_0_3_a0_), (0, 0, a0_, .ref q0_), (0, 2, a0_, .ref q1_)]) [4, 5, 6, 0, 1, 2, 7, 8, 3, 9, 10, 11, 12] rfl
                                            exact ih4  y_515 y_507 1 0 x_428 x_509 x_490 y_426 (bd_sub b_516 (by decide)) (bd_sub kb_1 (by decide)) (bd_sub kb_0 (by decide)) h_510 h_491 (bd_sub b_427 (by decide)) (by have h9_0 := b_427; unfold bd at h9_0; have h9_1 := b_487; unfold bd at h9_1; have h9_2 := b_514; unfold bd at h9_2; have h9_3 := b_516; unfold bd at h9_3; have h9_4 := bdT v4_4; unfold bd at h9_4; have h9_5 := bdT v4_6; unfold bd at h9_5; have h9_6 := bv4_2; unfold bd at h9_6; have h9_7 := bv4_3; unfold bd at h9_7; have h9_8 := bv4_5; unfold bd at h9_8; have h9_9 := bw4_0_10_a0_; unfold bd at h9_9; have h9_10 := bw4_0_8_a0_; unfold bd at h9_10; have h9_11 := bw4_7_6_q1_; unfold bd at h9_11; have h9_12 := h_491; unfold bd at h9_12; have h9_13 := h_510; unfold bd at h9_13; have h9_14 := kb_0; unfold bd at h9_14; have h9_15 := kb_1; unfold bd at h9_15; have h9_16 := kb_12; unfold bd at h9_16; have h9_17 := kb_205; unfold bd at h9_17; have h9_18 := kb_300; unfold bd at h9_18; have h9_19 := kb_6; unfold bd at h9_19; have h9_20 := kb_7; unfold bd at h9_20; omega) _ _ _ _ g9 hG_512 hl9
                                          · have fc_513 := nle_f c_513
                                            have b_517 : bd 13 2147483647 y_507 := ltR fc_513 kb_12 (bdT y_507) (by decide)
                                            refine lv_aload_n hx hb dX0_closeParts_227 rfl (lv_at hl 5 rfl) ?_
                                            refine g_getk (C := RX0) (T := TX0) (N := 14) hx hb hts (mc_ inX0) hown hK g rfl 0 (by decide) rfl (hts _ (List.mem_cons_of_mem _ t_373)) (fun _ h9 => h9) 11 rfl dX0_closeParts_228 ?_
                                            refine lv_bipush (v := 7) hx hb dX0_closeParts_231 (by decide) ?_
                                            refine lv_aload_n hx hb dX0_closeParts_233 rfl (lv_at hl 5 rfl) ?_
                                            refine g_getk (C := RX0) (T := TX0) (N := 14) hx hb hts (mc_ inX0) hown hK g rfl 4 (by decide) rfl (hts _ (List.mem_cons_of_mem _ t_377)) (fun _ h9 => h9) 6 rfl dX0_closeParts_234 ?_
                                            refine lv_aload_n hx hb dX0_closeParts_237 rfl (lv_at hl 5 rfl) ?_
                                            refine g_getk (C := RX0) (T := TX0) (N := 14) hx hb hts (mc_ inX0) hown hK g rfl 8 (by decide) rfl (hts _ (List.mem_cons_of_mem _ t_381)) (fun _ h9 => h9) 3 rfl dX0_closeParts_238 ?_
                                            refine g_iald hx hb hK g ma_404 ka_404 (by decide) rfl (in_bd b_427 (by decide)) dX0_closeParts_241 (fun x_518 bx_518 cx_518 => ?_)
                                            have go_ := g
                                            refine g_callv (va_runV (As := [.int 7, .int x_518]) (rest := []) ⟨hx, hb, hml, hown, hts⟩ (r_X8_fail_2 l dC dI L kd tys fr_508 H.size g.2.2.2.1 q0_ mq0_ kq0_ 7 (bd_sub kb_7 (by decide)) x_518 x_407 h_408 (g.fcts [5] rfl)) (cwV 2 hts (gV_ t_1215 t_1107 t_1108 t_184 t_1109) rfl rfl rfl (by decide +kernel) ⟨(Nat.le_of_ble_eq_true rfl), (Nat.le_of_ble_eq_true rfl)⟩) (pre3V g hK mq0_ kq0_ (by decide) (q := (RX8, TX8, 10)) rfl) rfl rfl hl.1 rfl (lv_room (Nat.le_of_ble_eq_true rfl)) dX0_closeParts_242 ⟨(Nat.le_of_ble_eq_true rfl), (Nat.le_of_ble_eq_true rfl)⟩) g hK (by decide) (by decide) (fx' := [(0, 12, a0_, .int 0), (0, 10, a0_, .int x_509), (7, 6, q1_, .int x_490), (0, 8, a0_, .int y_426), (8, 8, q0_, .int x_407), (0, 4, a0_, .ref a_404), (7, 5, q1_, .ref g191_7_5_q1_), (7, 4, q1_, .ref g191_7_4_q1_), (0, 5, a0_, .ref g76_0_5_a0_), (0, 3, a0_, .ref g76_0_3_a0_), (0, 0, a0_, .ref q0_), (0, 2, a0_, .ref q1_)]) rfl (fun fr_519 H locs hp hMr_519 g => ?_)
                                            have hF_520 := hp
                                            have hG_521 := dOK.frame hMr_519 go_.2.2.2.1 mq1_ kq1_ (by decide) (by decide) hG_512
                                            have g := g.more hF_520
                                            obtain ⟨y_522, ey_522⟩ : ∃ z : Int32, z = v4_3 + 1 := ⟨_, rfl⟩
                                            refine lv_iinc (v := y_522) (lv' := [(3, .int y_522), (6, .int y_507), (2, .int 1), (5, .int 0), (4, .int x_428), (0, .ref a0_), (1, .int x1_)]) hx hb dX0_closeParts_245 hl (k := 4) rfl (by rw [ey_522]; rfl) (by decide) rfl (fun ls hl => ?_)
                                            have ty_522 := add_bd ey_522 b_419 kb_1 (by decide)
                                            have b_523 : bd 2 300 y_522 := add_rg ty_522 b_419 kb_1 (by decide)
                                            refine lv_goto (tgt := 4) hx hb dX0_closeParts_248 (by decide) ?_
                                            have hl9 := lv_sub hl [0, 1, 2, 3, 4, 5, 6] (by rfl : lv_pick [(3, .int y_522), (6, .int y_507), (2, .int 1), (5, .int 0), (4, .int x_428), (0, .ref a0_), (1, .int x1_)] [0, 1, 2, 3, 4, 5, 6] = [(3, .int y_522), (6, .int y_507), (2, .int 1), (5, .int 0), (4, .int x_428), (0, .ref a0_), (1, .int x1_)])
                                            have g9 := g.sub (fx' := [(8, 6, q0_, .int 1201), (8, 8, q0_, .int x_407), (0, 4, a0_, .ref a_404), (0, 12, a0_, .int 0), (0, 10, a0_, .int x_509), (7, 6, q1_, .int x_490), (7, 5, q1_, .ref g191_7_5_q1_), (7, 4, q1_, .ref g191_7_4_q1_), (0, 8, a0_, .int y_426), (0, 5, a0_, .ref g76_0_5_a0_), (0, 3, a0_, .ref g76_0_3_a0_), (0, 0, a0_, .ref q0_), (0, 2, a0_, .ref q1_)]) [0, 5, 6, 1, 2, 3, 7, 8, 4, 9, 10, 11, 12] rfl
                                            exact ih4  y_522 y_507 1 0 x_428 x_509 x_490 y_426 (bd_sub b_523 (by decide)) (bd_sub kb_1 (by decide)) (bd_sub kb_0 (by decide)) h_510 h_491 (bd_sub b_427 (by decide)) (by have h9_0 := b_427; unfold bd at h9_0; have h9_1 := b_487; unfold bd at h9_1; have h9_2 := b_517; unfold bd at h9_2; have h9_3 := b_523; unfold bd at h9_3; have h9_4 := bdT v4_4; unfold bd at h9_4; have h9_5 := bdT v4_6; unfold bd at h9_5; have h9_6 := bv4_2; unfold bd at h9_6; have h9_7 := bv4_3; unfold bd at h9_7; have h9_8 := bv4_5; unfold bd at h9_8; have h9_9 := bw4_0_10_a0_; unfold bd at h9_9; have h9_10 := bw4_0_8_a0_; unfold bd at h9_10; have h9_11 := bw4_7_6_q1_; unfold bd at h9_11; have h9_12 := h_491; unfold bd at h9_12; have h9_13 := h_510; unfold bd at h9_13; have h9_14 := kb_0; unfold bd at h9_14; have h9_15 := kb_1; unfold bd at h9_15; have h9_16 := kb_12; unfold bd at h9_16; have h9_17 := kb_205; unfold bd at h9_17; have h9_18 := kb_300; unfold bd at h9_18; have h9_19 := kb_6; unfold bd at h9_19; have h9_20 := kb_7; unfold bd at h9_20; omega) _ _ _ _ g9 hG_521 hl9
                                        · have fc_486 := neq_f c_486
                                          refine lv_iload hx hb dX0_closeParts_144 (lv_at hl 3 rfl) ?_
                                          refine lv_sipush (v := 206) hx hb dX0_closeParts_146 (by decide) ?_
                                          have kb_206 : bd 206 206 (206 : Int32) := ⟨by decide, by decide⟩
                                          refine lv_icmp_ne (tgt := 181) hx hb dX0_closeParts_149 (by decide) (fun c_524 => ?_) (fun c_524 => ?_)
                                          · have fc_524 := neq_f c_524
                                            refine lv_aload_n hx hb dX0_closeParts_181 rfl (lv_at hl 5 rfl) ?_
                                            refine g_getk (C := RX0) (T := TX0) (N := 14) hx hb hts (mc_ inX0) hown hK g rfl 2 (by decide) rfl (hts _ (List.mem_cons_of_mem _ t_375)) (fun _ h9 => h9) 12 rfl dX0_closeParts_182 ?_
                                            refine lv_iload hx hb dX0_closeParts_185 (lv_at hl 3 rfl) ?_
                                            refine lv_iconst (v := 0) hx hb dX0_closeParts_187 (by decide) ?_
                                            have go_ := g
                                            refine g_callv (va_runV (As := [.int x_428, .int 0]) (rest := []) ⟨hx, hb, hml, hown, hts⟩ (r_X7_emitF l dC dI L kd tys fr_481 H.size g.2.2.2.1 q1_ mq1_ kq1_ g191_7_4_q1_ mg191_7_4_q1_ kg191_7_4_q1_ g191_7_5_q1_ mg191_7_5_q1_ kg191_7_5_q1_ w4_7_6_q1_ bw4_7_6_q1_ T_ hG_485 x_428 (0 : Int32) (g.fcts [8, 7, 6] rfl)) (cwV 2 hts (gV_ t_1203 t_1204 t_1205 t_191 t_1206) rfl rfl rfl (by decide +kernel) ⟨(Nat.le_of_ble_eq_true rfl), (Nat.le_of_ble_eq_true rfl)⟩) (pre3V g hK mq1_ kq1_ (by decide) (q := (RX7, TX7, 19)) rfl) rfl rfl hl.1 rfl (lv_room (Nat.le_of_ble_eq_true rfl)) dX0_closeParts_188 ⟨(Nat.le_of_ble_eq_true rfl), (Nat.le_of_ble_eq_true rfl)⟩) g hK (by decide) (by decide) (fx' := [(0, 10, a0_, .int x_482), (0, 8, a0_, .int y_426), (8, 6, q0_, .int 1201), (8, 8, q0_, .int x_407), (0, 4, a0_, .ref a_404), (0, 12, a0_, .int 0), (7, 5, q1_, .ref g191_7_5_q1_), (7, 4, q1_, .ref g191_7_4_q1_), (0, 5, a0_, .ref g76_0_5_a0_), (0, 3, a0_, .ref g76_0_3_a0_), (0, 0, a0_, .ref q0_), (0, 2, a0_, .ref q1_)]) rfl (fun fr_525 H locs hp hMr_525 g => ?_)
                                            obtain ⟨hG_526, x_527, h_528, hF_529⟩ := hp
                                            have g := g.more hF_529
                                            refine lv_iconst (v := 1) hx hb dX0_closeParts_191 (by decide) ?_
                                            refine lv_iload hx hb dX0_closeParts_192 (lv_at hl 2 rfl) ?_
                                            refine lv_if_eq (tgt := 202) hx hb dX0_closeParts_194 (by decide) (fun c_ => ?_) (fun c_ => absurd (by decide) c_)
                                            refine lv_iload hx hb dX0_closeParts_202 (lv_at hl 0 rfl) ?_
                                            refine lv_aload_n hx hb dX0_closeParts_204 rfl (lv_at hl 5 rfl) ?_
                                            have go_ := g
                                            refine g_calli (va_runV (As := []) (rest := [.int r_481, .int 1]) ⟨hx, hb, hml, hown, hts⟩ (r_X0_takeHeight l dC dI L kd tys fr_525 H.size g.2.2.2.1 a0_ ma0_ ka0_) (cwV 0 hts (gV_ t_1199 t_1201 t_16 t_190 t_1202) rfl rfl rfl (by decide +kernel) ⟨(Nat.le_of_ble_eq_true rfl), (Nat.le_of_ble_eq_true rfl)⟩) (pre3V g hK ma0_ ka0_ (by decide) (q := (RX0, TX0, 14)) rfl) rfl rfl hl.1 rfl (lv_room (Nat.le_of_ble_eq_true rfl)) dX0_closeParts_205 ⟨(Nat.le_of_ble_eq_true rfl), (Nat.le_of_ble_eq_true rfl)⟩) g hK (by decide) (by decide) (fx' := [(7, 6, q1_, .int x_527), (0, 8, a0_, .int y_426), (8, 6, q0_, .int 1201), (8, 8, q0_, .int x_407), (0, 4, a0_, .ref a_404), (0, 12, a0_, .int 0), (7, 5, q1_, .ref g191_7_5_q1_), (7, 4, q1_, .ref g191_7_4_q1_), (0, 5, a0_, .ref g76_0_5_a0_), (0, 3, a0_, .ref g76_0_3_a0_), (0, 0, a0_, .ref q0_), (0, 2, a0_, .ref q1_)]) rfl (fun r_530 fr_530 H locs hp hMr_530 g => ?_)
                                            obtain ⟨x_531, h_532, hF_533⟩ := hp
                                            have hG_534 := dOK.frame hMr_530 go_.2.2.2.1 mq1_ kq1_ (by decide) (by decide) hG_526
                                            have g := g.more hF_533
                                            refine va_mmax hx hb (hml.trans hl.1.symm) hown (hts _ (List.mem_cons_of_mem _ t_1194)) (hts _ (List.mem_cons_of_mem _ t_1041)) (hts _ (List.mem_cons_of_mem _ t_204)) (hts _ (List.mem_cons_of_mem _ t_1042)) (Nat.le_of_ble_eq_true rfl) (Nat.le_of_ble_eq_true rfl) (Nat.le_of_ble_eq_true rfl) (Nat.le_of_ble_eq_true rfl) dX0_closeParts_208 ?_
                                            refine lv_topi (fun y_535 ey_535 => ?_)
                                            have ty_535 : y_535.toInt = max r_481.toInt r_530.toInt := by rw [ey_535]; exact mmax_ok _ _
                                            have b_536 : bd (-2147483648) 2147483647 y_535 := max_rg ty_535 (bdT r_481) (bdT r_530) (by decide)
                                            refine lv_iadd hx hb dX0_closeParts_211 ?_
                                            refine lv_topi (fun y_537 ey_537 => ?_)
                                            refine lv_istore (lv' := [(6, .int y_537), (2, .int 1), (5, .int 0), (4, .int x_428), (3, .int v4_3), (0, .ref a0_), (1, .int x1_)]) hx hb dX0_closeParts_212 hl (by decide) rfl (fun ls hl => ?_)
                                            refine lv_aload_n hx hb dX0_closeParts_214 rfl (lv_at hl 5 rfl) ?_
                                            refine lv_iload hx hb dX0_closeParts_215 (lv_at hl 0 rfl) ?_
                                            have go_ := g
                                            refine g_callv (va_runV (As := [.int y_537]) (rest := []) ⟨hx, hb, hml, hown, hts⟩ (r_X0_addWhole l dC dI L kd tys fr_530 H.size g.2.2.2.1 a0_ ma0_ ka0_ y_537) (cwV 1 hts (gV_ t_1211 t_1213 t_17 t_190 t_1214) rfl rfl rfl (by decide +kernel) ⟨(Nat.le_of_ble_eq_true rfl), (Nat.le_of_ble_eq_true rfl)⟩) (pre3V g hK ma0_ ka0_ (by decide) (q := (RX0, TX0, 14)) rfl) rfl rfl hl.1 rfl (lv_room (Nat.le_of_ble_eq_true rfl)) dX0_closeParts_217 ⟨(Nat.le_of_ble_eq_true rfl), (Nat.le_of_ble_eq_true rfl)⟩) g hK (by decide) (by decide) (fx' := [(7, 6, q1_, .int x_527), (0, 8, a0_, .int y_426), (8, 6, q0_, .int 1201), (8, 8, q0_, .int x_407), (0, 4, a0_, .ref a_404), (7, 5, q1_, .ref g191_7_5_q1_), (7, 4, q1_, .ref g191_7_4_q1_), (0, 5, a0_, .ref g76_0_5_a0_), (0, 3, a0_, .ref g76_0_3_a0_), (0, 0, a0_, .ref q0_), (0, 2, a0_, .ref q1_)]) rfl (fun fr_538 H locs hp hMr_538 g => ?_)
                                            obtain ⟨x_539, h_540, hF_541⟩ := hp
                                            have hG_542 := dOK.frame hMr_538 go_.2.2.2.1 mq1_ kq1_ (by decide) (by decide) hG_534
                                            have g := g.more hF_541
                                            refine lv_iload hx hb dX0_closeParts_220 (lv_at hl 0 rfl) ?_
                                            refine lv_bipush (v := 12) hx hb dX0_closeParts_222 (by decide) ?_
                                            refine lv_icmp_le (tgt := 245) hx hb dX0_closeParts_224 (by decide) (fun c_543 => ?_) (fun c_543 => ?_)
                                            · have fc_543 := le_f c_543
                                              have b_544 : bd (-2147483648) 12 y_537 := leL fc_543 (bdT y_537) kb_12 (by decide)
                                              obtain ⟨y_545, ey_545⟩ : ∃ z : Int32, z = v4_3 + 1 := ⟨_, rfl⟩
                                              refine lv_iinc (v := y_545) (lv' := [(3, .int y_545), (6, .int y_537), (2, .int 1), (5, .int 0), (4, .int x_428), (0, .ref a0_), (1, .int x1_)]) hx hb dX0_closeParts_245 hl (k := 4) rfl (by rw [ey_545]; rfl) (by decide) rfl (fun ls hl => ?_)
                                              have ty_545 := add_bd ey_545 b_419 kb_1 (by decide)
                                              have b_546 : bd 2 300 y_545 := add_rg ty_545 b_419 kb_1 (by decide)
                                              refine lv_goto (tgt := 4) hx hb dX0_closeParts_248 (by decide) ?_
                                              have hl9 := lv_sub hl [0, 1, 2, 3, 4, 5, 6] (by rfl : lv_pick [(3, .int y_545), (6, .int y_537), (2, .int 1), (5, .int 0), (4, .int x_428), (0, .ref a0_), (1, .int x1_)] [0, 1, 2, 3, 4, 5, 6] = [(3, .int y_545), (6, .int y_537), (2, .int 1), (5, .int 0), (4, .int x_428), (0, .ref a0_), (1, .int x1_)])
                                              have g9 := g.sub (fx' := [(8, 6, q0_, .int 1201), (8, 8, q0_, .int x_407), (0, 4, a0_, .ref a_404), (0, 12, a0_, .int 0), (0, 10, a0_, .int x_539), (7, 6, q1_, .int x_527), (7, 5, q1_, .ref g191_7_5_q1_), (7, 4, q1_, .ref g191_7_4_q1_), (0, 8, a0_, .int y_426), (0, 5, a0_, .ref g76_0_5_a0_), (0, 3, a0_, .ref g76_0_3_a0_), (0, 0, a0_, .ref q0_), (0, 2, a0_, .ref q1_)]) [4, 5, 6, 0, 1, 2, 7, 8, 3, 9, 10, 11, 12] rfl
                                              exact ih4  y_545 y_537 1 0 x_428 x_539 x_527 y_426 (bd_sub b_546 (by decide)) (bd_sub kb_1 (by decide)) (bd_sub kb_0 (by decide)) h_540 h_528 (bd_sub b_427 (by decide)) (by have h9_0 := b_427; unfold bd at h9_0; have h9_1 := b_544; unfold bd at h9_1; have h9_2 := b_546; unfold bd at h9_2; have h9_3 := bdT v4_4; unfold bd at h9_3; have h9_4 := bdT v4_6; unfold bd at h9_4; have h9_5 := bdT x_428; unfold bd at h9_5; have h9_6 := bv4_2; unfold bd at h9_6; have h9_7 := bv4_3; unfold bd at h9_7; have h9_8 := bv4_5; unfold bd at h9_8; have h9_9 := bw4_0_10_a0_; unfold bd at h9_9; have h9_10 := bw4_0_8_a0_; unfold bd at h9_10; have h9_11 := bw4_7_6_q1_; unfold bd at h9_11; have h9_12 := h_528; unfold bd at h9_12; have h9_13 := h_540; unfold bd at h9_13; have h9_14 := kb_0; unfold bd at h9_14; have h9_15 := kb_1; unfold bd at h9_15; have h9_16 := kb_12; unfold bd at h9_16; have h9_17 := kb_205; unfold bd at h9_17; have h9_18 := kb_206; unfold bd at h9_18; have h9_19 := kb_300; unfold bd at h9_19; have h9_20 := kb_6; unfold bd at h9_20; have h9_21 := kb_7; unfold bd at h9_21; omega) _ _ _ _ g9 hG_542 hl9
                                            · have fc_543 := nle_f c_543
                                              have b_547 : bd 13 2147483647 y_537 := ltR fc_543 kb_12 (bdT y_537) (by decide)
                                              refine lv_aload_n hx hb dX0_closeParts_227 rfl (lv_at hl 5 rfl) ?_
                                              refine g_getk (C := RX0) (T := TX0) (N := 14) hx hb hts (mc_ inX0) hown hK g rfl 0 (by decide) rfl (hts _ (List.mem_cons_of_mem _ t_373)) (fun _ h9 => h9) 11 rfl dX0_closeParts_228 ?_
                                              refine lv_bipush (v := 7) hx hb dX0_closeParts_231 (by decide) ?_
                                              refine lv_aload_n hx hb dX0_closeParts_233 rfl (lv_at hl 5 rfl) ?_
                                              refine g_getk (C := RX0) (T := TX0) (N := 14) hx hb hts (mc_ inX0) hown hK g rfl 4 (by decide) rfl (hts _ (List.mem_cons_of_mem _ t_377)) (fun _ h9 => h9) 6 rfl dX0_closeParts_234 ?_
                                              refine lv_aload_n hx hb dX0_closeParts_237 rfl (lv_at hl 5 rfl) ?_
                                              refine g_getk (C := RX0) (T := TX0) (N := 14) hx hb hts (mc_ inX0) hown hK g rfl 8 (by decide) rfl (hts _ (List.mem_cons_of_mem _ t_381)) (fun _ h9 => h9) 3 rfl dX0_closeParts_238 ?_
                                              refine g_iald hx hb hK g ma_404 ka_404 (by decide) rfl (in_bd b_427 (by decide)) dX0_closeParts_241 (fun x_548 bx_548 cx_548 => ?_)
                                              have go_ := g
                                              refine g_callv (va_runV (As := [.int 7, .int x_548]) (rest := []) ⟨hx, hb, hml, hown, hts⟩ (r_X8_fail_2 l dC dI L kd tys fr_538 H.size g.2.2.2.1 q0_ mq0_ kq0_ 7 (bd_sub kb_7 (by decide)) x_548 x_407 h_408 (g.fcts [5] rfl)) (cwV 2 hts (gV_ t_1215 t_1107 t_1108 t_184 t_1109) rfl rfl rfl (by decide +kernel) ⟨(Nat.le_of_ble_eq_true rfl), (Nat.le_of_ble_eq_true rfl)⟩) (pre3V g hK mq0_ kq0_ (by decide) (q := (RX8, TX8, 10)) rfl) rfl rfl hl.1 rfl (lv_room (Nat.le_of_ble_eq_true rfl)) dX0_closeParts_242 ⟨(Nat.le_of_ble_eq_true rfl), (Nat.le_of_ble_eq_true rfl)⟩) g hK (by decide) (by decide) (fx' := [(0, 12, a0_, .int 0), (0, 10, a0_, .int x_539), (7, 6, q1_, .int x_527), (0, 8, a0_, .int y_426), (8, 8, q0_, .int x_407), (0, 4, a0_, .ref a_404), (7, 5, q1_, .ref g191_7_5_q1_), (7, 4, q1_, .ref g191_7_4_q1_), (0, 5, a0_, .ref g76_0_5_a0_), (0, 3, a0_, .ref g76_0_3_a0_), (0, 0, a0_, .ref q0_), (0, 2, a0_, .ref q1_)]) rfl (fun fr_549 H locs hp hMr_549 g => ?_)
                                              have hF_550 := hp
                                              have hG_551 := dOK.frame hMr_549 go_.2.2.2.1 mq1_ kq1_ (by decide) (by decide) hG_542
                                              have g := g.more hF_550
                                              obtain ⟨y_552, ey_552⟩ : ∃ z : Int32, z = v4_3 + 1 := ⟨_, rfl⟩
                                              refine lv_iinc (v := y_552) (lv' := [(3, .int y_552), (6, .int y_537), (2, .int 1), (5, .int 0), (4, .int x_428), (0, .ref a0_), (1, .int x1_)]) hx hb dX0_closeParts_245 hl (k := 4) rfl (by rw [ey_552]; rfl) (by decide) rfl (fun ls hl => ?_)
                                              have ty_552 := add_bd ey_552 b_419 kb_1 (by decide)
                                              have b_553 : bd 2 300 y_552 := add_rg ty_552 b_419 kb_1 (by decide)
                                              refine lv_goto (tgt := 4) hx hb dX0_closeParts_248 (by decide) ?_
                                              have hl9 := lv_sub hl [0, 1, 2, 3, 4, 5, 6] (by rfl : lv_pick [(3, .int y_552), (6, .int y_537), (2, .int 1), (5, .int 0), (4, .int x_428), (0, .ref a0_), (1, .int x1_)] [0, 1, 2, 3, 4, 5, 6] = [(3, .int y_552), (6, .int y_537), (2, .int 1), (5, .int 0), (4, .int x_428), (0, .ref a0_), (1, .int x1_)])
                                              have g9 := g.sub (fx' := [(8, 6, q0_, .int 1201), (8, 8, q0_, .int x_407), (0, 4, a0_, .ref a_404), (0, 12, a0_, .int 0), (0, 10, a0_, .int x_539), (7, 6, q1_, .int x_527), (7, 5, q1_, .ref g191_7_5_q1_), (7, 4, q1_, .ref g191_7_4_q1_), (0, 8, a0_, .int y_426), (0, 5, a0_, .ref g76_0_5_a0_), (0, 3, a0_, .ref g76_0_3_a0_), (0, 0, a0_, .ref q0_), (0, 2, a0_, .ref q1_)]) [0, 5, 6, 1, 2, 3, 7, 8, 4, 9, 10, 11, 12] rfl
                                              exact ih4  y_552 y_537 1 0 x_428 x_539 x_527 y_426 (bd_sub b_553 (by decide)) (bd_sub kb_1 (by decide)) (bd_sub kb_0 (by decide)) h_540 h_528 (bd_sub b_427 (by decide)) (by have h9_0 := b_427; unfold bd at h9_0; have h9_1 := b_547; unfold bd at h9_1; have h9_2 := b_553; unfold bd at h9_2; have h9_3 := bdT v4_4; unfold bd at h9_3; have h9_4 := bdT v4_6; unfold bd at h9_4; have h9_5 := bdT x_428; unfold bd at h9_5; have h9_6 := bv4_2; unfold bd at h9_6; have h9_7 := bv4_3; unfold bd at h9_7; have h9_8 := bv4_5; unfold bd at h9_8; have h9_9 := bw4_0_10_a0_; unfold bd at h9_9; have h9_10 := bw4_0_8_a0_; unfold bd at h9_10; have h9_11 := bw4_7_6_q1_; unfold bd at h9_11; have h9_12 := h_528; unfold bd at h9_12; have h9_13 := h_540; unfold bd at h9_13; have h9_14 := kb_0; unfold bd at h9_14; have h9_15 := kb_1; unfold bd at h9_15; have h9_16 := kb_12; unfold bd at h9_16; have h9_17 := kb_205; unfold bd at h9_17; have h9_18 := kb_206; unfold bd at h9_18; have h9_19 := kb_300; unfold bd at h9_19; have h9_20 := kb_6; unfold bd at h9_20; have h9_21 := kb_7; unfold bd at h9_21; omega) _ _ _ _ g9 hG_551 hl9
                                          · have fc_524 := eq_f c_524
                                            have b_554 : bd 206 206 x_428 := eqX fc_524 (bdT x_428) kb_206 (by decide)
                                            refine lv_aload_n hx hb dX0_closeParts_152 rfl (lv_at hl 5 rfl) ?_
                                            refine g_getk (C := RX0) (T := TX0) (N := 14) hx hb hts (mc_ inX0) hown hK g rfl 2 (by decide) rfl (hts _ (List.mem_cons_of_mem _ t_375)) (fun _ h9 => h9) 12 rfl dX0_closeParts_153 ?_
                                            refine lv_bipush (v := 8) hx hb dX0_closeParts_156 (by decide) ?_
                                            refine lv_iconst (v := 0) hx hb dX0_closeParts_158 (by decide) ?_
                                            have go_ := g
                                            refine g_callv (va_runV (As := [.int 8, .int 0]) (rest := []) ⟨hx, hb, hml, hown, hts⟩ (r_X7_emitF l dC dI L kd tys fr_481 H.size g.2.2.2.1 q1_ mq1_ kq1_ g191_7_4_q1_ mg191_7_4_q1_ kg191_7_4_q1_ g191_7_5_q1_ mg191_7_5_q1_ kg191_7_5_q1_ w4_7_6_q1_ bw4_7_6_q1_ T_ hG_485 (8 : Int32) (0 : Int32) (g.fcts [8, 7, 6] rfl)) (cwV 2 hts (gV_ t_1203 t_1204 t_1205 t_191 t_1206) rfl rfl rfl (by decide +kernel) ⟨(Nat.le_of_ble_eq_true rfl), (Nat.le_of_ble_eq_true rfl)⟩) (pre3V g hK mq1_ kq1_ (by decide) (q := (RX7, TX7, 19)) rfl) rfl rfl hl.1 rfl (lv_room (Nat.le_of_ble_eq_true rfl)) dX0_closeParts_159 ⟨(Nat.le_of_ble_eq_true rfl), (Nat.le_of_ble_eq_true rfl)⟩) g hK (by decide) (by decide) (fx' := [(0, 10, a0_, .int x_482), (0, 8, a0_, .int y_426), (8, 6, q0_, .int 1201), (8, 8, q0_, .int x_407), (0, 4, a0_, .ref a_404), (0, 12, a0_, .int 0), (7, 5, q1_, .ref g191_7_5_q1_), (7, 4, q1_, .ref g191_7_4_q1_), (0, 5, a0_, .ref g76_0_5_a0_), (0, 3, a0_, .ref g76_0_3_a0_), (0, 0, a0_, .ref q0_), (0, 2, a0_, .ref q1_)]) rfl (fun fr_555 H locs hp hMr_555 g => ?_)
                                            obtain ⟨hG_556, x_557, h_558, hF_559⟩ := hp
                                            have g := g.more hF_559
                                            refine lv_aload_n hx hb dX0_closeParts_162 rfl (lv_at hl 5 rfl) ?_
                                            refine g_getk (C := RX0) (T := TX0) (N := 14) hx hb hts (mc_ inX0) hown hK g rfl 2 (by decide) rfl (hts _ (List.mem_cons_of_mem _ t_375)) (fun _ h9 => h9) 12 rfl dX0_closeParts_163 ?_
                                            refine lv_aload_n hx hb dX0_closeParts_166 rfl (lv_at hl 5 rfl) ?_
                                            refine g_getk (C := RX0) (T := TX0) (N := 14) hx hb hts (mc_ inX0) hown hK g rfl 5 (by decide) rfl (hts _ (List.mem_cons_of_mem _ t_378)) (fun _ h9 => h9) 9 rfl dX0_closeParts_167 ?_
                                            refine lv_aload_n hx hb dX0_closeParts_170 rfl (lv_at hl 5 rfl) ?_
                                            refine g_getk (C := RX0) (T := TX0) (N := 14) hx hb hts (mc_ inX0) hown hK g rfl 8 (by decide) rfl (hts _ (List.mem_cons_of_mem _ t_381)) (fun _ h9 => h9) 2 rfl dX0_closeParts_171 ?_
                                            refine g_iald hx hb hK g mg76_0_5_a0_ kg76_0_5_a0_ (by decide) rfl (in_bd b_427 (by decide)) dX0_closeParts_174 (fun x_560 bx_560 cx_560 => ?_)
                                            have go_ := g
                                            refine g_callv (va_runV (As := [.int x_560]) (rest := []) ⟨hx, hb, hml, hown, hts⟩ (r_X7_leadHereF l dC dI L kd tys fr_555 H.size g.2.2.2.1 q1_ mq1_ kq1_ g191_7_4_q1_ mg191_7_4_q1_ kg191_7_4_q1_ g191_7_5_q1_ mg191_7_5_q1_ kg191_7_5_q1_ x_557 h_558 T_ hG_556 x_560 (g.fcts [8, 7, 0] rfl)) (cwV 1 hts (gV_ t_1207 t_1208 t_1209 t_191 t_1210) rfl rfl rfl (by decide +kernel) ⟨(Nat.le_of_ble_eq_true rfl), (Nat.le_of_ble_eq_true rfl)⟩) (pre3V g hK mq1_ kq1_ (by decide) (q := (RX7, TX7, 19)) rfl) rfl rfl hl.1 rfl (lv_room (Nat.le_of_ble_eq_true rfl)) dX0_closeParts_175 ⟨(Nat.le_of_ble_eq_true rfl), (Nat.le_of_ble_eq_true rfl)⟩) g hK (by decide) (by decide) (fx' := [(7, 6, q1_, .int x_557), (0, 10, a0_, .int x_482), (0, 8, a0_, .int y_426), (8, 6, q0_, .int 1201), (8, 8, q0_, .int x_407), (0, 4, a0_, .ref a_404), (0, 12, a0_, .int 0), (7, 5, q1_, .ref g191_7_5_q1_), (7, 4, q1_, .ref g191_7_4_q1_), (0, 5, a0_, .ref g76_0_5_a0_), (0, 3, a0_, .ref g76_0_3_a0_), (0, 0, a0_, .ref q0_), (0, 2, a0_, .ref q1_)]) rfl (fun fr_561 H locs hp hMr_561 g => ?_)
                                            obtain ⟨hG_562, x_563, h_564, hF_565⟩ := hp
                                            have g := g.more hF_565
                                            have e_566 := fx_same g 1 0 rfl rfl
                                            have g := g.sub (fx' := [(7, 6, q1_, .int x_557), (0, 10, a0_, .int x_482), (0, 8, a0_, .int y_426), (8, 6, q0_, .int 1201), (8, 8, q0_, .int x_407), (0, 4, a0_, .ref a_404), (0, 12, a0_, .int 0), (7, 5, q1_, .ref g191_7_5_q1_), (7, 4, q1_, .ref g191_7_4_q1_), (0, 5, a0_, .ref g76_0_5_a0_), (0, 3, a0_, .ref g76_0_3_a0_), (0, 0, a0_, .ref q0_), (0, 2, a0_, .ref q1_)]) [1, 2, 3, 4, 5, 6, 7, 8, 9, 10, 11, 12, 13] rfl
                                            refine lv_goto (tgt := 191) hx hb dX0_closeParts_178 (by decide) ?_
                                            refine lv_iconst (v := 1) hx hb dX0_closeParts_191 (by decide) ?_
                                            refine lv_iload hx hb dX0_closeParts_192 (lv_at hl 2 rfl) ?_
                                            refine lv_if_eq (tgt := 202) hx hb dX0_closeParts_194 (by decide) (fun c_ => ?_) (fun c_ => absurd (by decide) c_)
                                            refine lv_iload hx hb dX0_closeParts_202 (lv_at hl 0 rfl) ?_
                                            refine lv_aload_n hx hb dX0_closeParts_204 rfl (lv_at hl 5 rfl) ?_
                                            have go_ := g
                                            refine g_calli (va_runV (As := []) (rest := [.int r_481, .int 1]) ⟨hx, hb, hml, hown, hts⟩ (r_X0_takeHeight l dC dI L kd tys fr_561 H.size g.2.2.2.1 a0_ ma0_ ka0_) (cwV 0 hts (gV_ t_1199 t_1201 t_16 t_190 t_1202) rfl rfl rfl (by decide +kernel) ⟨(Nat.le_of_ble_eq_true rfl), (Nat.le_of_ble_eq_true rfl)⟩) (pre3V g hK ma0_ ka0_ (by decide) (q := (RX0, TX0, 14)) rfl) rfl rfl hl.1 rfl (lv_room (Nat.le_of_ble_eq_true rfl)) dX0_closeParts_205 ⟨(Nat.le_of_ble_eq_true rfl), (Nat.le_of_ble_eq_true rfl)⟩) g hK (by decide) (by decide) (fx' := [(7, 6, q1_, .int x_557), (0, 8, a0_, .int y_426), (8, 6, q0_, .int 1201), (8, 8, q0_, .int x_407), (0, 4, a0_, .ref a_404), (0, 12, a0_, .int 0), (7, 5, q1_, .ref g191_7_5_q1_), (7, 4, q1_, .ref g191_7_4_q1_), (0, 5, a0_, .ref g76_0_5_a0_), (0, 3, a0_, .ref g76_0_3_a0_), (0, 0, a0_, .ref q0_), (0, 2, a0_, .ref q1_)]) rfl (fun r_567 fr_567 H locs hp hMr_567 g => ?_)
                                            obtain ⟨x_568, h_569, hF_570⟩ := hp
                                            have hG_571 := dOK.frame hMr_567 go_.2.2.2.1 mq1_ kq1_ (by decide) (by decide) hG_562
                                            have g := g.more hF_570
                                            refine va_mmax hx hb (hml.trans hl.1.symm) hown (hts _ (List.mem_cons_of_mem _ t_1194)) (hts _ (List.mem_cons_of_mem _ t_1041)) (hts _ (List.mem_cons_of_mem _ t_204)) (hts _ (List.mem_cons_of_mem _ t_1042)) (Nat.le_of_ble_eq_true rfl) (Nat.le_of_ble_eq_true rfl) (Nat.le_of_ble_eq_true rfl) (Nat.le_of_ble_eq_true rfl) dX0_closeParts_208 ?_
                                            refine lv_topi (fun y_572 ey_572 => ?_)
                                            have ty_572 : y_572.toInt = max r_481.toInt r_567.toInt := by rw [ey_572]; exact mmax_ok _ _
                                            have b_573 : bd (-2147483648) 2147483647 y_572 := max_rg ty_572 (bdT r_481) (bdT r_567) (by decide)
                                            refine lv_iadd hx hb dX0_closeParts_211 ?_
                                            refine lv_topi (fun y_574 ey_574 => ?_)
                                            refine lv_istore (lv' := [(6, .int y_574), (2, .int 1), (5, .int 0), (4, .int x_428), (3, .int v4_3), (0, .ref a0_), (1, .int x1_)]) hx hb dX0_closeParts_212 hl (by decide) rfl (fun ls hl => ?_)
                                            refine lv_aload_n hx hb dX0_closeParts_214 rfl (lv_at hl 5 rfl) ?_
                                            refine lv_iload hx hb dX0_closeParts_215 (lv_at hl 0 rfl) ?_
                                            have go_ := g
                                            refine g_callv (va_runV (As := [.int y_574]) (rest := []) ⟨hx, hb, hml, hown, hts⟩ (r_X0_addWhole l dC dI L kd tys fr_567 H.size g.2.2.2.1 a0_ ma0_ ka0_ y_574) (cwV 1 hts (gV_ t_1211 t_1213 t_17 t_190 t_1214) rfl rfl rfl (by decide +kernel) ⟨(Nat.le_of_ble_eq_true rfl), (Nat.le_of_ble_eq_true rfl)⟩) (pre3V g hK ma0_ ka0_ (by decide) (q := (RX0, TX0, 14)) rfl) rfl rfl hl.1 rfl (lv_room (Nat.le_of_ble_eq_true rfl)) dX0_closeParts_217 ⟨(Nat.le_of_ble_eq_true rfl), (Nat.le_of_ble_eq_true rfl)⟩) g hK (by decide) (by decide) (fx' := [(7, 6, q1_, .int x_557), (0, 8, a0_, .int y_426), (8, 6, q0_, .int 1201), (8, 8, q0_, .int x_407), (0, 4, a0_, .ref a_404), (7, 5, q1_, .ref g191_7_5_q1_), (7, 4, q1_, .ref g191_7_4_q1_), (0, 5, a0_, .ref g76_0_5_a0_), (0, 3, a0_, .ref g76_0_3_a0_), (0, 0, a0_, .ref q0_), (0, 2, a0_, .ref q1_)]) rfl (fun fr_575 H locs hp hMr_575 g => ?_)
                                            obtain ⟨x_576, h_577, hF_578⟩ := hp
                                            have hG_579 := dOK.frame hMr_575 go_.2.2.2.1 mq1_ kq1_ (by decide) (by decide) hG_571
                                            have g := g.more hF_578
                                            refine lv_iload hx hb dX0_closeParts_220 (lv_at hl 0 rfl) ?_
                                            refine lv_bipush (v := 12) hx hb dX0_closeParts_222 (by decide) ?_
                                            refine lv_icmp_le (tgt := 245) hx hb dX0_closeParts_224 (by decide) (fun c_580 => ?_) (fun c_580 => ?_)
                                            · have fc_580 := le_f c_580
                                              have b_581 : bd (-2147483648) 12 y_574 := leL fc_580 (bdT y_574) kb_12 (by decide)
                                              obtain ⟨y_582, ey_582⟩ : ∃ z : Int32, z = v4_3 + 1 := ⟨_, rfl⟩
                                              refine lv_iinc (v := y_582) (lv' := [(3, .int y_582), (6, .int y_574), (2, .int 1), (5, .int 0), (4, .int x_428), (0, .ref a0_), (1, .int x1_)]) hx hb dX0_closeParts_245 hl (k := 4) rfl (by rw [ey_582]; rfl) (by decide) rfl (fun ls hl => ?_)
                                              have ty_582 := add_bd ey_582 b_419 kb_1 (by decide)
                                              have b_583 : bd 2 300 y_582 := add_rg ty_582 b_419 kb_1 (by decide)
                                              refine lv_goto (tgt := 4) hx hb dX0_closeParts_248 (by decide) ?_
                                              have hl9 := lv_sub hl [0, 1, 2, 3, 4, 5, 6] (by rfl : lv_pick [(3, .int y_582), (6, .int y_574), (2, .int 1), (5, .int 0), (4, .int x_428), (0, .ref a0_), (1, .int x1_)] [0, 1, 2, 3, 4, 5, 6] = [(3, .int y_582), (6, .int y_574), (2, .int 1), (5, .int 0), (4, .int x_428), (0, .ref a0_), (1, .int x1_)])
                                              have g9 := g.sub (fx' := [(8, 6, q0_, .int 1201), (8, 8, q0_, .int x_407), (0, 4, a0_, .ref a_404), (0, 12, a0_, .int 0), (0, 10, a0_, .int x_576), (7, 6, q1_, .int x_557), (7, 5, q1_, .ref g191_7_5_q1_), (7, 4, q1_, .ref g191_7_4_q1_), (0, 8, a0_, .int y_426), (0, 5, a0_, .ref g76_0_5_a0_), (0, 3, a0_, .ref g76_0_3_a0_), (0, 0, a0_, .ref q0_), (0, 2, a0_, .ref q1_)]) [4, 5, 6, 0, 1, 2, 7, 8, 3, 9, 10, 11, 12] rfl
                                              exact ih4  y_582 y_574 1 0 x_428 x_576 x_557 y_426 (bd_sub b_583 (by decide)) (bd_sub kb_1 (by decide)) (bd_sub kb_0 (by decide)) h_577 h_558 (bd_sub b_427 (by decide)) (by have h9_0 := b_427; unfold bd at h9_0; have h9_1 := b_554; unfold bd at h9_1; have h9_2 := b_581; unfold bd at h9_2; have h9_3 := b_583; unfold bd at h9_3; have h9_4 := bdT v4_4; unfold bd at h9_4; have h9_5 := bdT v4_6; unfold bd at h9_5; have h9_6 := bv4_2; unfold bd at h9_6; have h9_7 := bv4_3; unfold bd at h9_7; have h9_8 := bv4_5; unfold bd at h9_8; have h9_9 := bw4_0_10_a0_; unfold bd at h9_9; have h9_10 := bw4_0_8_a0_; unfold bd at h9_10; have h9_11 := bw4_7_6_q1_; unfold bd at h9_11; have h9_12 := h_558; unfold bd at h9_12; have h9_13 := h_577; unfold bd at h9_13; have h9_14 := kb_0; unfold bd at h9_14; have h9_15 := kb_1; unfold bd at h9_15; have h9_16 := kb_12; unfold bd at h9_16; have h9_17 := kb_205; unfold bd at h9_17; have h9_18 := kb_206; unfold bd at h9_18; have h9_19 := kb_300; unfold bd at h9_19; have h9_20 := kb_6; unfold bd at h9_20; have h9_21 := kb_7; unfold bd at h9_21; omega) _ _ _ _ g9 hG_579 hl9
                                            · have fc_580 := nle_f c_580
                                              have b_584 : bd 13 2147483647 y_574 := ltR fc_580 kb_12 (bdT y_574) (by decide)
                                              refine lv_aload_n hx hb dX0_closeParts_227 rfl (lv_at hl 5 rfl) ?_
                                              refine g_getk (C := RX0) (T := TX0) (N := 14) hx hb hts (mc_ inX0) hown hK g rfl 0 (by decide) rfl (hts _ (List.mem_cons_of_mem _ t_373)) (fun _ h9 => h9) 11 rfl dX0_closeParts_228 ?_
                                              refine lv_bipush (v := 7) hx hb dX0_closeParts_231 (by decide) ?_
                                              refine lv_aload_n hx hb dX0_closeParts_233 rfl (lv_at hl 5 rfl) ?_
                                              refine g_getk (C := RX0) (T := TX0) (N := 14) hx hb hts (mc_ inX0) hown hK g rfl 4 (by decide) rfl (hts _ (List.mem_cons_of_mem _ t_377)) (fun _ h9 => h9) 6 rfl dX0_closeParts_234 ?_
                                              refine lv_aload_n hx hb dX0_closeParts_237 rfl (lv_at hl 5 rfl) ?_
                                              refine g_getk (C := RX0) (T := TX0) (N := 14) hx hb hts (mc_ inX0) hown hK g rfl 8 (by decide) rfl (hts _ (List.mem_cons_of_mem _ t_381)) (fun _ h9 => h9) 3 rfl dX0_closeParts_238 ?_
                                              refine g_iald hx hb hK g ma_404 ka_404 (by decide) rfl (in_bd b_427 (by decide)) dX0_closeParts_241 (fun x_585 bx_585 cx_585 => ?_)
                                              have go_ := g
                                              refine g_callv (va_runV (As := [.int 7, .int x_585]) (rest := []) ⟨hx, hb, hml, hown, hts⟩ (r_X8_fail_2 l dC dI L kd tys fr_575 H.size g.2.2.2.1 q0_ mq0_ kq0_ 7 (bd_sub kb_7 (by decide)) x_585 x_407 h_408 (g.fcts [5] rfl)) (cwV 2 hts (gV_ t_1215 t_1107 t_1108 t_184 t_1109) rfl rfl rfl (by decide +kernel) ⟨(Nat.le_of_ble_eq_true rfl), (Nat.le_of_ble_eq_true rfl)⟩) (pre3V g hK mq0_ kq0_ (by decide) (q := (RX8, TX8, 10)) rfl) rfl rfl hl.1 rfl (lv_room (Nat.le_of_ble_eq_true rfl)) dX0_closeParts_242 ⟨(Nat.le_of_ble_eq_true rfl), (Nat.le_of_ble_eq_true rfl)⟩) g hK (by decide) (by decide) (fx' := [(0, 12, a0_, .int 0), (0, 10, a0_, .int x_576), (7, 6, q1_, .int x_557), (0, 8, a0_, .int y_426), (8, 8, q0_, .int x_407), (0, 4, a0_, .ref a_404), (7, 5, q1_, .ref g191_7_5_q1_), (7, 4, q1_, .ref g191_7_4_q1_), (0, 5, a0_, .ref g76_0_5_a0_), (0, 3, a0_, .ref g76_0_3_a0_), (0, 0, a0_, .ref q0_), (0, 2, a0_, .ref q1_)]) rfl (fun fr_586 H locs hp hMr_586 g => ?_)
                                              have hF_587 := hp
                                              have hG_588 := dOK.frame hMr_586 go_.2.2.2.1 mq1_ kq1_ (by decide) (by decide) hG_579
                                              have g := g.more hF_587
                                              obtain ⟨y_589, ey_589⟩ : ∃ z : Int32, z = v4_3 + 1 := ⟨_, rfl⟩
                                              refine lv_iinc (v := y_589) (lv' := [(3, .int y_589), (6, .int y_574), (2, .int 1), (5, .int 0), (4, .int x_428), (0, .ref a0_), (1, .int x1_)]) hx hb dX0_closeParts_245 hl (k := 4) rfl (by rw [ey_589]; rfl) (by decide) rfl (fun ls hl => ?_)
                                              have ty_589 := add_bd ey_589 b_419 kb_1 (by decide)
                                              have b_590 : bd 2 300 y_589 := add_rg ty_589 b_419 kb_1 (by decide)
                                              refine lv_goto (tgt := 4) hx hb dX0_closeParts_248 (by decide) ?_
                                              have hl9 := lv_sub hl [0, 1, 2, 3, 4, 5, 6] (by rfl : lv_pick [(3, .int y_589), (6, .int y_574), (2, .int 1), (5, .int 0), (4, .int x_428), (0, .ref a0_), (1, .int x1_)] [0, 1, 2, 3, 4, 5, 6] = [(3, .int y_589), (6, .int y_574), (2, .int 1), (5, .int 0), (4, .int x_428), (0, .ref a0_), (1, .int x1_)])
                                              have g9 := g.sub (fx' := [(8, 6, q0_, .int 1201), (8, 8, q0_, .int x_407), (0, 4, a0_, .ref a_404), (0, 12, a0_, .int 0), (0, 10, a0_, .int x_576), (7, 6, q1_, .int x_557), (7, 5, q1_, .ref g191_7_5_q1_), (7, 4, q1_, .ref g191_7_4_q1_), (0, 8, a0_, .int y_426), (0, 5, a0_, .ref g76_0_5_a0_), (0, 3, a0_, .ref g76_0_3_a0_), (0, 0, a0_, .ref q0_), (0, 2, a0_, .ref q1_)]) [0, 5, 6, 1, 2, 3, 7, 8, 4, 9, 10, 11, 12] rfl
                                              exact ih4  y_589 y_574 1 0 x_428 x_576 x_557 y_426 (bd_sub b_590 (by decide)) (bd_sub kb_1 (by decide)) (bd_sub kb_0 (by decide)) h_577 h_558 (bd_sub b_427 (by decide)) (by have h9_0 := b_427; unfold bd at h9_0; have h9_1 := b_554; unfold bd at h9_1; have h9_2 := b_584; unfold bd at h9_2; have h9_3 := b_590; unfold bd at h9_3; have h9_4 := bdT v4_4; unfold bd at h9_4; have h9_5 := bdT v4_6; unfold bd at h9_5; have h9_6 := bv4_2; unfold bd at h9_6; have h9_7 := bv4_3; unfold bd at h9_7; have h9_8 := bv4_5; unfold bd at h9_8; have h9_9 := bw4_0_10_a0_; unfold bd at h9_9; have h9_10 := bw4_0_8_a0_; unfold bd at h9_10; have h9_11 := bw4_7_6_q1_; unfold bd at h9_11; have h9_12 := h_558; unfold bd at h9_12; have h9_13 := h_577; unfold bd at h9_13; have h9_14 := kb_0; unfold bd at h9_14; have h9_15 := kb_1; unfold bd at h9_15; have h9_16 := kb_12; unfold bd at h9_16; have h9_17 := kb_205; unfold bd at h9_17; have h9_18 := kb_206; unfold bd at h9_18; have h9_19 := kb_300; unfold bd at h9_19; have h9_20 := kb_6; unfold bd at h9_20; have h9_21 := kb_7; unfold bd at h9_21; omega) _ _ _ _ g9 hG_588 hl9
                                    · have hG_591 := dOK.frame hMr_468 go_.2.2.2.1 mq1_ kq1_ (by decide) (by decide) hG4_d_q1_
                                      have b_592 : bd 37 206 x_428 := eqX rfl (bdT x_428) h_471 (by decide)
                                      refine lv_iload_n hx hb dX0_closeParts_66 rfl (lv_at hl 6 rfl) ?_
                                      refine lv_icmp_lt (tgt := 74) hx hb dX0_closeParts_67 (by decide) (fun c_593 => ?_) (fun c_593 => ?_)
                                      · have fc_593 := lt_f c_593
                                        have b_594 : bd 2 2147483647 x1_ := ltR fc_593 h_470 (bdT x1_) (by decide)
                                        refine lv_iconst (v := 0) hx hb dX0_closeParts_74 (by decide) ?_
                                        refine lv_istore_n (lv' := [(2, .int 0), (5, .int 0), (4, .int x_428), (3, .int v4_3), (6, .int v4_6), (0, .ref a0_), (1, .int x1_)]) hx hb dX0_closeParts_75 rfl hl (by decide) rfl (fun ls hl => ?_)
                                        refine lv_iload_n hx hb dX0_closeParts_76 rfl (lv_at hl 0 rfl) ?_
                                        refine lv_if_eq (tgt := 245) hx hb dX0_closeParts_77 (by decide) (fun c_ => ?_) (fun c_ => absurd (by decide) c_)
                                        obtain ⟨y_595, ey_595⟩ : ∃ z : Int32, z = v4_3 + 1 := ⟨_, rfl⟩
                                        refine lv_iinc (v := y_595) (lv' := [(3, .int y_595), (2, .int 0), (5, .int 0), (4, .int x_428), (6, .int v4_6), (0, .ref a0_), (1, .int x1_)]) hx hb dX0_closeParts_245 hl (k := 3) rfl (by rw [ey_595]; rfl) (by decide) rfl (fun ls hl => ?_)
                                        have ty_595 := add_bd ey_595 b_419 kb_1 (by decide)
                                        have b_596 : bd 2 300 y_595 := add_rg ty_595 b_419 kb_1 (by decide)
                                        refine lv_goto (tgt := 4) hx hb dX0_closeParts_248 (by decide) ?_
                                        have hl9 := lv_sub hl [0, 4, 1, 2, 3, 5, 6] (by rfl : lv_pick [(3, .int y_595), (2, .int 0), (5, .int 0), (4, .int x_428), (6, .int v4_6), (0, .ref a0_), (1, .int x1_)] [0, 4, 1, 2, 3, 5, 6] = [(3, .int y_595), (6, .int v4_6), (2, .int 0), (5, .int 0), (4, .int x_428), (0, .ref a0_), (1, .int x1_)])
                                        have g9 := g.sub (fx' := [(8, 6, q0_, .int 1201), (8, 8, q0_, .int x_407), (0, 4, a0_, .ref a_404), (0, 12, a0_, .int 0), (0, 10, a0_, .int w4_0_10_a0_), (7, 6, q1_, .int w4_7_6_q1_), (7, 5, q1_, .ref g191_7_5_q1_), (7, 4, q1_, .ref g191_7_4_q1_), (0, 8, a0_, .int w4_0_8_a0_), (0, 5, a0_, .ref g76_0_5_a0_), (0, 3, a0_, .ref g76_0_3_a0_), (0, 0, a0_, .ref q0_), (0, 2, a0_, .ref q1_)]) [0, 1, 2, 3, 4, 5, 6, 7, 8, 9, 10, 11, 12] rfl
                                        exact ih4  y_595 v4_6 0 0 x_428 w4_0_10_a0_ w4_7_6_q1_ w4_0_8_a0_ (bd_sub b_596 (by decide)) (bd_sub kb_0 (by decide)) (bd_sub kb_0 (by decide)) bw4_0_10_a0_ bw4_7_6_q1_ (bd_sub b_425 (by decide)) (by have h9_0 := b_425; unfold bd at h9_0; have h9_1 := b_592; unfold bd at h9_1; have h9_2 := b_596; unfold bd at h9_2; have h9_3 := bdT v4_4; unfold bd at h9_3; have h9_4 := bdT v4_6; unfold bd at h9_4; have h9_5 := bv4_2; unfold bd at h9_5; have h9_6 := bv4_3; unfold bd at h9_6; have h9_7 := bv4_5; unfold bd at h9_7; have h9_8 := bw4_0_10_a0_; unfold bd at h9_8; have h9_9 := bw4_0_8_a0_; unfold bd at h9_9; have h9_10 := bw4_7_6_q1_; unfold bd at h9_10; have h9_11 := kb_0; unfold bd at h9_11; have h9_12 := kb_1; unfold bd at h9_12; have h9_13 := kb_12; unfold bd at h9_13; have h9_14 := kb_300; unfold bd at h9_14; have h9_15 := kb_6; unfold bd at h9_15; have h9_16 := kb_7; unfold bd at h9_16; omega) _ _ _ _ g9 hG_591 hl9
                                      · have fc_593 := nlt_f c_593
                                        have b_597 : bd (-2147483648) 5 x1_ := leL fc_593 (bdT x1_) h_470 (by decide)
                                        refine lv_iconst (v := 1) hx hb dX0_closeParts_70 (by decide) ?_
                                        refine lv_goto (tgt := 75) hx hb dX0_closeParts_71 (by decide) ?_
                                        refine lv_istore_n (lv' := [(2, .int 1), (5, .int 0), (4, .int x_428), (3, .int v4_3), (6, .int v4_6), (0, .ref a0_), (1, .int x1_)]) hx hb dX0_closeParts_75 rfl hl (by decide) rfl (fun ls hl => ?_)
                                        refine lv_iload_n hx hb dX0_closeParts_76 rfl (lv_at hl 0 rfl) ?_
                                        refine lv_if_eq (tgt := 245) hx hb dX0_closeParts_77 (by decide) (fun c_ => absurd c_ (by decide)) (fun c_ => ?_)
                                        refine lv_aload_n hx hb dX0_closeParts_80 rfl (lv_at hl 5 rfl) ?_
                                        refine lv_dup hx hb dX0_closeParts_81 rfl ?_
                                        refine g_getk (C := RX0) (T := TX0) (N := 14) hx hb hts (mc_ inX0) hown hK g rfl 8 (by decide) rfl (hts _ (List.mem_cons_of_mem _ t_381)) (fun _ h9 => h9) 8 rfl dX0_closeParts_82 ?_
                                        refine lv_iconst (v := 1) hx hb dX0_closeParts_85 (by decide) ?_
                                        refine lv_isub hx hb dX0_closeParts_86 ?_
                                        refine lv_topi (fun y_598 ey_598 => ?_)
                                        obtain rfl : y_426 = y_598 := ey_426.trans ey_598.symm
                                        have go_ := g
                                        refine g_put (C := RX0) (T := TX0) (N := 14) hx hb hts (mc_ inX0) tyX0 tyX0_ok nmX0 hown hK g ma0_ ka0_ (by decide) rfl 8 (by decide) (hts _ (List.mem_cons_of_mem _ t_381)) (fun _ h9 => h9) rfl rfl (okV_i (bd_sub b_427 (by decide))) rfl rfl (by decide) (Or.inr (Or.inl (by decide))) (fx' := [(8, 6, q0_, .int 1201), (8, 8, q0_, .int x_407), (0, 4, a0_, .ref a_404), (0, 12, a0_, .int 0), (0, 10, a0_, .int w4_0_10_a0_), (7, 6, q1_, .int w4_7_6_q1_), (7, 5, q1_, .ref g191_7_5_q1_), (7, 4, q1_, .ref g191_7_4_q1_), (0, 5, a0_, .ref g76_0_5_a0_), (0, 3, a0_, .ref g76_0_3_a0_), (0, 0, a0_, .ref q0_), (0, 2, a0_, .ref q1_)]) rfl dX0_closeParts_87 (fun f H locs hM_599 g => ?_)
                                        have hG_600 := dOK.frame hM_599 go_.2.2.2.1 mq1_ kq1_ (by decide) (by decide) hG_591
                                        refine lv_aload_n hx hb dX0_closeParts_90 rfl (lv_at hl 5 rfl) ?_
                                        have go_ := g
                                        refine g_calli (va_runV (As := []) (rest := []) ⟨hx, hb, hml, hown, hts⟩ (r_X0_takeHeight l dC dI L kd tys f H.size g.2.2.2.1 a0_ ma0_ ka0_) (cwV 0 hts (gV_ t_1199 t_1201 t_16 t_190 t_1202) rfl rfl rfl (by decide +kernel) ⟨(Nat.le_of_ble_eq_true rfl), (Nat.le_of_ble_eq_true rfl)⟩) (pre3V g hK ma0_ ka0_ (by decide) (q := (RX0, TX0, 14)) rfl) rfl rfl hl.1 rfl (lv_room (Nat.le_of_ble_eq_true rfl)) dX0_closeParts_91 ⟨(Nat.le_of_ble_eq_true rfl), (Nat.le_of_ble_eq_true rfl)⟩) g hK (by decide) (by decide) (fx' := [(0, 8, a0_, .int y_426), (8, 6, q0_, .int 1201), (8, 8, q0_, .int x_407), (0, 4, a0_, .ref a_404), (0, 12, a0_, .int 0), (7, 6, q1_, .int w4_7_6_q1_), (7, 5, q1_, .ref g191_7_5_q1_), (7, 4, q1_, .ref g191_7_4_q1_), (0, 5, a0_, .ref g76_0_5_a0_), (0, 3, a0_, .ref g76_0_3_a0_), (0, 0, a0_, .ref q0_), (0, 2, a0_, .ref q1_)]) rfl (fun r_601 fr_601 H locs hp hMr_601 g => ?_)
                                        obtain ⟨x_602, h_603, hF_604⟩ := hp
                                        have hG_605 := dOK.frame hMr_601 go_.2.2.2.1 mq1_ kq1_ (by decide) (by decide) hG_600
                                        have g := g.more hF_604
                                        refine lv_istore (lv' := [(6, .int r_601), (2, .int 1), (5, .int 0), (4, .int x_428), (3, .int v4_3), (0, .ref a0_), (1, .int x1_)]) hx hb dX0_closeParts_94 hl (by decide) rfl (fun ls hl => ?_)
                                        refine lv_iload hx hb dX0_closeParts_96 (lv_at hl 2 rfl) ?_
                                        refine lv_if_eq (tgt := 136) hx hb dX0_closeParts_98 (by decide) (fun c_ => ?_) (fun c_ => absurd (by decide) c_)
                                        refine lv_iload hx hb dX0_closeParts_136 (lv_at hl 3 rfl) ?_
                                        refine lv_sipush (v := 205) hx hb dX0_closeParts_138 (by decide) ?_
                                        have kb_205 : bd 205 205 (205 : Int32) := ⟨by decide, by decide⟩
                                        refine lv_icmp_eq (tgt := 152) hx hb dX0_closeParts_141 (by decide) (fun c_606 => ?_) (fun c_606 => ?_)
                                        · have fc_606 := eq_f c_606
                                          have b_607 : bd 205 205 x_428 := eqX fc_606 b_592 kb_205 (by decide)
                                          refine lv_aload_n hx hb dX0_closeParts_152 rfl (lv_at hl 5 rfl) ?_
                                          refine g_getk (C := RX0) (T := TX0) (N := 14) hx hb hts (mc_ inX0) hown hK g rfl 2 (by decide) rfl (hts _ (List.mem_cons_of_mem _ t_375)) (fun _ h9 => h9) 12 rfl dX0_closeParts_153 ?_
                                          refine lv_bipush (v := 8) hx hb dX0_closeParts_156 (by decide) ?_
                                          refine lv_iconst (v := 0) hx hb dX0_closeParts_158 (by decide) ?_
                                          have go_ := g
                                          refine g_callv (va_runV (As := [.int 8, .int 0]) (rest := []) ⟨hx, hb, hml, hown, hts⟩ (r_X7_emitF l dC dI L kd tys fr_601 H.size g.2.2.2.1 q1_ mq1_ kq1_ g191_7_4_q1_ mg191_7_4_q1_ kg191_7_4_q1_ g191_7_5_q1_ mg191_7_5_q1_ kg191_7_5_q1_ w4_7_6_q1_ bw4_7_6_q1_ T_ hG_605 (8 : Int32) (0 : Int32) (g.fcts [8, 7, 6] rfl)) (cwV 2 hts (gV_ t_1203 t_1204 t_1205 t_191 t_1206) rfl rfl rfl (by decide +kernel) ⟨(Nat.le_of_ble_eq_true rfl), (Nat.le_of_ble_eq_true rfl)⟩) (pre3V g hK mq1_ kq1_ (by decide) (q := (RX7, TX7, 19)) rfl) rfl rfl hl.1 rfl (lv_room (Nat.le_of_ble_eq_true rfl)) dX0_closeParts_159 ⟨(Nat.le_of_ble_eq_true rfl), (Nat.le_of_ble_eq_true rfl)⟩) g hK (by decide) (by decide) (fx' := [(0, 10, a0_, .int x_602), (0, 8, a0_, .int y_426), (8, 6, q0_, .int 1201), (8, 8, q0_, .int x_407), (0, 4, a0_, .ref a_404), (0, 12, a0_, .int 0), (7, 5, q1_, .ref g191_7_5_q1_), (7, 4, q1_, .ref g191_7_4_q1_), (0, 5, a0_, .ref g76_0_5_a0_), (0, 3, a0_, .ref g76_0_3_a0_), (0, 0, a0_, .ref q0_), (0, 2, a0_, .ref q1_)]) rfl (fun fr_608 H locs hp hMr_608 g => ?_)
                                          obtain ⟨hG_609, x_610, h_611, hF_612⟩ := hp
                                          have g := g.more hF_612
                                          refine lv_aload_n hx hb dX0_closeParts_162 rfl (lv_at hl 5 rfl) ?_
                                          refine g_getk (C := RX0) (T := TX0) (N := 14) hx hb hts (mc_ inX0) hown hK g rfl 2 (by decide) rfl (hts _ (List.mem_cons_of_mem _ t_375)) (fun _ h9 => h9) 12 rfl dX0_closeParts_163 ?_
                                          refine lv_aload_n hx hb dX0_closeParts_166 rfl (lv_at hl 5 rfl) ?_
                                          refine g_getk (C := RX0) (T := TX0) (N := 14) hx hb hts (mc_ inX0) hown hK g rfl 5 (by decide) rfl (hts _ (List.mem_cons_of_mem _ t_378)) (fun _ h9 => h9) 9 rfl dX0_closeParts_167 ?_
                                          refine lv_aload_n hx hb dX0_closeParts_170 rfl (lv_at hl 5 rfl) ?_
                                          refine g_getk (C := RX0) (T := TX0) (N := 14) hx hb hts (mc_ inX0) hown hK g rfl 8 (by decide) rfl (hts _ (List.mem_cons_of_mem _ t_381)) (fun _ h9 => h9) 2 rfl dX0_closeParts_171 ?_
                                          refine g_iald hx hb hK g mg76_0_5_a0_ kg76_0_5_a0_ (by decide) rfl (in_bd b_427 (by decide)) dX0_closeParts_174 (fun x_613 bx_613 cx_613 => ?_)
                                          have go_ := g
                                          refine g_callv (va_runV (As := [.int x_613]) (rest := []) ⟨hx, hb, hml, hown, hts⟩ (r_X7_leadHereF l dC dI L kd tys fr_608 H.size g.2.2.2.1 q1_ mq1_ kq1_ g191_7_4_q1_ mg191_7_4_q1_ kg191_7_4_q1_ g191_7_5_q1_ mg191_7_5_q1_ kg191_7_5_q1_ x_610 h_611 T_ hG_609 x_613 (g.fcts [8, 7, 0] rfl)) (cwV 1 hts (gV_ t_1207 t_1208 t_1209 t_191 t_1210) rfl rfl rfl (by decide +kernel) ⟨(Nat.le_of_ble_eq_true rfl), (Nat.le_of_ble_eq_true rfl)⟩) (pre3V g hK mq1_ kq1_ (by decide) (q := (RX7, TX7, 19)) rfl) rfl rfl hl.1 rfl (lv_room (Nat.le_of_ble_eq_true rfl)) dX0_closeParts_175 ⟨(Nat.le_of_ble_eq_true rfl), (Nat.le_of_ble_eq_true rfl)⟩) g hK (by decide) (by decide) (fx' := [(7, 6, q1_, .int x_610), (0, 10, a0_, .int x_602), (0, 8, a0_, .int y_426), (8, 6, q0_, .int 1201), (8, 8, q0_, .int x_407), (0, 4, a0_, .ref a_404), (0, 12, a0_, .int 0), (7, 5, q1_, .ref g191_7_5_q1_), (7, 4, q1_, .ref g191_7_4_q1_), (0, 5, a0_, .ref g76_0_5_a0_), (0, 3, a0_, .ref g76_0_3_a0_), (0, 0, a0_, .ref q0_), (0, 2, a0_, .ref q1_)]) rfl (fun fr_614 H locs hp hMr_614 g => ?_)
                                          obtain ⟨hG_615, x_616, h_617, hF_618⟩ := hp
                                          have g := g.more hF_618
                                          have e_619 := fx_same g 1 0 rfl rfl
                                          have g := g.sub (fx' := [(7, 6, q1_, .int x_610), (0, 10, a0_, .int x_602), (0, 8, a0_, .int y_426), (8, 6, q0_, .int 1201), (8, 8, q0_, .int x_407), (0, 4, a0_, .ref a_404), (0, 12, a0_, .int 0), (7, 5, q1_, .ref g191_7_5_q1_), (7, 4, q1_, .ref g191_7_4_q1_), (0, 5, a0_, .ref g76_0_5_a0_), (0, 3, a0_, .ref g76_0_3_a0_), (0, 0, a0_, .ref q0_), (0, 2, a0_, .ref q1_)]) [1, 2, 3, 4, 5, 6, 7, 8, 9, 10, 11, 12, 13] rfl
                                          refine lv_goto (tgt := 191) hx hb dX0_closeParts_178 (by decide) ?_
                                          refine lv_iconst (v := 1) hx hb dX0_closeParts_191 (by decide) ?_
                                          refine lv_iload hx hb dX0_closeParts_192 (lv_at hl 2 rfl) ?_
                                          refine lv_if_eq (tgt := 202) hx hb dX0_closeParts_194 (by decide) (fun c_ => ?_) (fun c_ => absurd (by decide) c_)
                                          refine lv_iload hx hb dX0_closeParts_202 (lv_at hl 0 rfl) ?_
                                          refine lv_aload_n hx hb dX0_closeParts_204 rfl (lv_at hl 5 rfl) ?_
                                          have go_ := g
                                          refine g_calli (va_runV (As := []) (rest := [.int r_601, .int 1]) ⟨hx, hb, hml, hown, hts⟩ (r_X0_takeHeight l dC dI L kd tys fr_614 H.size g.2.2.2.1 a0_ ma0_ ka0_) (cwV 0 hts (gV_ t_1199 t_1201 t_16 t_190 t_1202) rfl rfl rfl (by decide +kernel) ⟨(Nat.le_of_ble_eq_true rfl), (Nat.le_of_ble_eq_true rfl)⟩) (pre3V g hK ma0_ ka0_ (by decide) (q := (RX0, TX0, 14)) rfl) rfl rfl hl.1 rfl (lv_room (Nat.le_of_ble_eq_true rfl)) dX0_closeParts_205 ⟨(Nat.le_of_ble_eq_true rfl), (Nat.le_of_ble_eq_true rfl)⟩) g hK (by decide) (by decide) (fx' := [(7, 6, q1_, .int x_610), (0, 8, a0_, .int y_426), (8, 6, q0_, .int 1201), (8, 8, q0_, .int x_407), (0, 4, a0_, .ref a_404), (0, 12, a0_, .int 0), (7, 5, q1_, .ref g191_7_5_q1_), (7, 4, q1_, .ref g191_7_4_q1_), (0, 5, a0_, .ref g76_0_5_a0_), (0, 3, a0_, .ref g76_0_3_a0_), (0, 0, a0_, .ref q0_), (0, 2, a0_, .ref q1_)]) rfl (fun r_620 fr_620 H locs hp hMr_620 g => ?_)
                                          obtain ⟨x_621, h_622, hF_623⟩ := hp
                                          have hG_624 := dOK.frame hMr_620 go_.2.2.2.1 mq1_ kq1_ (by decide) (by decide) hG_615
                                          have g := g.more hF_623
                                          refine va_mmax hx hb (hml.trans hl.1.symm) hown (hts _ (List.mem_cons_of_mem _ t_1194)) (hts _ (List.mem_cons_of_mem _ t_1041)) (hts _ (List.mem_cons_of_mem _ t_204)) (hts _ (List.mem_cons_of_mem _ t_1042)) (Nat.le_of_ble_eq_true rfl) (Nat.le_of_ble_eq_true rfl) (Nat.le_of_ble_eq_true rfl) (Nat.le_of_ble_eq_true rfl) dX0_closeParts_208 ?_
                                          refine lv_topi (fun y_625 ey_625 => ?_)
                                          have ty_625 : y_625.toInt = max r_601.toInt r_620.toInt := by rw [ey_625]; exact mmax_ok _ _
                                          have b_626 : bd (-2147483648) 2147483647 y_625 := max_rg ty_625 (bdT r_601) (bdT r_620) (by decide)
                                          refine lv_iadd hx hb dX0_closeParts_211 ?_
                                          refine lv_topi (fun y_627 ey_627 => ?_)
                                          refine lv_istore (lv' := [(6, .int y_627), (2, .int 1), (5, .int 0), (4, .int x_428), (3, .int v4_3), (0, .ref a0_), (1, .int x1_)]) hx hb dX0_closeParts_212 hl (by decide) rfl (fun ls hl => ?_)
                                          refine lv_aload_n hx hb dX0_closeParts_214 rfl (lv_at hl 5 rfl) ?_
                                          refine lv_iload hx hb dX0_closeParts_215 (lv_at hl 0 rfl) ?_
                                          have go_ := g
                                          refine g_callv (va_runV (As := [.int y_627]) (rest := []) ⟨hx, hb, hml, hown, hts⟩ (r_X0_addWhole l dC dI L kd tys fr_620 H.size g.2.2.2.1 a0_ ma0_ ka0_ y_627) (cwV 1 hts (gV_ t_1211 t_1213 t_17 t_190 t_1214) rfl rfl rfl (by decide +kernel) ⟨(Nat.le_of_ble_eq_true rfl), (Nat.le_of_ble_eq_true rfl)⟩) (pre3V g hK ma0_ ka0_ (by decide) (q := (RX0, TX0, 14)) rfl) rfl rfl hl.1 rfl (lv_room (Nat.le_of_ble_eq_true rfl)) dX0_closeParts_217 ⟨(Nat.le_of_ble_eq_true rfl), (Nat.le_of_ble_eq_true rfl)⟩) g hK (by decide) (by decide) (fx' := [(7, 6, q1_, .int x_610), (0, 8, a0_, .int y_426), (8, 6, q0_, .int 1201), (8, 8, q0_, .int x_407), (0, 4, a0_, .ref a_404), (7, 5, q1_, .ref g191_7_5_q1_), (7, 4, q1_, .ref g191_7_4_q1_), (0, 5, a0_, .ref g76_0_5_a0_), (0, 3, a0_, .ref g76_0_3_a0_), (0, 0, a0_, .ref q0_), (0, 2, a0_, .ref q1_)]) rfl (fun fr_628 H locs hp hMr_628 g => ?_)
                                          obtain ⟨x_629, h_630, hF_631⟩ := hp
                                          have hG_632 := dOK.frame hMr_628 go_.2.2.2.1 mq1_ kq1_ (by decide) (by decide) hG_624
                                          have g := g.more hF_631
                                          refine lv_iload hx hb dX0_closeParts_220 (lv_at hl 0 rfl) ?_
                                          refine lv_bipush (v := 12) hx hb dX0_closeParts_222 (by decide) ?_
                                          refine lv_icmp_le (tgt := 245) hx hb dX0_closeParts_224 (by decide) (fun c_633 => ?_) (fun c_633 => ?_)
                                          · have fc_633 := le_f c_633
                                            have b_634 : bd (-2147483648) 12 y_627 := leL fc_633 (bdT y_627) kb_12 (by decide)
                                            obtain ⟨y_635, ey_635⟩ : ∃ z : Int32, z = v4_3 + 1 := ⟨_, rfl⟩
                                            refine lv_iinc (v := y_635) (lv' := [(3, .int y_635), (6, .int y_627), (2, .int 1), (5, .int 0), (4, .int x_428), (0, .ref a0_), (1, .int x1_)]) hx hb dX0_closeParts_245 hl (k := 4) rfl (by rw [ey_635]; rfl) (by decide) rfl (fun ls hl => ?_)
                                            have ty_635 := add_bd ey_635 b_419 kb_1 (by decide)
                                            have b_636 : bd 2 300 y_635 := add_rg ty_635 b_419 kb_1 (by decide)
                                            refine lv_goto (tgt := 4) hx hb dX0_closeParts_248 (by decide) ?_
                                            have hl9 := lv_sub hl [0, 1, 2, 3, 4, 5, 6] (by rfl : lv_pick [(3, .int y_635), (6, .int y_627), (2, .int 1), (5, .int 0), (4, .int x_428), (0, .ref a0_), (1, .int x1_)] [0, 1, 2, 3, 4, 5, 6] = [(3, .int y_635), (6, .int y_627), (2, .int 1), (5, .int 0), (4, .int x_428), (0, .ref a0_), (1, .int x1_)])
                                            have g9 := g.sub (fx' := [(8, 6, q0_, .int 1201), (8, 8, q0_, .int x_407), (0, 4, a0_, .ref a_404), (0, 12, a0_, .int 0), (0, 10, a0_, .int x_629), (7, 6, q1_, .int x_610), (7, 5, q1_, .ref g191_7_5_q1_), (7, 4, q1_, .ref g191_7_4_q1_), (0, 8, a0_, .int y_426), (0, 5, a0_, .ref g76_0_5_a0_), (0, 3, a0_, .ref g76_0_3_a0_), (0, 0, a0_, .ref q0_), (0, 2, a0_, .ref q1_)]) [4, 5, 6, 0, 1, 2, 7, 8, 3, 9, 10, 11, 12] rfl
                                            exact ih4  y_635 y_627 1 0 x_428 x_629 x_610 y_426 (bd_sub b_636 (by decide)) (bd_sub kb_1 (by decide)) (bd_sub kb_0 (by decide)) h_630 h_611 (bd_sub b_427 (by decide)) (by have h9_0 := b_427; unfold bd at h9_0; have h9_1 := b_607; unfold bd at h9_1; have h9_2 := b_634; unfold bd at h9_2; have h9_3 := b_636; unfold bd at h9_3; have h9_4 := bdT v4_4; unfold bd at h9_4; have h9_5 := bdT v4_6; unfold bd at h9_5; have h9_6 := bv4_2; unfold bd at h9_6; have h9_7 := bv4_3; unfold bd at h9_7; have h9_8 := bv4_5; unfold bd at h9_8; have h9_9 := bw4_0_10_a0_; unfold bd at h9_9; have h9_10 := bw4_0_8_a0_; unfold bd at h9_10; have h9_11 := bw4_7_6_q1_; unfold bd at h9_11; have h9_12 := h_611; unfold bd at h9_12; have h9_13 := h_630; unfold bd at h9_13; have h9_14 := kb_0; unfold bd at h9_14; have h9_15 := kb_1; unfold bd at h9_15; have h9_16 := kb_12; unfold bd at h9_16; have h9_17 := kb_205; unfold bd at h9_17; have h9_18 := kb_300; unfold bd at h9_18; have h9_19 := kb_6; unfold bd at h9_19; have h9_20 := kb_7; unfold bd at h9_20; omega) _ _ _ _ g9 hG_632 hl9
                                          · have fc_633 := nle_f c_633
                                            have b_637 : bd 13 2147483647 y_627 := ltR fc_633 kb_12 (bdT y_627) (by decide)
                                            refine lv_aload_n hx hb dX0_closeParts_227 rfl (lv_at hl 5 rfl) ?_
                                            refine g_getk (C := RX0) (T := TX0) (N := 14) hx hb hts (mc_ inX0) hown hK g rfl 0 (by decide) rfl (hts _ (List.mem_cons_of_mem _ t_373)) (fun _ h9 => h9) 11 rfl dX0_closeParts_228 ?_
                                            refine lv_bipush (v := 7) hx hb dX0_closeParts_231 (by decide) ?_
                                            refine lv_aload_n hx hb dX0_closeParts_233 rfl (lv_at hl 5 rfl) ?_
                                            refine g_getk (C := RX0) (T := TX0) (N := 14) hx hb hts (mc_ inX0) hown hK g rfl 4 (by decide) rfl (hts _ (List.mem_cons_of_mem _ t_377)) (fun _ h9 => h9) 6 rfl dX0_closeParts_234 ?_
                                            refine lv_aload_n hx hb dX0_closeParts_237 rfl (lv_at hl 5 rfl) ?_
                                            refine g_getk (C := RX0) (T := TX0) (N := 14) hx hb hts (mc_ inX0) hown hK g rfl 8 (by decide) rfl (hts _ (List.mem_cons_of_mem _ t_381)) (fun _ h9 => h9) 3 rfl dX0_closeParts_238 ?_
                                            refine g_iald hx hb hK g ma_404 ka_404 (by decide) rfl (in_bd b_427 (by decide)) dX0_closeParts_241 (fun x_638 bx_638 cx_638 => ?_)
                                            have go_ := g
                                            refine g_callv (va_runV (As := [.int 7, .int x_638]) (rest := []) ⟨hx, hb, hml, hown, hts⟩ (r_X8_fail_2 l dC dI L kd tys fr_628 H.size g.2.2.2.1 q0_ mq0_ kq0_ 7 (bd_sub kb_7 (by decide)) x_638 x_407 h_408 (g.fcts [5] rfl)) (cwV 2 hts (gV_ t_1215 t_1107 t_1108 t_184 t_1109) rfl rfl rfl (by decide +kernel) ⟨(Nat.le_of_ble_eq_true rfl), (Nat.le_of_ble_eq_true rfl)⟩) (pre3V g hK mq0_ kq0_ (by decide) (q := (RX8, TX8, 10)) rfl) rfl rfl hl.1 rfl (lv_room (Nat.le_of_ble_eq_true rfl)) dX0_closeParts_242 ⟨(Nat.le_of_ble_eq_true rfl), (Nat.le_of_ble_eq_true rfl)⟩) g hK (by decide) (by decide) (fx' := [(0, 12, a0_, .int 0), (0, 10, a0_, .int x_629), (7, 6, q1_, .int x_610), (0, 8, a0_, .int y_426), (8, 8, q0_, .int x_407), (0, 4, a0_, .ref a_404), (7, 5, q1_, .ref g191_7_5_q1_), (7, 4, q1_, .ref g191_7_4_q1_), (0, 5, a0_, .ref g76_0_5_a0_), (0, 3, a0_, .ref g76_0_3_a0_), (0, 0, a0_, .ref q0_), (0, 2, a0_, .ref q1_)]) rfl (fun fr_639 H locs hp hMr_639 g => ?_)
                                            have hF_640 := hp
                                            have hG_641 := dOK.frame hMr_639 go_.2.2.2.1 mq1_ kq1_ (by decide) (by decide) hG_632
                                            have g := g.more hF_640
                                            obtain ⟨y_642, ey_642⟩ : ∃ z : Int32, z = v4_3 + 1 := ⟨_, rfl⟩
                                            refine lv_iinc (v := y_642) (lv' := [(3, .int y_642), (6, .int y_627), (2, .int 1), (5, .int 0), (4, .int x_428), (0, .ref a0_), (1, .int x1_)]) hx hb dX0_closeParts_245 hl (k := 4) rfl (by rw [ey_642]; rfl) (by decide) rfl (fun ls hl => ?_)
                                            have ty_642 := add_bd ey_642 b_419 kb_1 (by decide)
                                            have b_643 : bd 2 300 y_642 := add_rg ty_642 b_419 kb_1 (by decide)
                                            refine lv_goto (tgt := 4) hx hb dX0_closeParts_248 (by decide) ?_
                                            have hl9 := lv_sub hl [0, 1, 2, 3, 4, 5, 6] (by rfl : lv_pick [(3, .int y_642), (6, .int y_627), (2, .int 1), (5, .int 0), (4, .int x_428), (0, .ref a0_), (1, .int x1_)] [0, 1, 2, 3, 4, 5, 6] = [(3, .int y_642), (6, .int y_627), (2, .int 1), (5, .int 0), (4, .int x_428), (0, .ref a0_), (1, .int x1_)])
                                            have g9 := g.sub (fx' := [(8, 6, q0_, .int 1201), (8, 8, q0_, .int x_407), (0, 4, a0_, .ref a_404), (0, 12, a0_, .int 0), (0, 10, a0_, .int x_629), (7, 6, q1_, .int x_610), (7, 5, q1_, .ref g191_7_5_q1_), (7, 4, q1_, .ref g191_7_4_q1_), (0, 8, a0_, .int y_426), (0, 5, a0_, .ref g76_0_5_a0_), (0, 3, a0_, .ref g76_0_3_a0_), (0, 0, a0_, .ref q0_), (0, 2, a0_, .ref q1_)]) [0, 5, 6, 1, 2, 3, 7, 8, 4, 9, 10, 11, 12] rfl
                                            exact ih4  y_642 y_627 1 0 x_428 x_629 x_610 y_426 (bd_sub b_643 (by decide)) (bd_sub kb_1 (by decide)) (bd_sub kb_0 (by decide)) h_630 h_611 (bd_sub b_427 (by decide)) (by have h9_0 := b_427; unfold bd at h9_0; have h9_1 := b_607; unfold bd at h9_1; have h9_2 := b_637; unfold bd at h9_2; have h9_3 := b_643; unfold bd at h9_3; have h9_4 := bdT v4_4; unfold bd at h9_4; have h9_5 := bdT v4_6; unfold bd at h9_5; have h9_6 := bv4_2; unfold bd at h9_6; have h9_7 := bv4_3; unfold bd at h9_7; have h9_8 := bv4_5; unfold bd at h9_8; have h9_9 := bw4_0_10_a0_; unfold bd at h9_9; have h9_10 := bw4_0_8_a0_; unfold bd at h9_10; have h9_11 := bw4_7_6_q1_; unfold bd at h9_11; have h9_12 := h_611; unfold bd at h9_12; have h9_13 := h_630; unfold bd at h9_13; have h9_14 := kb_0; unfold bd at h9_14; have h9_15 := kb_1; unfold bd at h9_15; have h9_16 := kb_12; unfold bd at h9_16; have h9_17 := kb_205; unfold bd at h9_17; have h9_18 := kb_300; unfold bd at h9_18; have h9_19 := kb_6; unfold bd at h9_19; have h9_20 := kb_7; unfold bd at h9_20; omega) _ _ _ _ g9 hG_641 hl9
                                        · have fc_606 := neq_f c_606
                                          refine lv_iload hx hb dX0_closeParts_144 (lv_at hl 3 rfl) ?_
                                          refine lv_sipush (v := 206) hx hb dX0_closeParts_146 (by decide) ?_
                                          have kb_206 : bd 206 206 (206 : Int32) := ⟨by decide, by decide⟩
                                          refine lv_icmp_ne (tgt := 181) hx hb dX0_closeParts_149 (by decide) (fun c_644 => ?_) (fun c_644 => ?_)
                                          · have fc_644 := neq_f c_644
                                            have b_645 : bd 37 205 x_428 := neX fc_644 b_592 kb_206 (by decide)
                                            refine lv_aload_n hx hb dX0_closeParts_181 rfl (lv_at hl 5 rfl) ?_
                                            refine g_getk (C := RX0) (T := TX0) (N := 14) hx hb hts (mc_ inX0) hown hK g rfl 2 (by decide) rfl (hts _ (List.mem_cons_of_mem _ t_375)) (fun _ h9 => h9) 12 rfl dX0_closeParts_182 ?_
                                            refine lv_iload hx hb dX0_closeParts_185 (lv_at hl 3 rfl) ?_
                                            refine lv_iconst (v := 0) hx hb dX0_closeParts_187 (by decide) ?_
                                            have go_ := g
                                            refine g_callv (va_runV (As := [.int x_428, .int 0]) (rest := []) ⟨hx, hb, hml, hown, hts⟩ (r_X7_emitF l dC dI L kd tys fr_601 H.size g.2.2.2.1 q1_ mq1_ kq1_ g191_7_4_q1_ mg191_7_4_q1_ kg191_7_4_q1_ g191_7_5_q1_ mg191_7_5_q1_ kg191_7_5_q1_ w4_7_6_q1_ bw4_7_6_q1_ T_ hG_605 x_428 (0 : Int32) (g.fcts [8, 7, 6] rfl)) (cwV 2 hts (gV_ t_1203 t_1204 t_1205 t_191 t_1206) rfl rfl rfl (by decide +kernel) ⟨(Nat.le_of_ble_eq_true rfl), (Nat.le_of_ble_eq_true rfl)⟩) (pre3V g hK mq1_ kq1_ (by decide) (q := (RX7, TX7, 19)) rfl) rfl rfl hl.1 rfl (lv_room (Nat.le_of_ble_eq_true rfl)) dX0_closeParts_188 ⟨(Nat.le_of_ble_eq_true rfl), (Nat.le_of_ble_eq_true rfl)⟩) g hK (by decide) (by decide) (fx' := [(0, 10, a0_, .int x_602), (0, 8, a0_, .int y_426), (8, 6, q0_, .int 1201), (8, 8, q0_, .int x_407), (0, 4, a0_, .ref a_404), (0, 12, a0_, .int 0), (7, 5, q1_, .ref g191_7_5_q1_), (7, 4, q1_, .ref g191_7_4_q1_), (0, 5, a0_, .ref g76_0_5_a0_), (0, 3, a0_, .ref g76_0_3_a0_), (0, 0, a0_, .ref q0_), (0, 2, a0_, .ref q1_)]) rfl (fun fr_646 H locs hp hMr_646 g => ?_)
                                            obtain ⟨hG_647, x_648, h_649, hF_650⟩ := hp
                                            have g := g.more hF_650
                                            refine lv_iconst (v := 1) hx hb dX0_closeParts_191 (by decide) ?_
                                            refine lv_iload hx hb dX0_closeParts_192 (lv_at hl 2 rfl) ?_
                                            refine lv_if_eq (tgt := 202) hx hb dX0_closeParts_194 (by decide) (fun c_ => ?_) (fun c_ => absurd (by decide) c_)
                                            refine lv_iload hx hb dX0_closeParts_202 (lv_at hl 0 rfl) ?_
                                            refine lv_aload_n hx hb dX0_closeParts_204 rfl (lv_at hl 5 rfl) ?_
                                            have go_ := g
                                            refine g_calli (va_runV (As := []) (rest := [.int r_601, .int 1]) ⟨hx, hb, hml, hown, hts⟩ (r_X0_takeHeight l dC dI L kd tys fr_646 H.size g.2.2.2.1 a0_ ma0_ ka0_) (cwV 0 hts (gV_ t_1199 t_1201 t_16 t_190 t_1202) rfl rfl rfl (by decide +kernel) ⟨(Nat.le_of_ble_eq_true rfl), (Nat.le_of_ble_eq_true rfl)⟩) (pre3V g hK ma0_ ka0_ (by decide) (q := (RX0, TX0, 14)) rfl) rfl rfl hl.1 rfl (lv_room (Nat.le_of_ble_eq_true rfl)) dX0_closeParts_205 ⟨(Nat.le_of_ble_eq_true rfl), (Nat.le_of_ble_eq_true rfl)⟩) g hK (by decide) (by decide) (fx' := [(7, 6, q1_, .int x_648), (0, 8, a0_, .int y_426), (8, 6, q0_, .int 1201), (8, 8, q0_, .int x_407), (0, 4, a0_, .ref a_404), (0, 12, a0_, .int 0), (7, 5, q1_, .ref g191_7_5_q1_), (7, 4, q1_, .ref g191_7_4_q1_), (0, 5, a0_, .ref g76_0_5_a0_), (0, 3, a0_, .ref g76_0_3_a0_), (0, 0, a0_, .ref q0_), (0, 2, a0_, .ref q1_)]) rfl (fun r_651 fr_651 H locs hp hMr_651 g => ?_)
                                            obtain ⟨x_652, h_653, hF_654⟩ := hp
                                            have hG_655 := dOK.frame hMr_651 go_.2.2.2.1 mq1_ kq1_ (by decide) (by decide) hG_647
                                            have g := g.more hF_654
                                            refine va_mmax hx hb (hml.trans hl.1.symm) hown (hts _ (List.mem_cons_of_mem _ t_1194)) (hts _ (List.mem_cons_of_mem _ t_1041)) (hts _ (List.mem_cons_of_mem _ t_204)) (hts _ (List.mem_cons_of_mem _ t_1042)) (Nat.le_of_ble_eq_true rfl) (Nat.le_of_ble_eq_true rfl) (Nat.le_of_ble_eq_true rfl) (Nat.le_of_ble_eq_true rfl) dX0_closeParts_208 ?_
                                            refine lv_topi (fun y_656 ey_656 => ?_)
                                            have ty_656 : y_656.toInt = max r_601.toInt r_651.toInt := by rw [ey_656]; exact mmax_ok _ _
                                            have b_657 : bd (-2147483648) 2147483647 y_656 := max_rg ty_656 (bdT r_601) (bdT r_651) (by decide)
                                            refine lv_iadd hx hb dX0_closeParts_211 ?_
                                            refine lv_topi (fun y_658 ey_658 => ?_)
                                            refine lv_istore (lv' := [(6, .int y_658), (2, .int 1), (5, .int 0), (4, .int x_428), (3, .int v4_3), (0, .ref a0_), (1, .int x1_)]) hx hb dX0_closeParts_212 hl (by decide) rfl (fun ls hl => ?_)
                                            refine lv_aload_n hx hb dX0_closeParts_214 rfl (lv_at hl 5 rfl) ?_
                                            refine lv_iload hx hb dX0_closeParts_215 (lv_at hl 0 rfl) ?_
                                            have go_ := g
                                            refine g_callv (va_runV (As := [.int y_658]) (rest := []) ⟨hx, hb, hml, hown, hts⟩ (r_X0_addWhole l dC dI L kd tys fr_651 H.size g.2.2.2.1 a0_ ma0_ ka0_ y_658) (cwV 1 hts (gV_ t_1211 t_1213 t_17 t_190 t_1214) rfl rfl rfl (by decide +kernel) ⟨(Nat.le_of_ble_eq_true rfl), (Nat.le_of_ble_eq_true rfl)⟩) (pre3V g hK ma0_ ka0_ (by decide) (q := (RX0, TX0, 14)) rfl) rfl rfl hl.1 rfl (lv_room (Nat.le_of_ble_eq_true rfl)) dX0_closeParts_217 ⟨(Nat.le_of_ble_eq_true rfl), (Nat.le_of_ble_eq_true rfl)⟩) g hK (by decide) (by decide) (fx' := [(7, 6, q1_, .int x_648), (0, 8, a0_, .int y_426), (8, 6, q0_, .int 1201), (8, 8, q0_, .int x_407), (0, 4, a0_, .ref a_404), (7, 5, q1_, .ref g191_7_5_q1_), (7, 4, q1_, .ref g191_7_4_q1_), (0, 5, a0_, .ref g76_0_5_a0_), (0, 3, a0_, .ref g76_0_3_a0_), (0, 0, a0_, .ref q0_), (0, 2, a0_, .ref q1_)]) rfl (fun fr_659 H locs hp hMr_659 g => ?_)
                                            obtain ⟨x_660, h_661, hF_662⟩ := hp
                                            have hG_663 := dOK.frame hMr_659 go_.2.2.2.1 mq1_ kq1_ (by decide) (by decide) hG_655
                                            have g := g.more hF_662
                                            refine lv_iload hx hb dX0_closeParts_220 (lv_at hl 0 rfl) ?_
                                            refine lv_bipush (v := 12) hx hb dX0_closeParts_222 (by decide) ?_
                                            refine lv_icmp_le (tgt := 245) hx hb dX0_closeParts_224 (by decide) (fun c_664 => ?_) (fun c_664 => ?_)
                                            · have fc_664 := le_f c_664
                                              have b_665 : bd (-2147483648) 12 y_658 := leL fc_664 (bdT y_658) kb_12 (by decide)
                                              obtain ⟨y_666, ey_666⟩ : ∃ z : Int32, z = v4_3 + 1 := ⟨_, rfl⟩
                                              refine lv_iinc (v := y_666) (lv' := [(3, .int y_666), (6, .int y_658), (2, .int 1), (5, .int 0), (4, .int x_428), (0, .ref a0_), (1, .int x1_)]) hx hb dX0_closeParts_245 hl (k := 4) rfl (by rw [ey_666]; rfl) (by decide) rfl (fun ls hl => ?_)
                                              have ty_666 := add_bd ey_666 b_419 kb_1 (by decide)
                                              have b_667 : bd 2 300 y_666 := add_rg ty_666 b_419 kb_1 (by decide)
                                              refine lv_goto (tgt := 4) hx hb dX0_closeParts_248 (by decide) ?_
                                              have hl9 := lv_sub hl [0, 1, 2, 3, 4, 5, 6] (by rfl : lv_pick [(3, .int y_666), (6, .int y_658), (2, .int 1), (5, .int 0), (4, .int x_428), (0, .ref a0_), (1, .int x1_)] [0, 1, 2, 3, 4, 5, 6] = [(3, .int y_666), (6, .int y_658), (2, .int 1), (5, .int 0), (4, .int x_428), (0, .ref a0_), (1, .int x1_)])
                                              have g9 := g.sub (fx' := [(8, 6, q0_, .int 1201), (8, 8, q0_, .int x_407), (0, 4, a0_, .ref a_404), (0, 12, a0_, .int 0), (0, 10, a0_, .int x_660), (7, 6, q1_, .int x_648), (7, 5, q1_, .ref g191_7_5_q1_), (7, 4, q1_, .ref g191_7_4_q1_), (0, 8, a0_, .int y_426), (0, 5, a0_, .ref g76_0_5_a0_), (0, 3, a0_, .ref g76_0_3_a0_), (0, 0, a0_, .ref q0_), (0, 2, a0_, .ref q1_)]) [4, 5, 6, 0, 1, 2, 7, 8, 3, 9, 10, 11, 12] rfl
                                              exact ih4  y_666 y_658 1 0 x_428 x_660 x_648 y_426 (bd_sub b_667 (by decide)) (bd_sub kb_1 (by decide)) (bd_sub kb_0 (by decide)) h_661 h_649 (bd_sub b_427 (by decide)) (by have h9_0 := b_427; unfold bd at h9_0; have h9_1 := b_645; unfold bd at h9_1; have h9_2 := b_665; unfold bd at h9_2; have h9_3 := b_667; unfold bd at h9_3; have h9_4 := bdT v4_4; unfold bd at h9_4; have h9_5 := bdT v4_6; unfold bd at h9_5; have h9_6 := bv4_2; unfold bd at h9_6; have h9_7 := bv4_3; unfold bd at h9_7; have h9_8 := bv4_5; unfold bd at h9_8; have h9_9 := bw4_0_10_a0_; unfold bd at h9_9; have h9_10 := bw4_0_8_a0_; unfold bd at h9_10; have h9_11 := bw4_7_6_q1_; unfold bd at h9_11; have h9_12 := h_649; unfold bd at h9_12; have h9_13 := h_661; unfold bd at h9_13; have h9_14 := kb_0; unfold bd at h9_14; have h9_15 := kb_1; unfold bd at h9_15; have h9_16 := kb_12; unfold bd at h9_16; have h9_17 := kb_205; unfold bd at h9_17; have h9_18 := kb_206; unfold bd at h9_18; have h9_19 := kb_300; unfold bd at h9_19; have h9_20 := kb_6; unfold bd at h9_20; have h9_21 := kb_7; unfold bd at h9_21; omega) _ _ _ _ g9 hG_663 hl9
                                            · have fc_664 := nle_f c_664
                                              have b_668 : bd 13 2147483647 y_658 := ltR fc_664 kb_12 (bdT y_658) (by decide)
                                              refine lv_aload_n hx hb dX0_closeParts_227 rfl (lv_at hl 5 rfl) ?_
                                              refine g_getk (C := RX0) (T := TX0) (N := 14) hx hb hts (mc_ inX0) hown hK g rfl 0 (by decide) rfl (hts _ (List.mem_cons_of_mem _ t_373)) (fun _ h9 => h9) 11 rfl dX0_closeParts_228 ?_
                                              refine lv_bipush (v := 7) hx hb dX0_closeParts_231 (by decide) ?_
                                              refine lv_aload_n hx hb dX0_closeParts_233 rfl (lv_at hl 5 rfl) ?_
                                              refine g_getk (C := RX0) (T := TX0) (N := 14) hx hb hts (mc_ inX0) hown hK g rfl 4 (by decide) rfl (hts _ (List.mem_cons_of_mem _ t_377)) (fun _ h9 => h9) 6 rfl dX0_closeParts_234 ?_
                                              refine lv_aload_n hx hb dX0_closeParts_237 rfl (lv_at hl 5 rfl) ?_
                                              refine g_getk (C := RX0) (T := TX0) (N := 14) hx hb hts (mc_ inX0) hown hK g rfl 8 (by decide) rfl (hts _ (List.mem_cons_of_mem _ t_381)) (fun _ h9 => h9) 3 rfl dX0_closeParts_238 ?_
                                              refine g_iald hx hb hK g ma_404 ka_404 (by decide) rfl (in_bd b_427 (by decide)) dX0_closeParts_241 (fun x_669 bx_669 cx_669 => ?_)
                                              have go_ := g
                                              refine g_callv (va_runV (As := [.int 7, .int x_669]) (rest := []) ⟨hx, hb, hml, hown, hts⟩ (r_X8_fail_2 l dC dI L kd tys fr_659 H.size g.2.2.2.1 q0_ mq0_ kq0_ 7 (bd_sub kb_7 (by decide)) x_669 x_407 h_408 (g.fcts [5] rfl)) (cwV 2 hts (gV_ t_1215 t_1107 t_1108 t_184 t_1109) rfl rfl rfl (by decide +kernel) ⟨(Nat.le_of_ble_eq_true rfl), (Nat.le_of_ble_eq_true rfl)⟩) (pre3V g hK mq0_ kq0_ (by decide) (q := (RX8, TX8, 10)) rfl) rfl rfl hl.1 rfl (lv_room (Nat.le_of_ble_eq_true rfl)) dX0_closeParts_242 ⟨(Nat.le_of_ble_eq_true rfl), (Nat.le_of_ble_eq_true rfl)⟩) g hK (by decide) (by decide) (fx' := [(0, 12, a0_, .int 0), (0, 10, a0_, .int x_660), (7, 6, q1_, .int x_648), (0, 8, a0_, .int y_426), (8, 8, q0_, .int x_407), (0, 4, a0_, .ref a_404), (7, 5, q1_, .ref g191_7_5_q1_), (7, 4, q1_, .ref g191_7_4_q1_), (0, 5, a0_, .ref g76_0_5_a0_), (0, 3, a0_, .ref g76_0_3_a0_), (0, 0, a0_, .ref q0_), (0, 2, a0_, .ref q1_)]) rfl (fun fr_670 H locs hp hMr_670 g => ?_)
                                              have hF_671 := hp
                                              have hG_672 := dOK.frame hMr_670 go_.2.2.2.1 mq1_ kq1_ (by decide) (by decide) hG_663
                                              have g := g.more hF_671
                                              obtain ⟨y_673, ey_673⟩ : ∃ z : Int32, z = v4_3 + 1 := ⟨_, rfl⟩
                                              refine lv_iinc (v := y_673) (lv' := [(3, .int y_673), (6, .int y_658), (2, .int 1), (5, .int 0), (4, .int x_428), (0, .ref a0_), (1, .int x1_)]) hx hb dX0_closeParts_245 hl (k := 4) rfl (by rw [ey_673]; rfl) (by decide) rfl (fun ls hl => ?_)
                                              have ty_673 := add_bd ey_673 b_419 kb_1 (by decide)
                                              have b_674 : bd 2 300 y_673 := add_rg ty_673 b_419 kb_1 (by decide)
                                              refine lv_goto (tgt := 4) hx hb dX0_closeParts_248 (by decide) ?_
                                              have hl9 := lv_sub hl [0, 1, 2, 3, 4, 5, 6] (by rfl : lv_pick [(3, .int y_673), (6, .int y_658), (2, .int 1), (5, .int 0), (4, .int x_428), (0, .ref a0_), (1, .int x1_)] [0, 1, 2, 3, 4, 5, 6] = [(3, .int y_673), (6, .int y_658), (2, .int 1), (5, .int 0), (4, .int x_428), (0, .ref a0_), (1, .int x1_)])
                                              have g9 := g.sub (fx' := [(8, 6, q0_, .int 1201), (8, 8, q0_, .int x_407), (0, 4, a0_, .ref a_404), (0, 12, a0_, .int 0), (0, 10, a0_, .int x_660), (7, 6, q1_, .int x_648), (7, 5, q1_, .ref g191_7_5_q1_), (7, 4, q1_, .ref g191_7_4_q1_), (0, 8, a0_, .int y_426), (0, 5, a0_, .ref g76_0_5_a0_), (0, 3, a0_, .ref g76_0_3_a0_), (0, 0, a0_, .ref q0_), (0, 2, a0_, .ref q1_)]) [0, 5, 6, 1, 2, 3, 7, 8, 4, 9, 10, 11, 12] rfl
                                              exact ih4  y_673 y_658 1 0 x_428 x_660 x_648 y_426 (bd_sub b_674 (by decide)) (bd_sub kb_1 (by decide)) (bd_sub kb_0 (by decide)) h_661 h_649 (bd_sub b_427 (by decide)) (by have h9_0 := b_427; unfold bd at h9_0; have h9_1 := b_645; unfold bd at h9_1; have h9_2 := b_668; unfold bd at h9_2; have h9_3 := b_674; unfold bd at h9_3; have h9_4 := bdT v4_4; unfold bd at h9_4; have h9_5 := bdT v4_6; unfold bd at h9_5; have h9_6 := bv4_2; unfold bd at h9_6; have h9_7 := bv4_3; unfold bd at h9_7; have h9_8 := bv4_5; unfold bd at h9_8; have h9_9 := bw4_0_10_a0_; unfold bd at h9_9; have h9_10 := bw4_0_8_a0_; unfold bd at h9_10; have h9_11 := bw4_7_6_q1_; unfold bd at h9_11; have h9_12 := h_649; unfold bd at h9_12; have h9_13 := h_661; unfold bd at h9_13; have h9_14 := kb_0; unfold bd at h9_14; have h9_15 := kb_1; unfold bd at h9_15; have h9_16 := kb_12; unfold bd at h9_16; have h9_17 := kb_205; unfold bd at h9_17; have h9_18 := kb_206; unfold bd at h9_18; have h9_19 := kb_300; unfold bd at h9_19; have h9_20 := kb_6; unfold bd at h9_20; have h9_21 := kb_7; unfold bd at h9_21; omega) _ _ _ _ g9 hG_672 hl9
                                          · have fc_644 := eq_f c_644
                                            have b_675 : bd 206 206 x_428 := eqX fc_644 b_592 kb_206 (by decide)
                                            refine lv_aload_n hx hb dX0_closeParts_152 rfl (lv_at hl 5 rfl) ?_
                                            refine g_getk (C := RX0) (T := TX0) (N := 14) hx hb hts (mc_ inX0) hown hK g rfl 2 (by decide) rfl (hts _ (List.mem_cons_of_mem _ t_375)) (fun _ h9 => h9) 12 rfl dX0_closeParts_153 ?_
                                            refine lv_bipush (v := 8) hx hb dX0_closeParts_156 (by decide) ?_
                                            refine lv_iconst (v := 0) hx hb dX0_closeParts_158 (by decide) ?_
                                            have go_ := g
                                            refine g_callv (va_runV (As := [.int 8, .int 0]) (rest := []) ⟨hx, hb, hml, hown, hts⟩ (r_X7_emitF l dC dI L kd tys fr_601 H.size g.2.2.2.1 q1_ mq1_ kq1_ g191_7_4_q1_ mg191_7_4_q1_ kg191_7_4_q1_ g191_7_5_q1_ mg191_7_5_q1_ kg191_7_5_q1_ w4_7_6_q1_ bw4_7_6_q1_ T_ hG_605 (8 : Int32) (0 : Int32) (g.fcts [8, 7, 6] rfl)) (cwV 2 hts (gV_ t_1203 t_1204 t_1205 t_191 t_1206) rfl rfl rfl (by decide +kernel) ⟨(Nat.le_of_ble_eq_true rfl), (Nat.le_of_ble_eq_true rfl)⟩) (pre3V g hK mq1_ kq1_ (by decide) (q := (RX7, TX7, 19)) rfl) rfl rfl hl.1 rfl (lv_room (Nat.le_of_ble_eq_true rfl)) dX0_closeParts_159 ⟨(Nat.le_of_ble_eq_true rfl), (Nat.le_of_ble_eq_true rfl)⟩) g hK (by decide) (by decide) (fx' := [(0, 10, a0_, .int x_602), (0, 8, a0_, .int y_426), (8, 6, q0_, .int 1201), (8, 8, q0_, .int x_407), (0, 4, a0_, .ref a_404), (0, 12, a0_, .int 0), (7, 5, q1_, .ref g191_7_5_q1_), (7, 4, q1_, .ref g191_7_4_q1_), (0, 5, a0_, .ref g76_0_5_a0_), (0, 3, a0_, .ref g76_0_3_a0_), (0, 0, a0_, .ref q0_), (0, 2, a0_, .ref q1_)]) rfl (fun fr_676 H locs hp hMr_676 g => ?_)
                                            obtain ⟨hG_677, x_678, h_679, hF_680⟩ := hp
                                            have g := g.more hF_680
                                            refine lv_aload_n hx hb dX0_closeParts_162 rfl (lv_at hl 5 rfl) ?_
                                            refine g_getk (C := RX0) (T := TX0) (N := 14) hx hb hts (mc_ inX0) hown hK g rfl 2 (by decide) rfl (hts _ (List.mem_cons_of_mem _ t_375)) (fun _ h9 => h9) 12 rfl dX0_closeParts_163 ?_
                                            refine lv_aload_n hx hb dX0_closeParts_166 rfl (lv_at hl 5 rfl) ?_
                                            refine g_getk (C := RX0) (T := TX0) (N := 14) hx hb hts (mc_ inX0) hown hK g rfl 5 (by decide) rfl (hts _ (List.mem_cons_of_mem _ t_378)) (fun _ h9 => h9) 9 rfl dX0_closeParts_167 ?_
                                            refine lv_aload_n hx hb dX0_closeParts_170 rfl (lv_at hl 5 rfl) ?_
                                            refine g_getk (C := RX0) (T := TX0) (N := 14) hx hb hts (mc_ inX0) hown hK g rfl 8 (by decide) rfl (hts _ (List.mem_cons_of_mem _ t_381)) (fun _ h9 => h9) 2 rfl dX0_closeParts_171 ?_
                                            refine g_iald hx hb hK g mg76_0_5_a0_ kg76_0_5_a0_ (by decide) rfl (in_bd b_427 (by decide)) dX0_closeParts_174 (fun x_681 bx_681 cx_681 => ?_)
                                            have go_ := g
                                            refine g_callv (va_runV (As := [.int x_681]) (rest := []) ⟨hx, hb, hml, hown, hts⟩ (r_X7_leadHereF l dC dI L kd tys fr_676 H.size g.2.2.2.1 q1_ mq1_ kq1_ g191_7_4_q1_ mg191_7_4_q1_ kg191_7_4_q1_ g191_7_5_q1_ mg191_7_5_q1_ kg191_7_5_q1_ x_678 h_679 T_ hG_677 x_681 (g.fcts [8, 7, 0] rfl)) (cwV 1 hts (gV_ t_1207 t_1208 t_1209 t_191 t_1210) rfl rfl rfl (by decide +kernel) ⟨(Nat.le_of_ble_eq_true rfl), (Nat.le_of_ble_eq_true rfl)⟩) (pre3V g hK mq1_ kq1_ (by decide) (q := (RX7, TX7, 19)) rfl) rfl rfl hl.1 rfl (lv_room (Nat.le_of_ble_eq_true rfl)) dX0_closeParts_175 ⟨(Nat.le_of_ble_eq_true rfl), (Nat.le_of_ble_eq_true rfl)⟩) g hK (by decide) (by decide) (fx' := [(7, 6, q1_, .int x_678), (0, 10, a0_, .int x_602), (0, 8, a0_, .int y_426), (8, 6, q0_, .int 1201), (8, 8, q0_, .int x_407), (0, 4, a0_, .ref a_404), (0, 12, a0_, .int 0), (7, 5, q1_, .ref g191_7_5_q1_), (7, 4, q1_, .ref g191_7_4_q1_), (0, 5, a0_, .ref g76_0_5_a0_), (0, 3, a0_, .ref g76_0_3_a0_), (0, 0, a0_, .ref q0_), (0, 2, a0_, .ref q1_)]) rfl (fun fr_682 H locs hp hMr_682 g => ?_)
                                            obtain ⟨hG_683, x_684, h_685, hF_686⟩ := hp
                                            have g := g.more hF_686
                                            have e_687 := fx_same g 1 0 rfl rfl
                                            have g := g.sub (fx' := [(7, 6, q1_, .int x_678), (0, 10, a0_, .int x_602), (0, 8, a0_, .int y_426), (8, 6, q0_, .int 1201), (8, 8, q0_, .int x_407), (0, 4, a0_, .ref a_404), (0, 12, a0_, .int 0), (7, 5, q1_, .ref g191_7_5_q1_), (7, 4, q1_, .ref g191_7_4_q1_), (0, 5, a0_, .ref g76_0_5_a0_), (0, 3, a0_, .ref g76_0_3_a0_), (0, 0, a0_, .ref q0_), (0, 2, a0_, .ref q1_)]) [1, 2, 3, 4, 5, 6, 7, 8, 9, 10, 11, 12, 13] rfl
                                            refine lv_goto (tgt := 191) hx hb dX0_closeParts_178 (by decide) ?_
                                            refine lv_iconst (v := 1) hx hb dX0_closeParts_191 (by decide) ?_
                                            refine lv_iload hx hb dX0_closeParts_192 (lv_at hl 2 rfl) ?_
                                            refine lv_if_eq (tgt := 202) hx hb dX0_closeParts_194 (by decide) (fun c_ => ?_) (fun c_ => absurd (by decide) c_)
                                            refine lv_iload hx hb dX0_closeParts_202 (lv_at hl 0 rfl) ?_
                                            refine lv_aload_n hx hb dX0_closeParts_204 rfl (lv_at hl 5 rfl) ?_
                                            have go_ := g
                                            refine g_calli (va_runV (As := []) (rest := [.int r_601, .int 1]) ⟨hx, hb, hml, hown, hts⟩ (r_X0_takeHeight l dC dI L kd tys fr_682 H.size g.2.2.2.1 a0_ ma0_ ka0_) (cwV 0 hts (gV_ t_1199 t_1201 t_16 t_190 t_1202) rfl rfl rfl (by decide +kernel) ⟨(Nat.le_of_ble_eq_true rfl), (Nat.le_of_ble_eq_true rfl)⟩) (pre3V g hK ma0_ ka0_ (by decide) (q := (RX0, TX0, 14)) rfl) rfl rfl hl.1 rfl (lv_room (Nat.le_of_ble_eq_true rfl)) dX0_closeParts_205 ⟨(Nat.le_of_ble_eq_true rfl), (Nat.le_of_ble_eq_true rfl)⟩) g hK (by decide) (by decide) (fx' := [(7, 6, q1_, .int x_678), (0, 8, a0_, .int y_426), (8, 6, q0_, .int 1201), (8, 8, q0_, .int x_407), (0, 4, a0_, .ref a_404), (0, 12, a0_, .int 0), (7, 5, q1_, .ref g191_7_5_q1_), (7, 4, q1_, .ref g191_7_4_q1_), (0, 5, a0_, .ref g76_0_5_a0_), (0, 3, a0_, .ref g76_0_3_a0_), (0, 0, a0_, .ref q0_), (0, 2, a0_, .ref q1_)]) rfl (fun r_688 fr_688 H locs hp hMr_688 g => ?_)
                                            obtain ⟨x_689, h_690, hF_691⟩ := hp
                                            have hG_692 := dOK.frame hMr_688 go_.2.2.2.1 mq1_ kq1_ (by decide) (by decide) hG_683
                                            have g := g.more hF_691
                                            refine va_mmax hx hb (hml.trans hl.1.symm) hown (hts _ (List.mem_cons_of_mem _ t_1194)) (hts _ (List.mem_cons_of_mem _ t_1041)) (hts _ (List.mem_cons_of_mem _ t_204)) (hts _ (List.mem_cons_of_mem _ t_1042)) (Nat.le_of_ble_eq_true rfl) (Nat.le_of_ble_eq_true rfl) (Nat.le_of_ble_eq_true rfl) (Nat.le_of_ble_eq_true rfl) dX0_closeParts_208 ?_
                                            refine lv_topi (fun y_693 ey_693 => ?_)
                                            have ty_693 : y_693.toInt = max r_601.toInt r_688.toInt := by rw [ey_693]; exact mmax_ok _ _
                                            have b_694 : bd (-2147483648) 2147483647 y_693 := max_rg ty_693 (bdT r_601) (bdT r_688) (by decide)
                                            refine lv_iadd hx hb dX0_closeParts_211 ?_
                                            refine lv_topi (fun y_695 ey_695 => ?_)
                                            refine lv_istore (lv' := [(6, .int y_695), (2, .int 1), (5, .int 0), (4, .int x_428), (3, .int v4_3), (0, .ref a0_), (1, .int x1_)]) hx hb dX0_closeParts_212 hl (by decide) rfl (fun ls hl => ?_)
                                            refine lv_aload_n hx hb dX0_closeParts_214 rfl (lv_at hl 5 rfl) ?_
                                            refine lv_iload hx hb dX0_closeParts_215 (lv_at hl 0 rfl) ?_
                                            have go_ := g
                                            refine g_callv (va_runV (As := [.int y_695]) (rest := []) ⟨hx, hb, hml, hown, hts⟩ (r_X0_addWhole l dC dI L kd tys fr_688 H.size g.2.2.2.1 a0_ ma0_ ka0_ y_695) (cwV 1 hts (gV_ t_1211 t_1213 t_17 t_190 t_1214) rfl rfl rfl (by decide +kernel) ⟨(Nat.le_of_ble_eq_true rfl), (Nat.le_of_ble_eq_true rfl)⟩) (pre3V g hK ma0_ ka0_ (by decide) (q := (RX0, TX0, 14)) rfl) rfl rfl hl.1 rfl (lv_room (Nat.le_of_ble_eq_true rfl)) dX0_closeParts_217 ⟨(Nat.le_of_ble_eq_true rfl), (Nat.le_of_ble_eq_true rfl)⟩) g hK (by decide) (by decide) (fx' := [(7, 6, q1_, .int x_678), (0, 8, a0_, .int y_426), (8, 6, q0_, .int 1201), (8, 8, q0_, .int x_407), (0, 4, a0_, .ref a_404), (7, 5, q1_, .ref g191_7_5_q1_), (7, 4, q1_, .ref g191_7_4_q1_), (0, 5, a0_, .ref g76_0_5_a0_), (0, 3, a0_, .ref g76_0_3_a0_), (0, 0, a0_, .ref q0_), (0, 2, a0_, .ref q1_)]) rfl (fun fr_696 H locs hp hMr_696 g => ?_)
                                            obtain ⟨x_697, h_698, hF_699⟩ := hp
                                            have hG_700 := dOK.frame hMr_696 go_.2.2.2.1 mq1_ kq1_ (by decide) (by decide) hG_692
                                            have g := g.more hF_699
                                            refine lv_iload hx hb dX0_closeParts_220 (lv_at hl 0 rfl) ?_
                                            refine lv_bipush (v := 12) hx hb dX0_closeParts_222 (by decide) ?_
                                            refine lv_icmp_le (tgt := 245) hx hb dX0_closeParts_224 (by decide) (fun c_701 => ?_) (fun c_701 => ?_)
                                            · have fc_701 := le_f c_701
                                              have b_702 : bd (-2147483648) 12 y_695 := leL fc_701 (bdT y_695) kb_12 (by decide)
                                              obtain ⟨y_703, ey_703⟩ : ∃ z : Int32, z = v4_3 + 1 := ⟨_, rfl⟩
                                              refine lv_iinc (v := y_703) (lv' := [(3, .int y_703), (6, .int y_695), (2, .int 1), (5, .int 0), (4, .int x_428), (0, .ref a0_), (1, .int x1_)]) hx hb dX0_closeParts_245 hl (k := 4) rfl (by rw [ey_703]; rfl) (by decide) rfl (fun ls hl => ?_)
                                              have ty_703 := add_bd ey_703 b_419 kb_1 (by decide)
                                              have b_704 : bd 2 300 y_703 := add_rg ty_703 b_419 kb_1 (by decide)
                                              refine lv_goto (tgt := 4) hx hb dX0_closeParts_248 (by decide) ?_
                                              have hl9 := lv_sub hl [0, 1, 2, 3, 4, 5, 6] (by rfl : lv_pick [(3, .int y_703), (6, .int y_695), (2, .int 1), (5, .int 0), (4, .int x_428), (0, .ref a0_), (1, .int x1_)] [0, 1, 2, 3, 4, 5, 6] = [(3, .int y_703), (6, .int y_695), (2, .int 1), (5, .int 0), (4, .int x_428), (0, .ref a0_), (1, .int x1_)])
                                              have g9 := g.sub (fx' := [(8, 6, q0_, .int 1201), (8, 8, q0_, .int x_407), (0, 4, a0_, .ref a_404), (0, 12, a0_, .int 0), (0, 10, a0_, .int x_697), (7, 6, q1_, .int x_678), (7, 5, q1_, .ref g191_7_5_q1_), (7, 4, q1_, .ref g191_7_4_q1_), (0, 8, a0_, .int y_426), (0, 5, a0_, .ref g76_0_5_a0_), (0, 3, a0_, .ref g76_0_3_a0_), (0, 0, a0_, .ref q0_), (0, 2, a0_, .ref q1_)]) [4, 5, 6, 0, 1, 2, 7, 8, 3, 9, 10, 11, 12] rfl
                                              exact ih4  y_703 y_695 1 0 x_428 x_697 x_678 y_426 (bd_sub b_704 (by decide)) (bd_sub kb_1 (by decide)) (bd_sub kb_0 (by decide)) h_698 h_679 (bd_sub b_427 (by decide)) (by have h9_0 := b_427; unfold bd at h9_0; have h9_1 := b_675; unfold bd at h9_1; have h9_2 := b_702; unfold bd at h9_2; have h9_3 := b_704; unfold bd at h9_3; have h9_4 := bdT v4_4; unfold bd at h9_4; have h9_5 := bdT v4_6; unfold bd at h9_5; have h9_6 := bv4_2; unfold bd at h9_6; have h9_7 := bv4_3; unfold bd at h9_7; have h9_8 := bv4_5; unfold bd at h9_8; have h9_9 := bw4_0_10_a0_; unfold bd at h9_9; have h9_10 := bw4_0_8_a0_; unfold bd at h9_10; have h9_11 := bw4_7_6_q1_; unfold bd at h9_11; have h9_12 := h_679; unfold bd at h9_12; have h9_13 := h_698; unfold bd at h9_13; have h9_14 := kb_0; unfold bd at h9_14; have h9_15 := kb_1; unfold bd at h9_15; have h9_16 := kb_12; unfold bd at h9_16; have h9_17 := kb_205; unfold bd at h9_17; have h9_18 := kb_206; unfold bd at h9_18; have h9_19 := kb_300; unfold bd at h9_19; have h9_20 := kb_6; unfold bd at h9_20; have h9_21 := kb_7; unfold bd at h9_21; omega) _ _ _ _ g9 hG_700 hl9
                                            · have fc_701 := nle_f c_701
                                              have b_705 : bd 13 2147483647 y_695 := ltR fc_701 kb_12 (bdT y_695) (by decide)
                                              refine lv_aload_n hx hb dX0_closeParts_227 rfl (lv_at hl 5 rfl) ?_
                                              refine g_getk (C := RX0) (T := TX0) (N := 14) hx hb hts (mc_ inX0) hown hK g rfl 0 (by decide) rfl (hts _ (List.mem_cons_of_mem _ t_373)) (fun _ h9 => h9) 11 rfl dX0_closeParts_228 ?_
                                              refine lv_bipush (v := 7) hx hb dX0_closeParts_231 (by decide) ?_
                                              refine lv_aload_n hx hb dX0_closeParts_233 rfl (lv_at hl 5 rfl) ?_
                                              refine g_getk (C := RX0) (T := TX0) (N := 14) hx hb hts (mc_ inX0) hown hK g rfl 4 (by decide) rfl (hts _ (List.mem_cons_of_mem _ t_377)) (fun _ h9 => h9) 6 rfl dX0_closeParts_234 ?_
                                              refine lv_aload_n hx hb dX0_closeParts_237 rfl (lv_at hl 5 rfl) ?_
                                              refine g_getk (C := RX0) (T := TX0) (N := 14) hx hb hts (mc_ inX0) hown hK g rfl 8 (by decide) rfl (hts _ (List.mem_cons_of_mem _ t_381)) (fun _ h9 => h9) 3 rfl dX0_closeParts_238 ?_
                                              refine g_iald hx hb hK g ma_404 ka_404 (by decide) rfl (in_bd b_427 (by decide)) dX0_closeParts_241 (fun x_706 bx_706 cx_706 => ?_)
                                              have go_ := g
                                              refine g_callv (va_runV (As := [.int 7, .int x_706]) (rest := []) ⟨hx, hb, hml, hown, hts⟩ (r_X8_fail_2 l dC dI L kd tys fr_696 H.size g.2.2.2.1 q0_ mq0_ kq0_ 7 (bd_sub kb_7 (by decide)) x_706 x_407 h_408 (g.fcts [5] rfl)) (cwV 2 hts (gV_ t_1215 t_1107 t_1108 t_184 t_1109) rfl rfl rfl (by decide +kernel) ⟨(Nat.le_of_ble_eq_true rfl), (Nat.le_of_ble_eq_true rfl)⟩) (pre3V g hK mq0_ kq0_ (by decide) (q := (RX8, TX8, 10)) rfl) rfl rfl hl.1 rfl (lv_room (Nat.le_of_ble_eq_true rfl)) dX0_closeParts_242 ⟨(Nat.le_of_ble_eq_true rfl), (Nat.le_of_ble_eq_true rfl)⟩) g hK (by decide) (by decide) (fx' := [(0, 12, a0_, .int 0), (0, 10, a0_, .int x_697), (7, 6, q1_, .int x_678), (0, 8, a0_, .int y_426), (8, 8, q0_, .int x_407), (0, 4, a0_, .ref a_404), (7, 5, q1_, .ref g191_7_5_q1_), (7, 4, q1_, .ref g191_7_4_q1_), (0, 5, a0_, .ref g76_0_5_a0_), (0, 3, a0_, .ref g76_0_3_a0_), (0, 0, a0_, .ref q0_), (0, 2, a0_, .ref q1_)]) rfl (fun fr_707 H locs hp hMr_707 g => ?_)
                                              have hF_708 := hp
                                              have hG_709 := dOK.frame hMr_707 go_.2.2.2.1 mq1_ kq1_ (by decide) (by decide) hG_700
                                              have g := g.more hF_708
                                              obtain ⟨y_710, ey_710⟩ : ∃ z : Int32, z = v4_3 + 1 := ⟨_, rfl⟩
                                              refine lv_iinc (v := y_710) (lv' := [(3, .int y_710), (6, .int y_695), (2, .int 1), (5, .int 0), (4, .int x_428), (0, .ref a0_), (1, .int x1_)]) hx hb dX0_closeParts_245 hl (k := 4) rfl (by rw [ey_710]; rfl) (by decide) rfl (fun ls hl => ?_)
                                              have ty_710 := add_bd ey_710 b_419 kb_1 (by decide)
                                              have b_711 : bd 2 300 y_710 := add_rg ty_710 b_419 kb_1 (by decide)
                                              refine lv_goto (tgt := 4) hx hb dX0_closeParts_248 (by decide) ?_
                                              have hl9 := lv_sub hl [0, 1, 2, 3, 4, 5, 6] (by rfl : lv_pick [(3, .int y_710), (6, .int y_695), (2, .int 1), (5, .int 0), (4, .int x_428), (0, .ref a0_), (1, .int x1_)] [0, 1, 2, 3, 4, 5, 6] = [(3, .int y_710), (6, .int y_695), (2, .int 1), (5, .int 0), (4, .int x_428), (0, .ref a0_), (1, .int x1_)])
                                              have g9 := g.sub (fx' := [(8, 6, q0_, .int 1201), (8, 8, q0_, .int x_407), (0, 4, a0_, .ref a_404), (0, 12, a0_, .int 0), (0, 10, a0_, .int x_697), (7, 6, q1_, .int x_678), (7, 5, q1_, .ref g191_7_5_q1_), (7, 4, q1_, .ref g191_7_4_q1_), (0, 8, a0_, .int y_426), (0, 5, a0_, .ref g76_0_5_a0_), (0, 3, a0_, .ref g76_0_3_a0_), (0, 0, a0_, .ref q0_), (0, 2, a0_, .ref q1_)]) [0, 5, 6, 1, 2, 3, 7, 8, 4, 9, 10, 11, 12] rfl
                                              exact ih4  y_710 y_695 1 0 x_428 x_697 x_678 y_426 (bd_sub b_711 (by decide)) (bd_sub kb_1 (by decide)) (bd_sub kb_0 (by decide)) h_698 h_679 (bd_sub b_427 (by decide)) (by have h9_0 := b_427; unfold bd at h9_0; have h9_1 := b_675; unfold bd at h9_1; have h9_2 := b_705; unfold bd at h9_2; have h9_3 := b_711; unfold bd at h9_3; have h9_4 := bdT v4_4; unfold bd at h9_4; have h9_5 := bdT v4_6; unfold bd at h9_5; have h9_6 := bv4_2; unfold bd at h9_6; have h9_7 := bv4_3; unfold bd at h9_7; have h9_8 := bv4_5; unfold bd at h9_8; have h9_9 := bw4_0_10_a0_; unfold bd at h9_9; have h9_10 := bw4_0_8_a0_; unfold bd at h9_10; have h9_11 := bw4_7_6_q1_; unfold bd at h9_11; have h9_12 := h_679; unfold bd at h9_12; have h9_13 := h_698; unfold bd at h9_13; have h9_14 := kb_0; unfold bd at h9_14; have h9_15 := kb_1; unfold bd at h9_15; have h9_16 := kb_12; unfold bd at h9_16; have h9_17 := kb_205; unfold bd at h9_17; have h9_18 := kb_206; unfold bd at h9_18; have h9_19 := kb_300; unfold bd at h9_19; have h9_20 := kb_6; unfold bd at h9_20; have h9_21 := kb_7; unfold bd at h9_21; omega) _ _ _ _ g9 hG_709 hl9
                                  · have fc_467 := eq_f c_467
                                    have b_712 : bd 7 7 x_428 := eqX fc_467 (bdT x_428) kb_7 (by decide)
                                    refine lv_iconst (v := 1) hx hb dX0_closeParts_49 (by decide) ?_
                                    refine lv_goto (tgt := 54) hx hb dX0_closeParts_50 (by decide) ?_
                                    refine lv_istore (lv' := [(5, .int 1), (4, .int x_428), (3, .int v4_3), (6, .int v4_6), (2, .int v4_2), (0, .ref a0_), (1, .int x1_)]) hx hb dX0_closeParts_54 hl (by decide) rfl (fun ls hl => ?_)
                                    refine lv_iload hx hb dX0_closeParts_56 (lv_at hl 0 rfl) ?_
                                    refine lv_if_ne (tgt := 70) hx hb dX0_closeParts_58 (by decide) (fun c_ => ?_) (fun c_ => absurd c_ (by decide))
                                    refine lv_iconst (v := 1) hx hb dX0_closeParts_70 (by decide) ?_
                                    refine lv_goto (tgt := 75) hx hb dX0_closeParts_71 (by decide) ?_
                                    refine lv_istore_n (lv' := [(2, .int 1), (5, .int 1), (4, .int x_428), (3, .int v4_3), (6, .int v4_6), (0, .ref a0_), (1, .int x1_)]) hx hb dX0_closeParts_75 rfl hl (by decide) rfl (fun ls hl => ?_)
                                    refine lv_iload_n hx hb dX0_closeParts_76 rfl (lv_at hl 0 rfl) ?_
                                    refine lv_if_eq (tgt := 245) hx hb dX0_closeParts_77 (by decide) (fun c_ => absurd c_ (by decide)) (fun c_ => ?_)
                                    refine lv_aload_n hx hb dX0_closeParts_80 rfl (lv_at hl 5 rfl) ?_
                                    refine lv_dup hx hb dX0_closeParts_81 rfl ?_
                                    refine g_getk (C := RX0) (T := TX0) (N := 14) hx hb hts (mc_ inX0) hown hK g rfl 8 (by decide) rfl (hts _ (List.mem_cons_of_mem _ t_381)) (fun _ h9 => h9) 8 rfl dX0_closeParts_82 ?_
                                    refine lv_iconst (v := 1) hx hb dX0_closeParts_85 (by decide) ?_
                                    refine lv_isub hx hb dX0_closeParts_86 ?_
                                    refine lv_topi (fun y_713 ey_713 => ?_)
                                    obtain rfl : y_426 = y_713 := ey_426.trans ey_713.symm
                                    have go_ := g
                                    refine g_put (C := RX0) (T := TX0) (N := 14) hx hb hts (mc_ inX0) tyX0 tyX0_ok nmX0 hown hK g ma0_ ka0_ (by decide) rfl 8 (by decide) (hts _ (List.mem_cons_of_mem _ t_381)) (fun _ h9 => h9) rfl rfl (okV_i (bd_sub b_427 (by decide))) rfl rfl (by decide) (Or.inr (Or.inl (by decide))) (fx' := [(8, 6, q0_, .int 1201), (8, 8, q0_, .int x_407), (0, 4, a0_, .ref a_404), (0, 12, a0_, .int 0), (0, 10, a0_, .int w4_0_10_a0_), (7, 6, q1_, .int w4_7_6_q1_), (7, 5, q1_, .ref g191_7_5_q1_), (7, 4, q1_, .ref g191_7_4_q1_), (0, 5, a0_, .ref g76_0_5_a0_), (0, 3, a0_, .ref g76_0_3_a0_), (0, 0, a0_, .ref q0_), (0, 2, a0_, .ref q1_)]) rfl dX0_closeParts_87 (fun f H locs hM_714 g => ?_)
                                    have hG_715 := dOK.frame hM_714 go_.2.2.2.1 mq1_ kq1_ (by decide) (by decide) hG4_d_q1_
                                    refine lv_aload_n hx hb dX0_closeParts_90 rfl (lv_at hl 5 rfl) ?_
                                    have go_ := g
                                    refine g_calli (va_runV (As := []) (rest := []) ⟨hx, hb, hml, hown, hts⟩ (r_X0_takeHeight l dC dI L kd tys f H.size g.2.2.2.1 a0_ ma0_ ka0_) (cwV 0 hts (gV_ t_1199 t_1201 t_16 t_190 t_1202) rfl rfl rfl (by decide +kernel) ⟨(Nat.le_of_ble_eq_true rfl), (Nat.le_of_ble_eq_true rfl)⟩) (pre3V g hK ma0_ ka0_ (by decide) (q := (RX0, TX0, 14)) rfl) rfl rfl hl.1 rfl (lv_room (Nat.le_of_ble_eq_true rfl)) dX0_closeParts_91 ⟨(Nat.le_of_ble_eq_true rfl), (Nat.le_of_ble_eq_true rfl)⟩) g hK (by decide) (by decide) (fx' := [(0, 8, a0_, .int y_426), (8, 6, q0_, .int 1201), (8, 8, q0_, .int x_407), (0, 4, a0_, .ref a_404), (0, 12, a0_, .int 0), (7, 6, q1_, .int w4_7_6_q1_), (7, 5, q1_, .ref g191_7_5_q1_), (7, 4, q1_, .ref g191_7_4_q1_), (0, 5, a0_, .ref g76_0_5_a0_), (0, 3, a0_, .ref g76_0_3_a0_), (0, 0, a0_, .ref q0_), (0, 2, a0_, .ref q1_)]) rfl (fun r_716 fr_716 H locs hp hMr_716 g => ?_)
                                    obtain ⟨x_717, h_718, hF_719⟩ := hp
                                    have hG_720 := dOK.frame hMr_716 go_.2.2.2.1 mq1_ kq1_ (by decide) (by decide) hG_715
                                    have g := g.more hF_719
                                    refine lv_istore (lv' := [(6, .int r_716), (2, .int 1), (5, .int 1), (4, .int x_428), (3, .int v4_3), (0, .ref a0_), (1, .int x1_)]) hx hb dX0_closeParts_94 hl (by decide) rfl (fun ls hl => ?_)
                                    refine lv_iload hx hb dX0_closeParts_96 (lv_at hl 2 rfl) ?_
                                    refine lv_if_eq (tgt := 136) hx hb dX0_closeParts_98 (by decide) (fun c_ => absurd c_ (by decide)) (fun c_ => ?_)
                                    refine lv_aload_n hx hb dX0_closeParts_101 rfl (lv_at hl 5 rfl) ?_
                                    refine lv_dup hx hb dX0_closeParts_102 rfl ?_
                                    refine g_geti (C := RX0) (T := TX0) (N := 14) hx hb hts (mc_ inX0) hown hK g ma0_ ka0_ (by decide) rfl 11 (by decide) rfl (hts _ (List.mem_cons_of_mem _ t_384)) (fun _ h9 => h9) rfl dX0_closeParts_103 (fun x_721 bx_721 g => ?_)
                                    refine lv_iconst (v := 1) hx hb dX0_closeParts_106 (by decide) ?_
                                    refine lv_isub hx hb dX0_closeParts_107 ?_
                                    refine lv_topi (fun y_722 ey_722 => ?_)
                                    have go_ := g
                                    refine g_put (C := RX0) (T := TX0) (N := 14) hx hb hts (mc_ inX0) tyX0 tyX0_ok nmX0 hown hK g ma0_ ka0_ (by decide) rfl 11 (by decide) (hts _ (List.mem_cons_of_mem _ t_384)) (fun _ h9 => h9) rfl rfl (okV_i (bdT y_722)) rfl rfl (by decide) (Or.inr (Or.inl (by decide))) (fx' := [(0, 10, a0_, .int x_717), (0, 8, a0_, .int y_426), (8, 6, q0_, .int 1201), (8, 8, q0_, .int x_407), (0, 4, a0_, .ref a_404), (0, 12, a0_, .int 0), (7, 6, q1_, .int w4_7_6_q1_), (7, 5, q1_, .ref g191_7_5_q1_), (7, 4, q1_, .ref g191_7_4_q1_), (0, 5, a0_, .ref g76_0_5_a0_), (0, 3, a0_, .ref g76_0_3_a0_), (0, 0, a0_, .ref q0_), (0, 2, a0_, .ref q1_)]) rfl dX0_closeParts_108 (fun f H locs hM_723 g => ?_)
                                    have hG_724 := dOK.frame hM_723 go_.2.2.2.1 mq1_ kq1_ (by decide) (by decide) hG_720
                                    refine lv_aload_n hx hb dX0_closeParts_111 rfl (lv_at hl 5 rfl) ?_
                                    refine g_getk (C := RX0) (T := TX0) (N := 14) hx hb hts (mc_ inX0) hown hK g rfl 2 (by decide) rfl (hts _ (List.mem_cons_of_mem _ t_375)) (fun _ h9 => h9) 13 rfl dX0_closeParts_112 ?_
                                    refine lv_iload hx hb dX0_closeParts_115 (lv_at hl 3 rfl) ?_
                                    refine lv_bipush (v := 6) hx hb dX0_closeParts_117 (by decide) ?_
                                    refine lv_icmp_ne (tgt := 127) hx hb dX0_closeParts_119 (by decide) (fun c_725 => ?_) (fun c_725 => ?_)
                                    · have fc_725 := neq_f c_725
                                      refine lv_bipush (v := 7) hx hb dX0_closeParts_127 (by decide) ?_
                                      refine lv_iconst (v := 0) hx hb dX0_closeParts_129 (by decide) ?_
                                      have go_ := g
                                      refine g_callv (va_runV (As := [.int 7, .int 0]) (rest := []) ⟨hx, hb, hml, hown, hts⟩ (r_X7_emitF l dC dI L kd tys f H.size g.2.2.2.1 q1_ mq1_ kq1_ g191_7_4_q1_ mg191_7_4_q1_ kg191_7_4_q1_ g191_7_5_q1_ mg191_7_5_q1_ kg191_7_5_q1_ w4_7_6_q1_ bw4_7_6_q1_ T_ hG_724 (7 : Int32) (0 : Int32) (g.fcts [9, 8, 7] rfl)) (cwV 2 hts (gV_ t_1203 t_1204 t_1205 t_191 t_1206) rfl rfl rfl (by decide +kernel) ⟨(Nat.le_of_ble_eq_true rfl), (Nat.le_of_ble_eq_true rfl)⟩) (pre3V g hK mq1_ kq1_ (by decide) (q := (RX7, TX7, 19)) rfl) rfl rfl hl.1 rfl (lv_room (Nat.le_of_ble_eq_true rfl)) dX0_closeParts_130 ⟨(Nat.le_of_ble_eq_true rfl), (Nat.le_of_ble_eq_true rfl)⟩) g hK (by decide) (by decide) (fx' := [(0, 11, a0_, .int y_722), (0, 10, a0_, .int x_717), (0, 8, a0_, .int y_426), (8, 6, q0_, .int 1201), (8, 8, q0_, .int x_407), (0, 4, a0_, .ref a_404), (0, 12, a0_, .int 0), (7, 5, q1_, .ref g191_7_5_q1_), (7, 4, q1_, .ref g191_7_4_q1_), (0, 5, a0_, .ref g76_0_5_a0_), (0, 3, a0_, .ref g76_0_3_a0_), (0, 0, a0_, .ref q0_), (0, 2, a0_, .ref q1_)]) rfl (fun fr_726 H locs hp hMr_726 g => ?_)
                                      obtain ⟨hG_727, x_728, h_729, hF_730⟩ := hp
                                      have g := g.more hF_730
                                      refine lv_goto (tgt := 191) hx hb dX0_closeParts_133 (by decide) ?_
                                      refine lv_iconst (v := 1) hx hb dX0_closeParts_191 (by decide) ?_
                                      refine lv_iload hx hb dX0_closeParts_192 (lv_at hl 2 rfl) ?_
                                      refine lv_if_eq (tgt := 202) hx hb dX0_closeParts_194 (by decide) (fun c_ => absurd c_ (by decide)) (fun c_ => ?_)
                                      refine lv_iload hx hb dX0_closeParts_197 (lv_at hl 0 rfl) ?_
                                      refine lv_goto (tgt := 211) hx hb dX0_closeParts_199 (by decide) ?_
                                      refine lv_iadd hx hb dX0_closeParts_211 ?_
                                      refine lv_topi (fun y_731 ey_731 => ?_)
                                      refine lv_istore (lv' := [(6, .int y_731), (2, .int 1), (5, .int 1), (4, .int x_428), (3, .int v4_3), (0, .ref a0_), (1, .int x1_)]) hx hb dX0_closeParts_212 hl (by decide) rfl (fun ls hl => ?_)
                                      refine lv_aload_n hx hb dX0_closeParts_214 rfl (lv_at hl 5 rfl) ?_
                                      refine lv_iload hx hb dX0_closeParts_215 (lv_at hl 0 rfl) ?_
                                      have go_ := g
                                      refine g_callv (va_runV (As := [.int y_731]) (rest := []) ⟨hx, hb, hml, hown, hts⟩ (r_X0_addWhole l dC dI L kd tys fr_726 H.size g.2.2.2.1 a0_ ma0_ ka0_ y_731) (cwV 1 hts (gV_ t_1211 t_1213 t_17 t_190 t_1214) rfl rfl rfl (by decide +kernel) ⟨(Nat.le_of_ble_eq_true rfl), (Nat.le_of_ble_eq_true rfl)⟩) (pre3V g hK ma0_ ka0_ (by decide) (q := (RX0, TX0, 14)) rfl) rfl rfl hl.1 rfl (lv_room (Nat.le_of_ble_eq_true rfl)) dX0_closeParts_217 ⟨(Nat.le_of_ble_eq_true rfl), (Nat.le_of_ble_eq_true rfl)⟩) g hK (by decide) (by decide) (fx' := [(7, 6, q1_, .int x_728), (0, 11, a0_, .int y_722), (0, 8, a0_, .int y_426), (8, 6, q0_, .int 1201), (8, 8, q0_, .int x_407), (0, 4, a0_, .ref a_404), (7, 5, q1_, .ref g191_7_5_q1_), (7, 4, q1_, .ref g191_7_4_q1_), (0, 5, a0_, .ref g76_0_5_a0_), (0, 3, a0_, .ref g76_0_3_a0_), (0, 0, a0_, .ref q0_), (0, 2, a0_, .ref q1_)]) rfl (fun fr_732 H locs hp hMr_732 g => ?_)
                                      obtain ⟨x_733, h_734, hF_735⟩ := hp
                                      have hG_736 := dOK.frame hMr_732 go_.2.2.2.1 mq1_ kq1_ (by decide) (by decide) hG_727
                                      have g := g.more hF_735
                                      refine lv_iload hx hb dX0_closeParts_220 (lv_at hl 0 rfl) ?_
                                      refine lv_bipush (v := 12) hx hb dX0_closeParts_222 (by decide) ?_
                                      refine lv_icmp_le (tgt := 245) hx hb dX0_closeParts_224 (by decide) (fun c_737 => ?_) (fun c_737 => ?_)
                                      · have fc_737 := le_f c_737
                                        have b_738 : bd (-2147483648) 12 y_731 := leL fc_737 (bdT y_731) kb_12 (by decide)
                                        obtain ⟨y_739, ey_739⟩ : ∃ z : Int32, z = v4_3 + 1 := ⟨_, rfl⟩
                                        refine lv_iinc (v := y_739) (lv' := [(3, .int y_739), (6, .int y_731), (2, .int 1), (5, .int 1), (4, .int x_428), (0, .ref a0_), (1, .int x1_)]) hx hb dX0_closeParts_245 hl (k := 4) rfl (by rw [ey_739]; rfl) (by decide) rfl (fun ls hl => ?_)
                                        have ty_739 := add_bd ey_739 b_419 kb_1 (by decide)
                                        have b_740 : bd 2 300 y_739 := add_rg ty_739 b_419 kb_1 (by decide)
                                        refine lv_goto (tgt := 4) hx hb dX0_closeParts_248 (by decide) ?_
                                        have hl9 := lv_sub hl [0, 1, 2, 3, 4, 5, 6] (by rfl : lv_pick [(3, .int y_739), (6, .int y_731), (2, .int 1), (5, .int 1), (4, .int x_428), (0, .ref a0_), (1, .int x1_)] [0, 1, 2, 3, 4, 5, 6] = [(3, .int y_739), (6, .int y_731), (2, .int 1), (5, .int 1), (4, .int x_428), (0, .ref a0_), (1, .int x1_)])
                                        have g9 := g.sub (fx' := [(8, 6, q0_, .int 1201), (8, 8, q0_, .int x_407), (0, 4, a0_, .ref a_404), (0, 12, a0_, .int 0), (0, 10, a0_, .int x_733), (7, 6, q1_, .int x_728), (7, 5, q1_, .ref g191_7_5_q1_), (7, 4, q1_, .ref g191_7_4_q1_), (0, 8, a0_, .int y_426), (0, 5, a0_, .ref g76_0_5_a0_), (0, 3, a0_, .ref g76_0_3_a0_), (0, 0, a0_, .ref q0_), (0, 2, a0_, .ref q1_)]) [5, 6, 7, 0, 1, 2, 8, 9, 4, 10, 11, 12, 13] rfl
                                        exact ih4  y_739 y_731 1 1 x_428 x_733 x_728 y_426 (bd_sub b_740 (by decide)) (bd_sub kb_1 (by decide)) (bd_sub kb_1 (by decide)) h_734 h_729 (bd_sub b_427 (by decide)) (by have h9_0 := b_427; unfold bd at h9_0; have h9_1 := b_712; unfold bd at h9_1; have h9_2 := b_738; unfold bd at h9_2; have h9_3 := b_740; unfold bd at h9_3; have h9_4 := bdT v4_4; unfold bd at h9_4; have h9_5 := bdT v4_6; unfold bd at h9_5; have h9_6 := bv4_2; unfold bd at h9_6; have h9_7 := bv4_3; unfold bd at h9_7; have h9_8 := bv4_5; unfold bd at h9_8; have h9_9 := bw4_0_10_a0_; unfold bd at h9_9; have h9_10 := bw4_0_8_a0_; unfold bd at h9_10; have h9_11 := bw4_7_6_q1_; unfold bd at h9_11; have h9_12 := h_729; unfold bd at h9_12; have h9_13 := h_734; unfold bd at h9_13; have h9_14 := kb_0; unfold bd at h9_14; have h9_15 := kb_1; unfold bd at h9_15; have h9_16 := kb_12; unfold bd at h9_16; have h9_17 := kb_300; unfold bd at h9_17; have h9_18 := kb_6; unfold bd at h9_18; have h9_19 := kb_7; unfold bd at h9_19; omega) _ _ _ _ g9 hG_736 hl9
                                      · have fc_737 := nle_f c_737
                                        have b_741 : bd 13 2147483647 y_731 := ltR fc_737 kb_12 (bdT y_731) (by decide)
                                        refine lv_aload_n hx hb dX0_closeParts_227 rfl (lv_at hl 5 rfl) ?_
                                        refine g_getk (C := RX0) (T := TX0) (N := 14) hx hb hts (mc_ inX0) hown hK g rfl 0 (by decide) rfl (hts _ (List.mem_cons_of_mem _ t_373)) (fun _ h9 => h9) 12 rfl dX0_closeParts_228 ?_
                                        refine lv_bipush (v := 7) hx hb dX0_closeParts_231 (by decide) ?_
                                        refine lv_aload_n hx hb dX0_closeParts_233 rfl (lv_at hl 5 rfl) ?_
                                        refine g_getk (C := RX0) (T := TX0) (N := 14) hx hb hts (mc_ inX0) hown hK g rfl 4 (by decide) rfl (hts _ (List.mem_cons_of_mem _ t_377)) (fun _ h9 => h9) 7 rfl dX0_closeParts_234 ?_
                                        refine lv_aload_n hx hb dX0_closeParts_237 rfl (lv_at hl 5 rfl) ?_
                                        refine g_getk (C := RX0) (T := TX0) (N := 14) hx hb hts (mc_ inX0) hown hK g rfl 8 (by decide) rfl (hts _ (List.mem_cons_of_mem _ t_381)) (fun _ h9 => h9) 4 rfl dX0_closeParts_238 ?_
                                        refine g_iald hx hb hK g ma_404 ka_404 (by decide) rfl (in_bd b_427 (by decide)) dX0_closeParts_241 (fun x_742 bx_742 cx_742 => ?_)
                                        have go_ := g
                                        refine g_callv (va_runV (As := [.int 7, .int x_742]) (rest := []) ⟨hx, hb, hml, hown, hts⟩ (r_X8_fail_2 l dC dI L kd tys fr_732 H.size g.2.2.2.1 q0_ mq0_ kq0_ 7 (bd_sub kb_7 (by decide)) x_742 x_407 h_408 (g.fcts [6] rfl)) (cwV 2 hts (gV_ t_1215 t_1107 t_1108 t_184 t_1109) rfl rfl rfl (by decide +kernel) ⟨(Nat.le_of_ble_eq_true rfl), (Nat.le_of_ble_eq_true rfl)⟩) (pre3V g hK mq0_ kq0_ (by decide) (q := (RX8, TX8, 10)) rfl) rfl rfl hl.1 rfl (lv_room (Nat.le_of_ble_eq_true rfl)) dX0_closeParts_242 ⟨(Nat.le_of_ble_eq_true rfl), (Nat.le_of_ble_eq_true rfl)⟩) g hK (by decide) (by decide) (fx' := [(0, 12, a0_, .int 0), (0, 10, a0_, .int x_733), (7, 6, q1_, .int x_728), (0, 11, a0_, .int y_722), (0, 8, a0_, .int y_426), (8, 8, q0_, .int x_407), (0, 4, a0_, .ref a_404), (7, 5, q1_, .ref g191_7_5_q1_), (7, 4, q1_, .ref g191_7_4_q1_), (0, 5, a0_, .ref g76_0_5_a0_), (0, 3, a0_, .ref g76_0_3_a0_), (0, 0, a0_, .ref q0_), (0, 2, a0_, .ref q1_)]) rfl (fun fr_743 H locs hp hMr_743 g => ?_)
                                        have hF_744 := hp
                                        have hG_745 := dOK.frame hMr_743 go_.2.2.2.1 mq1_ kq1_ (by decide) (by decide) hG_736
                                        have g := g.more hF_744
                                        obtain ⟨y_746, ey_746⟩ : ∃ z : Int32, z = v4_3 + 1 := ⟨_, rfl⟩
                                        refine lv_iinc (v := y_746) (lv' := [(3, .int y_746), (6, .int y_731), (2, .int 1), (5, .int 1), (4, .int x_428), (0, .ref a0_), (1, .int x1_)]) hx hb dX0_closeParts_245 hl (k := 4) rfl (by rw [ey_746]; rfl) (by decide) rfl (fun ls hl => ?_)
                                        have ty_746 := add_bd ey_746 b_419 kb_1 (by decide)
                                        have b_747 : bd 2 300 y_746 := add_rg ty_746 b_419 kb_1 (by decide)
                                        refine lv_goto (tgt := 4) hx hb dX0_closeParts_248 (by decide) ?_
                                        have hl9 := lv_sub hl [0, 1, 2, 3, 4, 5, 6] (by rfl : lv_pick [(3, .int y_746), (6, .int y_731), (2, .int 1), (5, .int 1), (4, .int x_428), (0, .ref a0_), (1, .int x1_)] [0, 1, 2, 3, 4, 5, 6] = [(3, .int y_746), (6, .int y_731), (2, .int 1), (5, .int 1), (4, .int x_428), (0, .ref a0_), (1, .int x1_)])
                                        have g9 := g.sub (fx' := [(8, 6, q0_, .int 1201), (8, 8, q0_, .int x_407), (0, 4, a0_, .ref a_404), (0, 12, a0_, .int 0), (0, 10, a0_, .int x_733), (7, 6, q1_, .int x_728), (7, 5, q1_, .ref g191_7_5_q1_), (7, 4, q1_, .ref g191_7_4_q1_), (0, 8, a0_, .int y_426), (0, 5, a0_, .ref g76_0_5_a0_), (0, 3, a0_, .ref g76_0_3_a0_), (0, 0, a0_, .ref q0_), (0, 2, a0_, .ref q1_)]) [0, 6, 7, 1, 2, 3, 8, 9, 5, 10, 11, 12, 13] rfl
                                        exact ih4  y_746 y_731 1 1 x_428 x_733 x_728 y_426 (bd_sub b_747 (by decide)) (bd_sub kb_1 (by decide)) (bd_sub kb_1 (by decide)) h_734 h_729 (bd_sub b_427 (by decide)) (by have h9_0 := b_427; unfold bd at h9_0; have h9_1 := b_712; unfold bd at h9_1; have h9_2 := b_741; unfold bd at h9_2; have h9_3 := b_747; unfold bd at h9_3; have h9_4 := bdT v4_4; unfold bd at h9_4; have h9_5 := bdT v4_6; unfold bd at h9_5; have h9_6 := bv4_2; unfold bd at h9_6; have h9_7 := bv4_3; unfold bd at h9_7; have h9_8 := bv4_5; unfold bd at h9_8; have h9_9 := bw4_0_10_a0_; unfold bd at h9_9; have h9_10 := bw4_0_8_a0_; unfold bd at h9_10; have h9_11 := bw4_7_6_q1_; unfold bd at h9_11; have h9_12 := h_729; unfold bd at h9_12; have h9_13 := h_734; unfold bd at h9_13; have h9_14 := kb_0; unfold bd at h9_14; have h9_15 := kb_1; unfold bd at h9_15; have h9_16 := kb_12; unfold bd at h9_16; have h9_17 := kb_300; unfold bd at h9_17; have h9_18 := kb_6; unfold bd at h9_18; have h9_19 := kb_7; unfold bd at h9_19; omega) _ _ _ _ g9 hG_745 hl9
                                    · have fc_725 := eq_f c_725
                                      exact absurd fc_725 fc_429
                      have hl9 := lv_sub hl [0, 1, 2, 3, 4, 5, 6] (by rfl : lv_pick [(3, .int y_414), (6, .int y_390), (2, .int j76_2), (5, .int j76_5), (4, .int j76_4), (0, .ref a0_), (1, .int x1_)] [0, 1, 2, 3, 4, 5, 6] = [(3, .int y_414), (6, .int y_390), (2, .int j76_2), (5, .int j76_5), (4, .int j76_4), (0, .ref a0_), (1, .int x1_)])
                      have g9 := g.sub (fx' := [(8, 6, q0_, .int 1201), (8, 8, q0_, .int x_407), (0, 4, a0_, .ref a_404), (0, 12, a0_, .int 0), (0, 10, a0_, .int x_392), (7, 6, q1_, .int g191_7_6_q1_), (7, 5, q1_, .ref g191_7_5_q1_), (7, 4, q1_, .ref g191_7_4_q1_), (0, 8, a0_, .int g191_0_8_a0_), (0, 5, a0_, .ref g76_0_5_a0_), (0, 3, a0_, .ref g76_0_3_a0_), (0, 0, a0_, .ref q0_), (0, 2, a0_, .ref q1_)]) [0, 1, 2, 3, 4, 5, 6, 7, 8, 9, 10, 11, 12] rfl
                      exact loop_416 (601) y_414 y_390 j76_2 j76_5 j76_4 x_392 g191_7_6_q1_ g191_0_8_a0_ b_415 (bd_sub b_17 (by decide)) (bd_sub b_389 (by decide)) h_393 bg191_7_6_q1_ bg191_0_8_a0_ (by have h9_0 := b_17; unfold bd at h9_0; have h9_1 := b_389; unfold bd at h9_1; have h9_2 := b_403; unfold bd at h9_2; have h9_3 := b_415; unfold bd at h9_3; have h9_4 := bdT j76_4; unfold bd at h9_4; have h9_5 := bg191_0_8_a0_; unfold bd at h9_5; have h9_6 := bg191_7_6_q1_; unfold bd at h9_6; have h9_7 := h_393; unfold bd at h9_7; have h9_8 := kb_0; unfold bd at h9_8; have h9_9 := kb_1; unfold bd at h9_9; have h9_10 := kb_12; unfold bd at h9_10; have h9_11 := kb_300; unfold bd at h9_11; have h9_12 := kb_7; unfold bd at h9_12; omega) _ _ _ _ g9 hG_412 hl9
                refine lv_aload_n hx hb dX0_closeParts_80 rfl (lv_at hl 4 rfl) ?_
                refine lv_dup hx hb dX0_closeParts_81 rfl ?_
                refine g_getk (C := RX0) (T := TX0) (N := 14) hx hb hts (mc_ inX0) hown hK g rfl 8 (by decide) rfl (hts _ (List.mem_cons_of_mem _ t_381)) (fun _ h9 => h9) 2 rfl dX0_closeParts_82 ?_
                refine lv_iconst (v := 1) hx hb dX0_closeParts_85 (by decide) ?_
                have kb_1 : bd 1 1 (1 : Int32) := ⟨by decide, by decide⟩
                refine lv_isub hx hb dX0_closeParts_86 ?_
                refine lv_topi (fun y_748 ey_748 => ?_)
                have ty_748 := sub_bd ey_748 b_11 kb_1 (by decide)
                have b_749 : bd 0 299 y_748 := sub_rg ty_748 b_11 kb_1 (by decide)
                have go_ := g
                refine g_putX (C := RX0) (T := TX0) (N := 14) hx hb hts (mc_ inX0) tyX0 tyX0_ok nmX0 hown hK g ma0_ ka0_ (by decide) rfl 8 (by decide) (hts _ (List.mem_cons_of_mem _ t_381)) (fun _ h9 => h9) rfl rfl (okV_i (bd_sub b_749 (by decide))) rfl rfl (by decide) (Or.inr (Or.inl (by decide))) (fx' := [(0, 5, a0_, .ref g76_0_5_a0_), (0, 3, a0_, .ref g76_0_3_a0_), (0, 0, a0_, .ref q0_), (0, 2, a0_, .ref q1_), (8, 8, q0_, .int y0_)]) rfl dX0_closeParts_87 (fun f H locs hM_750 u_757 g => ?_)
                have hG_751 := cOK.frame hM_750 go_.2.2.2.1 mq1_ kq1_ (by decide) (by decide) hJ76_c_q1_
                have hG_752 := dOK.frame hM_750 go_.2.2.2.1 mq1_ kq1_ (by decide) (by decide) hJ76_d_q1_
                have hG_753 := jS.frame hM_750 go_.2.2.2.1 mq1_ kq1_ (by decide) (by decide) hJ76_s_q1_
                have hG_754 := vP.frame hM_750 go_.2.2.2.1 mg76_0_5_a0_ kg76_0_5_a0_ (by decide) (by decide) hv76
                have hG_755 := kQj.frame hM_750 go_.2.2.2.1 mq1_ kq1_ (by decide) (by decide) hq76
                have hi_756 := eJx.dec hJ76_i_a0_ (fx_at go_ (i := 2) rfl).2.2.2 (fx_at go_ (i := 4) rfl).2.2.2 mq1_ kq1_ u_757 (by have h9_0 := b_17; unfold bd at h9_0; have h9_1 := bj76_5; unfold bd at h9_1; have h9_2 := b_7; unfold bd at h9_2; have h9_3 := b_4; unfold bd at h9_3; have h9_4 := b_11; unfold bd at h9_4; have h9_5 := by0_; unfold bd at h9_5; have h9_6 := b_749; unfold bd at h9_6; have h8_0 := kb_0; unfold bd at h8_0; have h8_1 := kb_1; unfold bd at h8_1; have h8_2 := kb_300; unfold bd at h8_2; omega) go_.2.2.2.1 ma0_ ka0_
                refine lv_aload_n hx hb dX0_closeParts_90 rfl (lv_at hl 4 rfl) ?_
                have go_ := g
                refine g_calli (va_runV (As := []) (rest := []) ⟨hx, hb, hml, hown, hts⟩ (r_X0_takeHeight l dC dI L kd tys f H.size g.2.2.2.1 a0_ ma0_ ka0_) (cwV 0 hts (gV_ t_1199 t_1201 t_16 t_190 t_1202) rfl rfl rfl (by decide +kernel) ⟨(Nat.le_of_ble_eq_true rfl), (Nat.le_of_ble_eq_true rfl)⟩) (pre3V g hK ma0_ ka0_ (by decide) (q := (RX0, TX0, 14)) rfl) rfl rfl hl.1 rfl (lv_room (Nat.le_of_ble_eq_true rfl)) dX0_closeParts_91 ⟨(Nat.le_of_ble_eq_true rfl), (Nat.le_of_ble_eq_true rfl)⟩) g hK (by decide) (by decide) (fx' := [(0, 8, a0_, .int y_748), (0, 5, a0_, .ref g76_0_5_a0_), (0, 3, a0_, .ref g76_0_3_a0_), (0, 0, a0_, .ref q0_), (0, 2, a0_, .ref q1_), (8, 8, q0_, .int y0_)]) rfl (fun r_758 fr_758 H locs hp hMr_758 g => ?_)
                obtain ⟨x_759, h_760, hF_761⟩ := hp
                have hG_762 := cOK.frame hMr_758 go_.2.2.2.1 mq1_ kq1_ (by decide) (by decide) hG_751
                have hG_763 := dOK.frame hMr_758 go_.2.2.2.1 mq1_ kq1_ (by decide) (by decide) hG_752
                have hG_764 := jS.frame hMr_758 go_.2.2.2.1 mq1_ kq1_ (by decide) (by decide) hG_753
                have hG_765 := vP.frame hMr_758 go_.2.2.2.1 mg76_0_5_a0_ kg76_0_5_a0_ (by decide) (by decide) hG_754
                have hG_766 := kQj.frame hMr_758 go_.2.2.2.1 mq1_ kq1_ (by decide) (by decide) hG_755
                have hG_767 := eJx.frame hMr_758 go_.2.2.2.1 ma0_ ka0_ (by decide) (by decide) hi_756
                have g := g.more hF_761
                refine lv_istore (lv' := [(6, .int r_758), (2, .int j76_2), (5, .int j76_5), (4, .int j76_4), (3, .int v4_3), (0, .ref a0_), (1, .int x1_)]) hx hb dX0_closeParts_94 hl (by decide) rfl (fun ls hl => ?_)
                refine lv_iload hx hb dX0_closeParts_96 (lv_at hl 2 rfl) ?_
                refine lv_if_eq (tgt := 136) hx hb dX0_closeParts_98 (by decide) (fun c_768 => ?_) (fun c_768 => ?_)
                · have fc_768 := eq_f c_768
                  have b_769 : bd 0 0 j76_5 := eqX fc_768 bj76_5 kb_0 (by decide)
                  refine lv_iload hx hb dX0_closeParts_136 (lv_at hl 3 rfl) ?_
                  refine lv_sipush (v := 205) hx hb dX0_closeParts_138 (by decide) ?_
                  have kb_205 : bd 205 205 (205 : Int32) := ⟨by decide, by decide⟩
                  refine lv_icmp_eq (tgt := 152) hx hb dX0_closeParts_141 (by decide) (fun c_770 => ?_) (fun c_770 => ?_)
                  · have fc_770 := eq_f c_770
                    have b_771 : bd 205 205 j76_4 := eqX fc_770 (bdT j76_4) kb_205 (by decide)
                    refine lv_aload_n hx hb dX0_closeParts_152 rfl (lv_at hl 5 rfl) ?_
                    refine g_getk (C := RX0) (T := TX0) (N := 14) hx hb hts (mc_ inX0) hown hK g rfl 2 (by decide) rfl (hts _ (List.mem_cons_of_mem _ t_375)) (fun _ h9 => h9) 5 rfl dX0_closeParts_153 ?_
                    refine lv_bipush (v := 8) hx hb dX0_closeParts_156 (by decide) ?_
                    refine lv_iconst (v := 0) hx hb dX0_closeParts_158 (by decide) ?_
                    obtain ⟨a_772, ma_772, ka_772, g⟩ := g_factr g mq1_ kq1_ (by decide) 4 rfl
                    obtain ⟨a_773, ma_773, ka_773, g⟩ := g_factr g mq1_ kq1_ (by decide) 5 rfl
                    obtain ⟨x_774, bx_774, g⟩ := g_facti g mq1_ kq1_ (by decide) 6 rfl
                    have kb_8 : bd 8 8 (8 : Int32) := ⟨by decide, by decide⟩
                    have go_ := g
                    refine g_callv (va_runV (As := [.int 8, .int 0]) (rest := []) ⟨hx, hb, hml, hown, hts⟩ (r_X7_emitN l dC dI L kd tys fr_758 H.size g.2.2.2.1 q1_ mq1_ kq1_ a_772 ma_772 ka_772 a_773 ma_773 ka_773 x_774 bx_774 T_ hG_763 (8 : Int32) (0 : Int32) (fun j9 => jOK fr_758 q1_ j9) hG_762 (fun _ h9 => h9) ⟨(fun h9 => ⟨(by have h9_0 := b_17; unfold bd at h9_0; have h9_1 := b_771; unfold bd at h9_1; have h9_2 := b_769; unfold bd at h9_2; have h9_3 := b_7; unfold bd at h9_3; have h9_4 := b_4; unfold bd at h9_4; have h9_5 := h_760; unfold bd at h9_5; have h9_6 := bx_774; unfold bd at h9_6; have h9_7 := b_11; unfold bd at h9_7; have h9_8 := by0_; unfold bd at h9_8; have h9_9 := b_749; unfold bd at h9_9; have h8_0 := kb_0; unfold bd at h8_0; have h8_1 := kb_1; unfold bd at h8_1; have h8_2 := kb_205; unfold bd at h8_2; have h8_3 := kb_300; unfold bd at h8_3; have h8_4 := kb_8; unfold bd at h8_4; omega), (by have h9_0 := b_17; unfold bd at h9_0; have h9_1 := b_771; unfold bd at h9_1; have h9_2 := b_769; unfold bd at h9_2; have h9_3 := b_7; unfold bd at h9_3; have h9_4 := b_4; unfold bd at h9_4; have h9_5 := h_760; unfold bd at h9_5; have h9_6 := bx_774; unfold bd at h9_6; have h9_7 := b_11; unfold bd at h9_7; have h9_8 := by0_; unfold bd at h9_8; have h9_9 := b_749; unfold bd at h9_9; have h8_0 := kb_0; unfold bd at h8_0; have h8_1 := kb_1; unfold bd at h8_1; have h8_2 := kb_205; unfold bd at h8_2; have h8_3 := kb_300; unfold bd at h8_3; have h8_4 := kb_8; unfold bd at h8_4; omega)⟩), (fun h9 => ⟨(by have h9_0 := b_17; unfold bd at h9_0; have h9_1 := b_771; unfold bd at h9_1; have h9_2 := b_769; unfold bd at h9_2; have h9_3 := b_7; unfold bd at h9_3; have h9_4 := b_4; unfold bd at h9_4; have h9_5 := h_760; unfold bd at h9_5; have h9_6 := bx_774; unfold bd at h9_6; have h9_7 := b_11; unfold bd at h9_7; have h9_8 := by0_; unfold bd at h9_8; have h9_9 := b_749; unfold bd at h9_9; have h8_0 := kb_0; unfold bd at h8_0; have h8_1 := kb_1; unfold bd at h8_1; have h8_2 := kb_205; unfold bd at h8_2; have h8_3 := kb_300; unfold bd at h8_3; have h8_4 := kb_8; unfold bd at h8_4; omega), (by have h9_0 := b_17; unfold bd at h9_0; have h9_1 := b_771; unfold bd at h9_1; have h9_2 := b_769; unfold bd at h9_2; have h9_3 := b_7; unfold bd at h9_3; have h9_4 := b_4; unfold bd at h9_4; have h9_5 := h_760; unfold bd at h9_5; have h9_6 := bx_774; unfold bd at h9_6; have h9_7 := b_11; unfold bd at h9_7; have h9_8 := by0_; unfold bd at h9_8; have h9_9 := b_749; unfold bd at h9_9; have h8_0 := kb_0; unfold bd at h8_0; have h8_1 := kb_1; unfold bd at h8_1; have h8_2 := kb_205; unfold bd at h8_2; have h8_3 := kb_300; unfold bd at h8_3; have h8_4 := kb_8; unfold bd at h8_4; omega)⟩), (fun h9 => ⟨(by have h9_0 := b_17; unfold bd at h9_0; have h9_1 := b_771; unfold bd at h9_1; have h9_2 := b_769; unfold bd at h9_2; have h9_3 := b_7; unfold bd at h9_3; have h9_4 := b_4; unfold bd at h9_4; have h9_5 := h_760; unfold bd at h9_5; have h9_6 := bx_774; unfold bd at h9_6; have h9_7 := b_11; unfold bd at h9_7; have h9_8 := by0_; unfold bd at h9_8; have h9_9 := b_749; unfold bd at h9_9; have h8_0 := kb_0; unfold bd at h8_0; have h8_1 := kb_1; unfold bd at h8_1; have h8_2 := kb_205; unfold bd at h8_2; have h8_3 := kb_300; unfold bd at h8_3; have h8_4 := kb_8; unfold bd at h8_4; omega), (by have h9_0 := b_17; unfold bd at h9_0; have h9_1 := b_771; unfold bd at h9_1; have h9_2 := b_769; unfold bd at h9_2; have h9_3 := b_7; unfold bd at h9_3; have h9_4 := b_4; unfold bd at h9_4; have h9_5 := h_760; unfold bd at h9_5; have h9_6 := bx_774; unfold bd at h9_6; have h9_7 := b_11; unfold bd at h9_7; have h9_8 := by0_; unfold bd at h9_8; have h9_9 := b_749; unfold bd at h9_9; have h8_0 := kb_0; unfold bd at h8_0; have h8_1 := kb_1; unfold bd at h8_1; have h8_2 := kb_205; unfold bd at h8_2; have h8_3 := kb_300; unfold bd at h8_3; have h8_4 := kb_8; unfold bd at h8_4; omega)⟩)⟩ (g.fcts [2, 1, 0] rfl)) (cwV 2 hts (gV_ t_1203 t_1204 t_1205 t_191 t_1206) rfl rfl rfl (by decide +kernel) ⟨(Nat.le_of_ble_eq_true rfl), (Nat.le_of_ble_eq_true rfl)⟩) (pre3V g hK mq1_ kq1_ (by decide) (q := (RX7, TX7, 19)) rfl) rfl rfl hl.1 rfl (lv_room (Nat.le_of_ble_eq_true rfl)) dX0_closeParts_159 ⟨(Nat.le_of_ble_eq_true rfl), (Nat.le_of_ble_eq_true rfl)⟩) g hK (by decide) (by decide) (fx' := [(7, 5, q1_, .ref a_773), (7, 4, q1_, .ref a_772), (0, 10, a0_, .int x_759), (0, 8, a0_, .int y_748), (0, 5, a0_, .ref g76_0_5_a0_), (0, 3, a0_, .ref g76_0_3_a0_), (0, 0, a0_, .ref q0_), (0, 2, a0_, .ref q1_), (8, 8, q0_, .int y0_)]) rfl (fun fr_775 H locs hp hMr_775 g => ?_)
                    obtain ⟨hG_776, hG_777, hG_778, hx_779, x_780, h_781, hF_782⟩ := hp
                    have hG_783 := vP.frame hMr_775 go_.2.2.2.1 mg76_0_5_a0_ kg76_0_5_a0_ (by decide) (by decide) hG_765
                    have g := g.more hF_782
                    have hs_784 := jS.mv hG_764 hG_778
                    have hq_785 := kQj.mv hG_766 hG_778
                    have hG_786 := eJx.mv hG_767 hMr_775 go_.2.2.2.1 ma0_ ka0_ (by decide) (by decide) (((hMr_775 a0_ ma0_).1 2 (by rw [ka0_]; decide) (by rw [ka0_]; decide)).symm.trans (fx_at g (i := 8) rfl).2.2.2) hG_778
                    refine lv_aload_n hx hb dX0_closeParts_162 rfl (lv_at hl 5 rfl) ?_
                    refine g_getk (C := RX0) (T := TX0) (N := 14) hx hb hts (mc_ inX0) hown hK g rfl 2 (by decide) rfl (hts _ (List.mem_cons_of_mem _ t_375)) (fun _ h9 => h9) 8 rfl dX0_closeParts_163 ?_
                    refine lv_aload_n hx hb dX0_closeParts_166 rfl (lv_at hl 5 rfl) ?_
                    refine g_getk (C := RX0) (T := TX0) (N := 14) hx hb hts (mc_ inX0) hown hK g rfl 5 (by decide) rfl (hts _ (List.mem_cons_of_mem _ t_378)) (fun _ h9 => h9) 5 rfl dX0_closeParts_167 ?_
                    refine lv_aload_n hx hb dX0_closeParts_170 rfl (lv_at hl 5 rfl) ?_
                    refine g_getk (C := RX0) (T := TX0) (N := 14) hx hb hts (mc_ inX0) hown hK g rfl 8 (by decide) rfl (hts _ (List.mem_cons_of_mem _ t_381)) (fun _ h9 => h9) 4 rfl dX0_closeParts_171 ?_
                    refine g_iald hx hb hK g mg76_0_5_a0_ kg76_0_5_a0_ (by decide) rfl (in_bd b_749 (by decide)) dX0_closeParts_174 (fun x_787 bx_787 cx_787 => ?_)
                    have hy_788 : x_787 = tg76 := cx_787.trans (hG_783 _ (by have h9 := tnZ (i := y_748) (by have h9_0 := b_17; unfold bd at h9_0; have h9_1 := b_771; unfold bd at h9_1; have h9_2 := b_769; unfold bd at h9_2; have h9_3 := b_7; unfold bd at h9_3; have h9_4 := b_4; unfold bd at h9_4; have h9_5 := h_760; unfold bd at h9_5; have h9_6 := bx_774; unfold bd at h9_6; have h9_7 := h_781; unfold bd at h9_7; have h9_8 := b_11; unfold bd at h9_8; have h9_9 := by0_; unfold bd at h9_9; have h9_10 := b_749; unfold bd at h9_10; have h8_0 := kb_0; unfold bd at h8_0; have h8_1 := kb_1; unfold bd at h8_1; have h8_2 := kb_205; unfold bd at h8_2; have h8_3 := kb_300; unfold bd at h8_3; have h8_4 := kb_8; unfold bd at h8_4; omega); have h9_0 := b_17; unfold bd at h9_0; have h9_1 := b_771; unfold bd at h9_1; have h9_2 := b_769; unfold bd at h9_2; have h9_3 := b_7; unfold bd at h9_3; have h9_4 := b_4; unfold bd at h9_4; have h9_5 := h_760; unfold bd at h9_5; have h9_6 := bx_774; unfold bd at h9_6; have h9_7 := h_781; unfold bd at h9_7; have h9_8 := b_11; unfold bd at h9_8; have h9_9 := by0_; unfold bd at h9_9; have h9_10 := b_749; unfold bd at h9_10; have h8_0 := kb_0; unfold bd at h8_0; have h8_1 := kb_1; unfold bd at h8_1; have h8_2 := kb_205; unfold bd at h8_2; have h8_3 := kb_300; unfold bd at h8_3; have h8_4 := kb_8; unfold bd at h8_4; omega))
                    have hj_789 : jOK fr_775 q1_ x_787 := by rw [hy_788]; exact hq_785.1 (by have h9_0 := b_17; unfold bd at h9_0; have h9_1 := b_771; unfold bd at h9_1; have h9_2 := b_769; unfold bd at h9_2; have h9_3 := b_7; unfold bd at h9_3; have h9_4 := b_4; unfold bd at h9_4; have h9_5 := h_760; unfold bd at h9_5; have h9_6 := bx_774; unfold bd at h9_6; have h9_7 := h_781; unfold bd at h9_7; have h9_8 := b_11; unfold bd at h9_8; have h9_9 := by0_; unfold bd at h9_9; have h9_10 := b_749; unfold bd at h9_10; have h8_0 := kb_0; unfold bd at h8_0; have h8_1 := kb_1; unfold bd at h8_1; have h8_2 := kb_205; unfold bd at h8_2; have h8_3 := kb_300; unfold bd at h8_3; have h8_4 := kb_8; unfold bd at h8_4; omega)
                    have go_ := g
                    refine g_callv (va_runV (As := [.int x_787]) (rest := []) ⟨hx, hb, hml, hown, hts⟩ (r_X7_leadHereN l dC dI L kd tys fr_775 H.size g.2.2.2.1 q1_ mq1_ kq1_ a_772 ma_772 ka_772 a_773 ma_773 ka_773 x_780 h_781 T_ hG_776 x_787 (fun j9 => jOK fr_775 q1_ j9) hG_777 (fun _ h9 => h9) hj_789 (g.fcts [2, 1, 0] rfl)) (cwV 1 hts (gV_ t_1207 t_1208 t_1209 t_191 t_1210) rfl rfl rfl (by decide +kernel) ⟨(Nat.le_of_ble_eq_true rfl), (Nat.le_of_ble_eq_true rfl)⟩) (pre3V g hK mq1_ kq1_ (by decide) (q := (RX7, TX7, 19)) rfl) rfl rfl hl.1 rfl (lv_room (Nat.le_of_ble_eq_true rfl)) dX0_closeParts_175 ⟨(Nat.le_of_ble_eq_true rfl), (Nat.le_of_ble_eq_true rfl)⟩) g hK (by decide) (by decide) (fx' := [(7, 6, q1_, .int x_780), (7, 5, q1_, .ref a_773), (7, 4, q1_, .ref a_772), (0, 10, a0_, .int x_759), (0, 8, a0_, .int y_748), (0, 5, a0_, .ref g76_0_5_a0_), (0, 3, a0_, .ref g76_0_3_a0_), (0, 0, a0_, .ref q0_), (0, 2, a0_, .ref q1_), (8, 8, q0_, .int y0_)]) rfl (fun fr_790 H locs hp hMr_790 g => ?_)
                    obtain ⟨hG_791, hG_792, hG_793, x_794, h_795, hF_796⟩ := hp
                    have hG_797 := vP.frame hMr_790 go_.2.2.2.1 mg76_0_5_a0_ kg76_0_5_a0_ (by decide) (by decide) hG_783
                    have hG_798 := kQj.frame hMr_790 go_.2.2.2.1 mq1_ kq1_ (by decide) (by decide) hq_785
                    have hG_799 := eJx.frame hMr_790 go_.2.2.2.1 ma0_ ka0_ (by decide) (by decide) hG_786
                    have hG_800 := jOK.frame hMr_790 go_.2.2.2.1 mq1_ kq1_ (by decide) (by decide) hj_789
                    have g := g.more hF_796
                    have e_801 := fx_same g 1 0 rfl rfl
                    have g := g.sub (fx' := [(7, 6, q1_, .int x_780), (7, 5, q1_, .ref a_773), (7, 4, q1_, .ref a_772), (0, 10, a0_, .int x_759), (0, 8, a0_, .int y_748), (0, 5, a0_, .ref g76_0_5_a0_), (0, 3, a0_, .ref g76_0_3_a0_), (0, 0, a0_, .ref q0_), (0, 2, a0_, .ref q1_), (8, 8, q0_, .int y0_)]) [1, 2, 3, 4, 5, 6, 7, 8, 9, 10] rfl
                    have hs_802 := jS.mv hs_784 hG_793
                    refine lv_goto (tgt := 191) hx hb dX0_closeParts_178 (by decide) ?_
                    have hl9 := lv_sub hl [0, 1, 2, 3, 4, 5, 6] (by rfl : lv_pick [(6, .int r_758), (2, .int j76_2), (5, .int j76_5), (4, .int j76_4), (3, .int v4_3), (0, .ref a0_), (1, .int x1_)] [0, 1, 2, 3, 4, 5, 6] = [(6, .int r_758), (2, .int j76_2), (5, .int j76_5), (4, .int j76_4), (3, .int v4_3), (0, .ref a0_), (1, .int x1_)])
                    have g9 := g.sub (fx' := [(7, 6, q1_, .int x_780), (7, 5, q1_, .ref a_773), (7, 4, q1_, .ref a_772), (0, 10, a0_, .int x_759), (0, 8, a0_, .int y_748), (0, 5, a0_, .ref g76_0_5_a0_), (0, 3, a0_, .ref g76_0_3_a0_), (0, 0, a0_, .ref q0_), (0, 2, a0_, .ref q1_), (8, 8, q0_, .int y0_)]) [0, 1, 2, 3, 4, 5, 6, 7, 8, 9] rfl
                    exact join_18 r_758 x_780 a_773 a_772 x_759 y_748 _ _ _ _ h_781 ma_773 ka_773 ma_772 ka_772 h_760 b_749 g9 hG_799 hG_792 hG_791 hs_802 hl9
                  · have fc_770 := neq_f c_770
                    refine lv_iload hx hb dX0_closeParts_144 (lv_at hl 3 rfl) ?_
                    refine lv_sipush (v := 206) hx hb dX0_closeParts_146 (by decide) ?_
                    have kb_206 : bd 206 206 (206 : Int32) := ⟨by decide, by decide⟩
                    refine lv_icmp_ne (tgt := 181) hx hb dX0_closeParts_149 (by decide) (fun c_803 => ?_) (fun c_803 => ?_)
                    · have fc_803 := neq_f c_803
                      refine lv_aload_n hx hb dX0_closeParts_181 rfl (lv_at hl 5 rfl) ?_
                      refine g_getk (C := RX0) (T := TX0) (N := 14) hx hb hts (mc_ inX0) hown hK g rfl 2 (by decide) rfl (hts _ (List.mem_cons_of_mem _ t_375)) (fun _ h9 => h9) 5 rfl dX0_closeParts_182 ?_
                      refine lv_iload hx hb dX0_closeParts_185 (lv_at hl 3 rfl) ?_
                      refine lv_iconst (v := 0) hx hb dX0_closeParts_187 (by decide) ?_
                      obtain ⟨a_804, ma_804, ka_804, g⟩ := g_factr g mq1_ kq1_ (by decide) 4 rfl
                      obtain ⟨a_805, ma_805, ka_805, g⟩ := g_factr g mq1_ kq1_ (by decide) 5 rfl
                      obtain ⟨x_806, bx_806, g⟩ := g_facti g mq1_ kq1_ (by decide) 6 rfl
                      have go_ := g
                      refine g_callv (va_runV (As := [.int j76_4, .int 0]) (rest := []) ⟨hx, hb, hml, hown, hts⟩ (r_X7_emitN l dC dI L kd tys fr_758 H.size g.2.2.2.1 q1_ mq1_ kq1_ a_804 ma_804 ka_804 a_805 ma_805 ka_805 x_806 bx_806 T_ hG_763 j76_4 (0 : Int32) (fun j9 => jOK fr_758 q1_ j9) hG_762 (fun _ h9 => h9) ⟨(fun h9 => ⟨(by have h9_0 := b_17; unfold bd at h9_0; have h9_1 := b_769; unfold bd at h9_1; have h9_2 := b_7; unfold bd at h9_2; have h9_3 := b_4; unfold bd at h9_3; have h9_4 := h_760; unfold bd at h9_4; have h9_5 := b_11; unfold bd at h9_5; have h9_6 := bx_806; unfold bd at h9_6; have h9_7 := by0_; unfold bd at h9_7; have h9_8 := b_749; unfold bd at h9_8; have h8_0 := kb_0; unfold bd at h8_0; have h8_1 := kb_1; unfold bd at h8_1; have h8_2 := kb_205; unfold bd at h8_2; have h8_3 := kb_206; unfold bd at h8_3; have h8_4 := kb_300; unfold bd at h8_4; omega), (by have h9_0 := b_17; unfold bd at h9_0; have h9_1 := b_769; unfold bd at h9_1; have h9_2 := b_7; unfold bd at h9_2; have h9_3 := b_4; unfold bd at h9_3; have h9_4 := h_760; unfold bd at h9_4; have h9_5 := b_11; unfold bd at h9_5; have h9_6 := bx_806; unfold bd at h9_6; have h9_7 := by0_; unfold bd at h9_7; have h9_8 := b_749; unfold bd at h9_8; have h8_0 := kb_0; unfold bd at h8_0; have h8_1 := kb_1; unfold bd at h8_1; have h8_2 := kb_205; unfold bd at h8_2; have h8_3 := kb_206; unfold bd at h8_3; have h8_4 := kb_300; unfold bd at h8_4; omega)⟩), (fun h9 => ⟨(by have h9_0 := b_17; unfold bd at h9_0; have h9_1 := b_769; unfold bd at h9_1; have h9_2 := b_7; unfold bd at h9_2; have h9_3 := b_4; unfold bd at h9_3; have h9_4 := h_760; unfold bd at h9_4; have h9_5 := b_11; unfold bd at h9_5; have h9_6 := bx_806; unfold bd at h9_6; have h9_7 := by0_; unfold bd at h9_7; have h9_8 := b_749; unfold bd at h9_8; have h8_0 := kb_0; unfold bd at h8_0; have h8_1 := kb_1; unfold bd at h8_1; have h8_2 := kb_205; unfold bd at h8_2; have h8_3 := kb_206; unfold bd at h8_3; have h8_4 := kb_300; unfold bd at h8_4; omega), (by have h9_0 := b_17; unfold bd at h9_0; have h9_1 := b_769; unfold bd at h9_1; have h9_2 := b_7; unfold bd at h9_2; have h9_3 := b_4; unfold bd at h9_3; have h9_4 := h_760; unfold bd at h9_4; have h9_5 := b_11; unfold bd at h9_5; have h9_6 := bx_806; unfold bd at h9_6; have h9_7 := by0_; unfold bd at h9_7; have h9_8 := b_749; unfold bd at h9_8; have h8_0 := kb_0; unfold bd at h8_0; have h8_1 := kb_1; unfold bd at h8_1; have h8_2 := kb_205; unfold bd at h8_2; have h8_3 := kb_206; unfold bd at h8_3; have h8_4 := kb_300; unfold bd at h8_4; omega)⟩), (fun h9 => ⟨(by have h9_0 := b_17; unfold bd at h9_0; have h9_1 := b_769; unfold bd at h9_1; have h9_2 := b_7; unfold bd at h9_2; have h9_3 := b_4; unfold bd at h9_3; have h9_4 := h_760; unfold bd at h9_4; have h9_5 := b_11; unfold bd at h9_5; have h9_6 := bx_806; unfold bd at h9_6; have h9_7 := by0_; unfold bd at h9_7; have h9_8 := b_749; unfold bd at h9_8; have h8_0 := kb_0; unfold bd at h8_0; have h8_1 := kb_1; unfold bd at h8_1; have h8_2 := kb_205; unfold bd at h8_2; have h8_3 := kb_206; unfold bd at h8_3; have h8_4 := kb_300; unfold bd at h8_4; omega), (by have h9_0 := b_17; unfold bd at h9_0; have h9_1 := b_769; unfold bd at h9_1; have h9_2 := b_7; unfold bd at h9_2; have h9_3 := b_4; unfold bd at h9_3; have h9_4 := h_760; unfold bd at h9_4; have h9_5 := b_11; unfold bd at h9_5; have h9_6 := bx_806; unfold bd at h9_6; have h9_7 := by0_; unfold bd at h9_7; have h9_8 := b_749; unfold bd at h9_8; have h8_0 := kb_0; unfold bd at h8_0; have h8_1 := kb_1; unfold bd at h8_1; have h8_2 := kb_205; unfold bd at h8_2; have h8_3 := kb_206; unfold bd at h8_3; have h8_4 := kb_300; unfold bd at h8_4; omega)⟩)⟩ (g.fcts [2, 1, 0] rfl)) (cwV 2 hts (gV_ t_1203 t_1204 t_1205 t_191 t_1206) rfl rfl rfl (by decide +kernel) ⟨(Nat.le_of_ble_eq_true rfl), (Nat.le_of_ble_eq_true rfl)⟩) (pre3V g hK mq1_ kq1_ (by decide) (q := (RX7, TX7, 19)) rfl) rfl rfl hl.1 rfl (lv_room (Nat.le_of_ble_eq_true rfl)) dX0_closeParts_188 ⟨(Nat.le_of_ble_eq_true rfl), (Nat.le_of_ble_eq_true rfl)⟩) g hK (by decide) (by decide) (fx' := [(7, 5, q1_, .ref a_805), (7, 4, q1_, .ref a_804), (0, 10, a0_, .int x_759), (0, 8, a0_, .int y_748), (0, 5, a0_, .ref g76_0_5_a0_), (0, 3, a0_, .ref g76_0_3_a0_), (0, 0, a0_, .ref q0_), (0, 2, a0_, .ref q1_), (8, 8, q0_, .int y0_)]) rfl (fun fr_807 H locs hp hMr_807 g => ?_)
                      obtain ⟨hG_808, hG_809, hG_810, hx_811, x_812, h_813, hF_814⟩ := hp
                      have hG_815 := vP.frame hMr_807 go_.2.2.2.1 mg76_0_5_a0_ kg76_0_5_a0_ (by decide) (by decide) hG_765
                      have g := g.more hF_814
                      have hs_816 := jS.mv hG_764 hG_810
                      have hq_817 := kQj.mv hG_766 hG_810
                      have hG_818 := eJx.mv hG_767 hMr_807 go_.2.2.2.1 ma0_ ka0_ (by decide) (by decide) (((hMr_807 a0_ ma0_).1 2 (by rw [ka0_]; decide) (by rw [ka0_]; decide)).symm.trans (fx_at g (i := 8) rfl).2.2.2) hG_810
                      have hl9 := lv_sub hl [0, 1, 2, 3, 4, 5, 6] (by rfl : lv_pick [(6, .int r_758), (2, .int j76_2), (5, .int j76_5), (4, .int j76_4), (3, .int v4_3), (0, .ref a0_), (1, .int x1_)] [0, 1, 2, 3, 4, 5, 6] = [(6, .int r_758), (2, .int j76_2), (5, .int j76_5), (4, .int j76_4), (3, .int v4_3), (0, .ref a0_), (1, .int x1_)])
                      have g9 := g.sub (fx' := [(7, 6, q1_, .int x_812), (7, 5, q1_, .ref a_805), (7, 4, q1_, .ref a_804), (0, 10, a0_, .int x_759), (0, 8, a0_, .int y_748), (0, 5, a0_, .ref g76_0_5_a0_), (0, 3, a0_, .ref g76_0_3_a0_), (0, 0, a0_, .ref q0_), (0, 2, a0_, .ref q1_), (8, 8, q0_, .int y0_)]) [0, 1, 2, 3, 4, 5, 6, 7, 8, 9] rfl
                      exact join_18 r_758 x_812 a_805 a_804 x_759 y_748 _ _ _ _ h_813 ma_805 ka_805 ma_804 ka_804 h_760 b_749 g9 hG_818 hG_809 hG_808 hs_816 hl9
                    · have fc_803 := eq_f c_803
                      have b_819 : bd 206 206 j76_4 := eqX fc_803 (bdT j76_4) kb_206 (by decide)
                      refine lv_aload_n hx hb dX0_closeParts_152 rfl (lv_at hl 5 rfl) ?_
                      refine g_getk (C := RX0) (T := TX0) (N := 14) hx hb hts (mc_ inX0) hown hK g rfl 2 (by decide) rfl (hts _ (List.mem_cons_of_mem _ t_375)) (fun _ h9 => h9) 5 rfl dX0_closeParts_153 ?_
                      refine lv_bipush (v := 8) hx hb dX0_closeParts_156 (by decide) ?_
                      refine lv_iconst (v := 0) hx hb dX0_closeParts_158 (by decide) ?_
                      obtain ⟨a_820, ma_820, ka_820, g⟩ := g_factr g mq1_ kq1_ (by decide) 4 rfl
                      obtain ⟨a_821, ma_821, ka_821, g⟩ := g_factr g mq1_ kq1_ (by decide) 5 rfl
                      obtain ⟨x_822, bx_822, g⟩ := g_facti g mq1_ kq1_ (by decide) 6 rfl
                      have kb_8 : bd 8 8 (8 : Int32) := ⟨by decide, by decide⟩
                      have go_ := g
                      refine g_callv (va_runV (As := [.int 8, .int 0]) (rest := []) ⟨hx, hb, hml, hown, hts⟩ (r_X7_emitN l dC dI L kd tys fr_758 H.size g.2.2.2.1 q1_ mq1_ kq1_ a_820 ma_820 ka_820 a_821 ma_821 ka_821 x_822 bx_822 T_ hG_763 (8 : Int32) (0 : Int32) (fun j9 => jOK fr_758 q1_ j9) hG_762 (fun _ h9 => h9) ⟨(fun h9 => ⟨(by have h9_0 := b_17; unfold bd at h9_0; have h9_1 := b_819; unfold bd at h9_1; have h9_2 := b_769; unfold bd at h9_2; have h9_3 := b_7; unfold bd at h9_3; have h9_4 := b_4; unfold bd at h9_4; have h9_5 := h_760; unfold bd at h9_5; have h9_6 := b_11; unfold bd at h9_6; have h9_7 := bx_822; unfold bd at h9_7; have h9_8 := by0_; unfold bd at h9_8; have h9_9 := b_749; unfold bd at h9_9; have h8_0 := kb_0; unfold bd at h8_0; have h8_1 := kb_1; unfold bd at h8_1; have h8_2 := kb_205; unfold bd at h8_2; have h8_3 := kb_206; unfold bd at h8_3; have h8_4 := kb_300; unfold bd at h8_4; have h8_5 := kb_8; unfold bd at h8_5; omega), (by have h9_0 := b_17; unfold bd at h9_0; have h9_1 := b_819; unfold bd at h9_1; have h9_2 := b_769; unfold bd at h9_2; have h9_3 := b_7; unfold bd at h9_3; have h9_4 := b_4; unfold bd at h9_4; have h9_5 := h_760; unfold bd at h9_5; have h9_6 := b_11; unfold bd at h9_6; have h9_7 := bx_822; unfold bd at h9_7; have h9_8 := by0_; unfold bd at h9_8; have h9_9 := b_749; unfold bd at h9_9; have h8_0 := kb_0; unfold bd at h8_0; have h8_1 := kb_1; unfold bd at h8_1; have h8_2 := kb_205; unfold bd at h8_2; have h8_3 := kb_206; unfold bd at h8_3; have h8_4 := kb_300; unfold bd at h8_4; have h8_5 := kb_8; unfold bd at h8_5; omega)⟩), (fun h9 => ⟨(by have h9_0 := b_17; unfold bd at h9_0; have h9_1 := b_819; unfold bd at h9_1; have h9_2 := b_769; unfold bd at h9_2; have h9_3 := b_7; unfold bd at h9_3; have h9_4 := b_4; unfold bd at h9_4; have h9_5 := h_760; unfold bd at h9_5; have h9_6 := b_11; unfold bd at h9_6; have h9_7 := bx_822; unfold bd at h9_7; have h9_8 := by0_; unfold bd at h9_8; have h9_9 := b_749; unfold bd at h9_9; have h8_0 := kb_0; unfold bd at h8_0; have h8_1 := kb_1; unfold bd at h8_1; have h8_2 := kb_205; unfold bd at h8_2; have h8_3 := kb_206; unfold bd at h8_3; have h8_4 := kb_300; unfold bd at h8_4; have h8_5 := kb_8; unfold bd at h8_5; omega), (by have h9_0 := b_17; unfold bd at h9_0; have h9_1 := b_819; unfold bd at h9_1; have h9_2 := b_769; unfold bd at h9_2; have h9_3 := b_7; unfold bd at h9_3; have h9_4 := b_4; unfold bd at h9_4; have h9_5 := h_760; unfold bd at h9_5; have h9_6 := b_11; unfold bd at h9_6; have h9_7 := bx_822; unfold bd at h9_7; have h9_8 := by0_; unfold bd at h9_8; have h9_9 := b_749; unfold bd at h9_9; have h8_0 := kb_0; unfold bd at h8_0; have h8_1 := kb_1; unfold bd at h8_1; have h8_2 := kb_205; unfold bd at h8_2; have h8_3 := kb_206; unfold bd at h8_3; have h8_4 := kb_300; unfold bd at h8_4; have h8_5 := kb_8; unfold bd at h8_5; omega)⟩), (fun h9 => ⟨(by have h9_0 := b_17; unfold bd at h9_0; have h9_1 := b_819; unfold bd at h9_1; have h9_2 := b_769; unfold bd at h9_2; have h9_3 := b_7; unfold bd at h9_3; have h9_4 := b_4; unfold bd at h9_4; have h9_5 := h_760; unfold bd at h9_5; have h9_6 := b_11; unfold bd at h9_6; have h9_7 := bx_822; unfold bd at h9_7; have h9_8 := by0_; unfold bd at h9_8; have h9_9 := b_749; unfold bd at h9_9; have h8_0 := kb_0; unfold bd at h8_0; have h8_1 := kb_1; unfold bd at h8_1; have h8_2 := kb_205; unfold bd at h8_2; have h8_3 := kb_206; unfold bd at h8_3; have h8_4 := kb_300; unfold bd at h8_4; have h8_5 := kb_8; unfold bd at h8_5; omega), (by have h9_0 := b_17; unfold bd at h9_0; have h9_1 := b_819; unfold bd at h9_1; have h9_2 := b_769; unfold bd at h9_2; have h9_3 := b_7; unfold bd at h9_3; have h9_4 := b_4; unfold bd at h9_4; have h9_5 := h_760; unfold bd at h9_5; have h9_6 := b_11; unfold bd at h9_6; have h9_7 := bx_822; unfold bd at h9_7; have h9_8 := by0_; unfold bd at h9_8; have h9_9 := b_749; unfold bd at h9_9; have h8_0 := kb_0; unfold bd at h8_0; have h8_1 := kb_1; unfold bd at h8_1; have h8_2 := kb_205; unfold bd at h8_2; have h8_3 := kb_206; unfold bd at h8_3; have h8_4 := kb_300; unfold bd at h8_4; have h8_5 := kb_8; unfold bd at h8_5; omega)⟩)⟩ (g.fcts [2, 1, 0] rfl)) (cwV 2 hts (gV_ t_1203 t_1204 t_1205 t_191 t_1206) rfl rfl rfl (by decide +kernel) ⟨(Nat.le_of_ble_eq_true rfl), (Nat.le_of_ble_eq_true rfl)⟩) (pre3V g hK mq1_ kq1_ (by decide) (q := (RX7, TX7, 19)) rfl) rfl rfl hl.1 rfl (lv_room (Nat.le_of_ble_eq_true rfl)) dX0_closeParts_159 ⟨(Nat.le_of_ble_eq_true rfl), (Nat.le_of_ble_eq_true rfl)⟩) g hK (by decide) (by decide) (fx' := [(7, 5, q1_, .ref a_821), (7, 4, q1_, .ref a_820), (0, 10, a0_, .int x_759), (0, 8, a0_, .int y_748), (0, 5, a0_, .ref g76_0_5_a0_), (0, 3, a0_, .ref g76_0_3_a0_), (0, 0, a0_, .ref q0_), (0, 2, a0_, .ref q1_), (8, 8, q0_, .int y0_)]) rfl (fun fr_823 H locs hp hMr_823 g => ?_)
                      obtain ⟨hG_824, hG_825, hG_826, hx_827, x_828, h_829, hF_830⟩ := hp
                      have hG_831 := vP.frame hMr_823 go_.2.2.2.1 mg76_0_5_a0_ kg76_0_5_a0_ (by decide) (by decide) hG_765
                      have g := g.more hF_830
                      have hs_832 := jS.mv hG_764 hG_826
                      have hq_833 := kQj.mv hG_766 hG_826
                      have hG_834 := eJx.mv hG_767 hMr_823 go_.2.2.2.1 ma0_ ka0_ (by decide) (by decide) (((hMr_823 a0_ ma0_).1 2 (by rw [ka0_]; decide) (by rw [ka0_]; decide)).symm.trans (fx_at g (i := 8) rfl).2.2.2) hG_826
                      refine lv_aload_n hx hb dX0_closeParts_162 rfl (lv_at hl 5 rfl) ?_
                      refine g_getk (C := RX0) (T := TX0) (N := 14) hx hb hts (mc_ inX0) hown hK g rfl 2 (by decide) rfl (hts _ (List.mem_cons_of_mem _ t_375)) (fun _ h9 => h9) 8 rfl dX0_closeParts_163 ?_
                      refine lv_aload_n hx hb dX0_closeParts_166 rfl (lv_at hl 5 rfl) ?_
                      refine g_getk (C := RX0) (T := TX0) (N := 14) hx hb hts (mc_ inX0) hown hK g rfl 5 (by decide) rfl (hts _ (List.mem_cons_of_mem _ t_378)) (fun _ h9 => h9) 5 rfl dX0_closeParts_167 ?_
                      refine lv_aload_n hx hb dX0_closeParts_170 rfl (lv_at hl 5 rfl) ?_
                      refine g_getk (C := RX0) (T := TX0) (N := 14) hx hb hts (mc_ inX0) hown hK g rfl 8 (by decide) rfl (hts _ (List.mem_cons_of_mem _ t_381)) (fun _ h9 => h9) 4 rfl dX0_closeParts_171 ?_
                      refine g_iald hx hb hK g mg76_0_5_a0_ kg76_0_5_a0_ (by decide) rfl (in_bd b_749 (by decide)) dX0_closeParts_174 (fun x_835 bx_835 cx_835 => ?_)
                      have hy_836 : x_835 = tg76 := cx_835.trans (hG_831 _ (by have h9 := tnZ (i := y_748) (by have h9_0 := b_17; unfold bd at h9_0; have h9_1 := b_819; unfold bd at h9_1; have h9_2 := b_769; unfold bd at h9_2; have h9_3 := b_7; unfold bd at h9_3; have h9_4 := b_4; unfold bd at h9_4; have h9_5 := h_760; unfold bd at h9_5; have h9_6 := b_11; unfold bd at h9_6; have h9_7 := bx_822; unfold bd at h9_7; have h9_8 := h_829; unfold bd at h9_8; have h9_9 := by0_; unfold bd at h9_9; have h9_10 := b_749; unfold bd at h9_10; have h8_0 := kb_0; unfold bd at h8_0; have h8_1 := kb_1; unfold bd at h8_1; have h8_2 := kb_205; unfold bd at h8_2; have h8_3 := kb_206; unfold bd at h8_3; have h8_4 := kb_300; unfold bd at h8_4; have h8_5 := kb_8; unfold bd at h8_5; omega); have h9_0 := b_17; unfold bd at h9_0; have h9_1 := b_819; unfold bd at h9_1; have h9_2 := b_769; unfold bd at h9_2; have h9_3 := b_7; unfold bd at h9_3; have h9_4 := b_4; unfold bd at h9_4; have h9_5 := h_760; unfold bd at h9_5; have h9_6 := b_11; unfold bd at h9_6; have h9_7 := bx_822; unfold bd at h9_7; have h9_8 := h_829; unfold bd at h9_8; have h9_9 := by0_; unfold bd at h9_9; have h9_10 := b_749; unfold bd at h9_10; have h8_0 := kb_0; unfold bd at h8_0; have h8_1 := kb_1; unfold bd at h8_1; have h8_2 := kb_205; unfold bd at h8_2; have h8_3 := kb_206; unfold bd at h8_3; have h8_4 := kb_300; unfold bd at h8_4; have h8_5 := kb_8; unfold bd at h8_5; omega))
                      have hj_837 : jOK fr_823 q1_ x_835 := by rw [hy_836]; exact hq_833.1 (by have h9_0 := b_17; unfold bd at h9_0; have h9_1 := b_819; unfold bd at h9_1; have h9_2 := b_769; unfold bd at h9_2; have h9_3 := b_7; unfold bd at h9_3; have h9_4 := b_4; unfold bd at h9_4; have h9_5 := h_760; unfold bd at h9_5; have h9_6 := b_11; unfold bd at h9_6; have h9_7 := bx_822; unfold bd at h9_7; have h9_8 := h_829; unfold bd at h9_8; have h9_9 := by0_; unfold bd at h9_9; have h9_10 := b_749; unfold bd at h9_10; have h8_0 := kb_0; unfold bd at h8_0; have h8_1 := kb_1; unfold bd at h8_1; have h8_2 := kb_205; unfold bd at h8_2; have h8_3 := kb_206; unfold bd at h8_3; have h8_4 := kb_300; unfold bd at h8_4; have h8_5 := kb_8; unfold bd at h8_5; omega)
                      have go_ := g
                      refine g_callv (va_runV (As := [.int x_835]) (rest := []) ⟨hx, hb, hml, hown, hts⟩ (r_X7_leadHereN l dC dI L kd tys fr_823 H.size g.2.2.2.1 q1_ mq1_ kq1_ a_820 ma_820 ka_820 a_821 ma_821 ka_821 x_828 h_829 T_ hG_824 x_835 (fun j9 => jOK fr_823 q1_ j9) hG_825 (fun _ h9 => h9) hj_837 (g.fcts [2, 1, 0] rfl)) (cwV 1 hts (gV_ t_1207 t_1208 t_1209 t_191 t_1210) rfl rfl rfl (by decide +kernel) ⟨(Nat.le_of_ble_eq_true rfl), (Nat.le_of_ble_eq_true rfl)⟩) (pre3V g hK mq1_ kq1_ (by decide) (q := (RX7, TX7, 19)) rfl) rfl rfl hl.1 rfl (lv_room (Nat.le_of_ble_eq_true rfl)) dX0_closeParts_175 ⟨(Nat.le_of_ble_eq_true rfl), (Nat.le_of_ble_eq_true rfl)⟩) g hK (by decide) (by decide) (fx' := [(7, 6, q1_, .int x_828), (7, 5, q1_, .ref a_821), (7, 4, q1_, .ref a_820), (0, 10, a0_, .int x_759), (0, 8, a0_, .int y_748), (0, 5, a0_, .ref g76_0_5_a0_), (0, 3, a0_, .ref g76_0_3_a0_), (0, 0, a0_, .ref q0_), (0, 2, a0_, .ref q1_), (8, 8, q0_, .int y0_)]) rfl (fun fr_838 H locs hp hMr_838 g => ?_)
                      obtain ⟨hG_839, hG_840, hG_841, x_842, h_843, hF_844⟩ := hp
                      have hG_845 := vP.frame hMr_838 go_.2.2.2.1 mg76_0_5_a0_ kg76_0_5_a0_ (by decide) (by decide) hG_831
                      have hG_846 := kQj.frame hMr_838 go_.2.2.2.1 mq1_ kq1_ (by decide) (by decide) hq_833
                      have hG_847 := eJx.frame hMr_838 go_.2.2.2.1 ma0_ ka0_ (by decide) (by decide) hG_834
                      have hG_848 := jOK.frame hMr_838 go_.2.2.2.1 mq1_ kq1_ (by decide) (by decide) hj_837
                      have g := g.more hF_844
                      have e_849 := fx_same g 1 0 rfl rfl
                      have g := g.sub (fx' := [(7, 6, q1_, .int x_828), (7, 5, q1_, .ref a_821), (7, 4, q1_, .ref a_820), (0, 10, a0_, .int x_759), (0, 8, a0_, .int y_748), (0, 5, a0_, .ref g76_0_5_a0_), (0, 3, a0_, .ref g76_0_3_a0_), (0, 0, a0_, .ref q0_), (0, 2, a0_, .ref q1_), (8, 8, q0_, .int y0_)]) [1, 2, 3, 4, 5, 6, 7, 8, 9, 10] rfl
                      have hs_850 := jS.mv hs_832 hG_841
                      refine lv_goto (tgt := 191) hx hb dX0_closeParts_178 (by decide) ?_
                      have hl9 := lv_sub hl [0, 1, 2, 3, 4, 5, 6] (by rfl : lv_pick [(6, .int r_758), (2, .int j76_2), (5, .int j76_5), (4, .int j76_4), (3, .int v4_3), (0, .ref a0_), (1, .int x1_)] [0, 1, 2, 3, 4, 5, 6] = [(6, .int r_758), (2, .int j76_2), (5, .int j76_5), (4, .int j76_4), (3, .int v4_3), (0, .ref a0_), (1, .int x1_)])
                      have g9 := g.sub (fx' := [(7, 6, q1_, .int x_828), (7, 5, q1_, .ref a_821), (7, 4, q1_, .ref a_820), (0, 10, a0_, .int x_759), (0, 8, a0_, .int y_748), (0, 5, a0_, .ref g76_0_5_a0_), (0, 3, a0_, .ref g76_0_3_a0_), (0, 0, a0_, .ref q0_), (0, 2, a0_, .ref q1_), (8, 8, q0_, .int y0_)]) [0, 1, 2, 3, 4, 5, 6, 7, 8, 9] rfl
                      exact join_18 r_758 x_828 a_821 a_820 x_759 y_748 _ _ _ _ h_829 ma_821 ka_821 ma_820 ka_820 h_760 b_749 g9 hG_847 hG_840 hG_839 hs_850 hl9
                · have fc_768 := neq_f c_768
                  have b_851 : bd 1 1 j76_5 := neX fc_768 bj76_5 kb_0 (by decide)
                  refine lv_aload_n hx hb dX0_closeParts_101 rfl (lv_at hl 5 rfl) ?_
                  refine lv_dup hx hb dX0_closeParts_102 rfl ?_
                  refine g_geti (C := RX0) (T := TX0) (N := 14) hx hb hts (mc_ inX0) hown hK g ma0_ ka0_ (by decide) rfl 11 (by decide) rfl (hts _ (List.mem_cons_of_mem _ t_384)) (fun _ h9 => h9) rfl dX0_closeParts_103 (fun x_852 bx_852 g => ?_)
                  refine lv_iconst (v := 1) hx hb dX0_closeParts_106 (by decide) ?_
                  refine lv_isub hx hb dX0_closeParts_107 ?_
                  refine lv_topi (fun y_853 ey_853 => ?_)
                  have go_ := g
                  refine g_put (C := RX0) (T := TX0) (N := 14) hx hb hts (mc_ inX0) tyX0 tyX0_ok nmX0 hown hK g ma0_ ka0_ (by decide) rfl 11 (by decide) (hts _ (List.mem_cons_of_mem _ t_384)) (fun _ h9 => h9) rfl rfl (okV_i (bdT y_853)) rfl rfl (by decide) (Or.inr (Or.inl (by decide))) (fx' := [(0, 10, a0_, .int x_759), (0, 8, a0_, .int y_748), (0, 5, a0_, .ref g76_0_5_a0_), (0, 3, a0_, .ref g76_0_3_a0_), (0, 0, a0_, .ref q0_), (0, 2, a0_, .ref q1_), (8, 8, q0_, .int y0_)]) rfl dX0_closeParts_108 (fun f H locs hM_854 g => ?_)
                  have hG_855 := cOK.frame hM_854 go_.2.2.2.1 mq1_ kq1_ (by decide) (by decide) hG_762
                  have hG_856 := dOK.frame hM_854 go_.2.2.2.1 mq1_ kq1_ (by decide) (by decide) hG_763
                  have hG_857 := jS.frame hM_854 go_.2.2.2.1 mq1_ kq1_ (by decide) (by decide) hG_764
                  have hG_858 := vP.frame hM_854 go_.2.2.2.1 mg76_0_5_a0_ kg76_0_5_a0_ (by decide) (by decide) hG_765
                  have hG_859 := kQj.frame hM_854 go_.2.2.2.1 mq1_ kq1_ (by decide) (by decide) hG_766
                  have hG_860 := eJx.frame hM_854 go_.2.2.2.1 ma0_ ka0_ (by decide) (by decide) hG_767
                  refine lv_aload_n hx hb dX0_closeParts_111 rfl (lv_at hl 5 rfl) ?_
                  refine g_getk (C := RX0) (T := TX0) (N := 14) hx hb hts (mc_ inX0) hown hK g rfl 2 (by decide) rfl (hts _ (List.mem_cons_of_mem _ t_375)) (fun _ h9 => h9) 6 rfl dX0_closeParts_112 ?_
                  refine lv_iload hx hb dX0_closeParts_115 (lv_at hl 3 rfl) ?_
                  refine lv_bipush (v := 6) hx hb dX0_closeParts_117 (by decide) ?_
                  have kb_6 : bd 6 6 (6 : Int32) := ⟨by decide, by decide⟩
                  refine lv_icmp_ne (tgt := 127) hx hb dX0_closeParts_119 (by decide) (fun c_861 => ?_) (fun c_861 => ?_)
                  · have fc_861 := neq_f c_861
                    refine lv_bipush (v := 7) hx hb dX0_closeParts_127 (by decide) ?_
                    refine lv_iconst (v := 0) hx hb dX0_closeParts_129 (by decide) ?_
                    obtain ⟨a_862, ma_862, ka_862, g⟩ := g_factr g mq1_ kq1_ (by decide) 4 rfl
                    obtain ⟨a_863, ma_863, ka_863, g⟩ := g_factr g mq1_ kq1_ (by decide) 5 rfl
                    obtain ⟨x_864, bx_864, g⟩ := g_facti g mq1_ kq1_ (by decide) 6 rfl
                    have kb_7 : bd 7 7 (7 : Int32) := ⟨by decide, by decide⟩
                    have go_ := g
                    refine g_callv (va_runV (As := [.int 7, .int 0]) (rest := []) ⟨hx, hb, hml, hown, hts⟩ (r_X7_emitN l dC dI L kd tys f H.size g.2.2.2.1 q1_ mq1_ kq1_ a_862 ma_862 ka_862 a_863 ma_863 ka_863 x_864 bx_864 T_ hG_856 (7 : Int32) (0 : Int32) (fun j9 => jOK f q1_ j9) hG_855 (fun _ h9 => h9) ⟨(fun h9 => ⟨(by have h9_0 := b_17; unfold bd at h9_0; have h9_1 := b_851; unfold bd at h9_1; have h9_2 := b_7; unfold bd at h9_2; have h9_3 := b_4; unfold bd at h9_3; have h9_4 := h_760; unfold bd at h9_4; have h9_5 := b_11; unfold bd at h9_5; have h9_6 := bx_864; unfold bd at h9_6; have h9_7 := by0_; unfold bd at h9_7; have h9_8 := b_749; unfold bd at h9_8; have h8_0 := kb_0; unfold bd at h8_0; have h8_1 := kb_1; unfold bd at h8_1; have h8_2 := kb_300; unfold bd at h8_2; have h8_3 := kb_6; unfold bd at h8_3; have h8_4 := kb_7; unfold bd at h8_4; omega), (by have h9_0 := b_17; unfold bd at h9_0; have h9_1 := b_851; unfold bd at h9_1; have h9_2 := b_7; unfold bd at h9_2; have h9_3 := b_4; unfold bd at h9_3; have h9_4 := h_760; unfold bd at h9_4; have h9_5 := b_11; unfold bd at h9_5; have h9_6 := bx_864; unfold bd at h9_6; have h9_7 := by0_; unfold bd at h9_7; have h9_8 := b_749; unfold bd at h9_8; have h8_0 := kb_0; unfold bd at h8_0; have h8_1 := kb_1; unfold bd at h8_1; have h8_2 := kb_300; unfold bd at h8_2; have h8_3 := kb_6; unfold bd at h8_3; have h8_4 := kb_7; unfold bd at h8_4; omega)⟩), (fun h9 => ⟨(by have h9_0 := b_17; unfold bd at h9_0; have h9_1 := b_851; unfold bd at h9_1; have h9_2 := b_7; unfold bd at h9_2; have h9_3 := b_4; unfold bd at h9_3; have h9_4 := h_760; unfold bd at h9_4; have h9_5 := b_11; unfold bd at h9_5; have h9_6 := bx_864; unfold bd at h9_6; have h9_7 := by0_; unfold bd at h9_7; have h9_8 := b_749; unfold bd at h9_8; have h8_0 := kb_0; unfold bd at h8_0; have h8_1 := kb_1; unfold bd at h8_1; have h8_2 := kb_300; unfold bd at h8_2; have h8_3 := kb_6; unfold bd at h8_3; have h8_4 := kb_7; unfold bd at h8_4; omega), (by have h9_0 := b_17; unfold bd at h9_0; have h9_1 := b_851; unfold bd at h9_1; have h9_2 := b_7; unfold bd at h9_2; have h9_3 := b_4; unfold bd at h9_3; have h9_4 := h_760; unfold bd at h9_4; have h9_5 := b_11; unfold bd at h9_5; have h9_6 := bx_864; unfold bd at h9_6; have h9_7 := by0_; unfold bd at h9_7; have h9_8 := b_749; unfold bd at h9_8; have h8_0 := kb_0; unfold bd at h8_0; have h8_1 := kb_1; unfold bd at h8_1; have h8_2 := kb_300; unfold bd at h8_2; have h8_3 := kb_6; unfold bd at h8_3; have h8_4 := kb_7; unfold bd at h8_4; omega)⟩), (fun h9 => ⟨(by have h9_0 := b_17; unfold bd at h9_0; have h9_1 := b_851; unfold bd at h9_1; have h9_2 := b_7; unfold bd at h9_2; have h9_3 := b_4; unfold bd at h9_3; have h9_4 := h_760; unfold bd at h9_4; have h9_5 := b_11; unfold bd at h9_5; have h9_6 := bx_864; unfold bd at h9_6; have h9_7 := by0_; unfold bd at h9_7; have h9_8 := b_749; unfold bd at h9_8; have h8_0 := kb_0; unfold bd at h8_0; have h8_1 := kb_1; unfold bd at h8_1; have h8_2 := kb_300; unfold bd at h8_2; have h8_3 := kb_6; unfold bd at h8_3; have h8_4 := kb_7; unfold bd at h8_4; omega), (by have h9_0 := b_17; unfold bd at h9_0; have h9_1 := b_851; unfold bd at h9_1; have h9_2 := b_7; unfold bd at h9_2; have h9_3 := b_4; unfold bd at h9_3; have h9_4 := h_760; unfold bd at h9_4; have h9_5 := b_11; unfold bd at h9_5; have h9_6 := bx_864; unfold bd at h9_6; have h9_7 := by0_; unfold bd at h9_7; have h9_8 := b_749; unfold bd at h9_8; have h8_0 := kb_0; unfold bd at h8_0; have h8_1 := kb_1; unfold bd at h8_1; have h8_2 := kb_300; unfold bd at h8_2; have h8_3 := kb_6; unfold bd at h8_3; have h8_4 := kb_7; unfold bd at h8_4; omega)⟩)⟩ (g.fcts [2, 1, 0] rfl)) (cwV 2 hts (gV_ t_1203 t_1204 t_1205 t_191 t_1206) rfl rfl rfl (by decide +kernel) ⟨(Nat.le_of_ble_eq_true rfl), (Nat.le_of_ble_eq_true rfl)⟩) (pre3V g hK mq1_ kq1_ (by decide) (q := (RX7, TX7, 19)) rfl) rfl rfl hl.1 rfl (lv_room (Nat.le_of_ble_eq_true rfl)) dX0_closeParts_130 ⟨(Nat.le_of_ble_eq_true rfl), (Nat.le_of_ble_eq_true rfl)⟩) g hK (by decide) (by decide) (fx' := [(7, 5, q1_, .ref a_863), (7, 4, q1_, .ref a_862), (0, 11, a0_, .int y_853), (0, 10, a0_, .int x_759), (0, 8, a0_, .int y_748), (0, 5, a0_, .ref g76_0_5_a0_), (0, 3, a0_, .ref g76_0_3_a0_), (0, 0, a0_, .ref q0_), (0, 2, a0_, .ref q1_), (8, 8, q0_, .int y0_)]) rfl (fun fr_865 H locs hp hMr_865 g => ?_)
                    obtain ⟨hG_866, hG_867, hG_868, hx_869, x_870, h_871, hF_872⟩ := hp
                    have hG_873 := vP.frame hMr_865 go_.2.2.2.1 mg76_0_5_a0_ kg76_0_5_a0_ (by decide) (by decide) hG_858
                    have g := g.more hF_872
                    have hs_874 := jS.mv hG_857 hG_868
                    have hq_875 := kQj.mv hG_859 hG_868
                    have hG_876 := eJx.mv hG_860 hMr_865 go_.2.2.2.1 ma0_ ka0_ (by decide) (by decide) (((hMr_865 a0_ ma0_).1 2 (by rw [ka0_]; decide) (by rw [ka0_]; decide)).symm.trans (fx_at g (i := 9) rfl).2.2.2) hG_868
                    refine lv_goto (tgt := 191) hx hb dX0_closeParts_133 (by decide) ?_
                    have hl9 := lv_sub hl [0, 1, 2, 3, 4, 5, 6] (by rfl : lv_pick [(6, .int r_758), (2, .int j76_2), (5, .int j76_5), (4, .int j76_4), (3, .int v4_3), (0, .ref a0_), (1, .int x1_)] [0, 1, 2, 3, 4, 5, 6] = [(6, .int r_758), (2, .int j76_2), (5, .int j76_5), (4, .int j76_4), (3, .int v4_3), (0, .ref a0_), (1, .int x1_)])
                    have g9 := g.sub (fx' := [(7, 6, q1_, .int x_870), (7, 5, q1_, .ref a_863), (7, 4, q1_, .ref a_862), (0, 10, a0_, .int x_759), (0, 8, a0_, .int y_748), (0, 5, a0_, .ref g76_0_5_a0_), (0, 3, a0_, .ref g76_0_3_a0_), (0, 0, a0_, .ref q0_), (0, 2, a0_, .ref q1_), (8, 8, q0_, .int y0_)]) [0, 1, 2, 4, 5, 6, 7, 8, 9, 10] rfl
                    exact join_18 r_758 x_870 a_863 a_862 x_759 y_748 _ _ _ _ h_871 ma_863 ka_863 ma_862 ka_862 h_760 b_749 g9 hG_876 hG_867 hG_866 hs_874 hl9
                  · have fc_861 := eq_f c_861
                    have b_877 : bd 6 6 j76_4 := eqX fc_861 (bdT j76_4) kb_6 (by decide)
                    refine lv_bipush (v := 6) hx hb dX0_closeParts_122 (by decide) ?_
                    refine lv_goto (tgt := 129) hx hb dX0_closeParts_124 (by decide) ?_
                    refine lv_iconst (v := 0) hx hb dX0_closeParts_129 (by decide) ?_
                    obtain ⟨a_878, ma_878, ka_878, g⟩ := g_factr g mq1_ kq1_ (by decide) 4 rfl
                    obtain ⟨a_879, ma_879, ka_879, g⟩ := g_factr g mq1_ kq1_ (by decide) 5 rfl
                    obtain ⟨x_880, bx_880, g⟩ := g_facti g mq1_ kq1_ (by decide) 6 rfl
                    have go_ := g
                    refine g_callv (va_runV (As := [.int 6, .int 0]) (rest := []) ⟨hx, hb, hml, hown, hts⟩ (r_X7_emitN l dC dI L kd tys f H.size g.2.2.2.1 q1_ mq1_ kq1_ a_878 ma_878 ka_878 a_879 ma_879 ka_879 x_880 bx_880 T_ hG_856 (6 : Int32) (0 : Int32) (fun j9 => jOK f q1_ j9) hG_855 (fun _ h9 => h9) ⟨(fun h9 => ⟨(by have h9_0 := b_17; unfold bd at h9_0; have h9_1 := b_877; unfold bd at h9_1; have h9_2 := b_851; unfold bd at h9_2; have h9_3 := b_7; unfold bd at h9_3; have h9_4 := b_4; unfold bd at h9_4; have h9_5 := h_760; unfold bd at h9_5; have h9_6 := b_11; unfold bd at h9_6; have h9_7 := bx_880; unfold bd at h9_7; have h9_8 := by0_; unfold bd at h9_8; have h9_9 := b_749; unfold bd at h9_9; have h8_0 := kb_0; unfold bd at h8_0; have h8_1 := kb_1; unfold bd at h8_1; have h8_2 := kb_300; unfold bd at h8_2; have h8_3 := kb_6; unfold bd at h8_3; omega), (by have h9_0 := b_17; unfold bd at h9_0; have h9_1 := b_877; unfold bd at h9_1; have h9_2 := b_851; unfold bd at h9_2; have h9_3 := b_7; unfold bd at h9_3; have h9_4 := b_4; unfold bd at h9_4; have h9_5 := h_760; unfold bd at h9_5; have h9_6 := b_11; unfold bd at h9_6; have h9_7 := bx_880; unfold bd at h9_7; have h9_8 := by0_; unfold bd at h9_8; have h9_9 := b_749; unfold bd at h9_9; have h8_0 := kb_0; unfold bd at h8_0; have h8_1 := kb_1; unfold bd at h8_1; have h8_2 := kb_300; unfold bd at h8_2; have h8_3 := kb_6; unfold bd at h8_3; omega)⟩), (fun h9 => ⟨(by have h9_0 := b_17; unfold bd at h9_0; have h9_1 := b_877; unfold bd at h9_1; have h9_2 := b_851; unfold bd at h9_2; have h9_3 := b_7; unfold bd at h9_3; have h9_4 := b_4; unfold bd at h9_4; have h9_5 := h_760; unfold bd at h9_5; have h9_6 := b_11; unfold bd at h9_6; have h9_7 := bx_880; unfold bd at h9_7; have h9_8 := by0_; unfold bd at h9_8; have h9_9 := b_749; unfold bd at h9_9; have h8_0 := kb_0; unfold bd at h8_0; have h8_1 := kb_1; unfold bd at h8_1; have h8_2 := kb_300; unfold bd at h8_2; have h8_3 := kb_6; unfold bd at h8_3; omega), (by have h9_0 := b_17; unfold bd at h9_0; have h9_1 := b_877; unfold bd at h9_1; have h9_2 := b_851; unfold bd at h9_2; have h9_3 := b_7; unfold bd at h9_3; have h9_4 := b_4; unfold bd at h9_4; have h9_5 := h_760; unfold bd at h9_5; have h9_6 := b_11; unfold bd at h9_6; have h9_7 := bx_880; unfold bd at h9_7; have h9_8 := by0_; unfold bd at h9_8; have h9_9 := b_749; unfold bd at h9_9; have h8_0 := kb_0; unfold bd at h8_0; have h8_1 := kb_1; unfold bd at h8_1; have h8_2 := kb_300; unfold bd at h8_2; have h8_3 := kb_6; unfold bd at h8_3; omega)⟩), (fun h9 => ⟨(by have h9_0 := b_17; unfold bd at h9_0; have h9_1 := b_877; unfold bd at h9_1; have h9_2 := b_851; unfold bd at h9_2; have h9_3 := b_7; unfold bd at h9_3; have h9_4 := b_4; unfold bd at h9_4; have h9_5 := h_760; unfold bd at h9_5; have h9_6 := b_11; unfold bd at h9_6; have h9_7 := bx_880; unfold bd at h9_7; have h9_8 := by0_; unfold bd at h9_8; have h9_9 := b_749; unfold bd at h9_9; have h8_0 := kb_0; unfold bd at h8_0; have h8_1 := kb_1; unfold bd at h8_1; have h8_2 := kb_300; unfold bd at h8_2; have h8_3 := kb_6; unfold bd at h8_3; omega), (by have h9_0 := b_17; unfold bd at h9_0; have h9_1 := b_877; unfold bd at h9_1; have h9_2 := b_851; unfold bd at h9_2; have h9_3 := b_7; unfold bd at h9_3; have h9_4 := b_4; unfold bd at h9_4; have h9_5 := h_760; unfold bd at h9_5; have h9_6 := b_11; unfold bd at h9_6; have h9_7 := bx_880; unfold bd at h9_7; have h9_8 := by0_; unfold bd at h9_8; have h9_9 := b_749; unfold bd at h9_9; have h8_0 := kb_0; unfold bd at h8_0; have h8_1 := kb_1; unfold bd at h8_1; have h8_2 := kb_300; unfold bd at h8_2; have h8_3 := kb_6; unfold bd at h8_3; omega)⟩)⟩ (g.fcts [2, 1, 0] rfl)) (cwV 2 hts (gV_ t_1203 t_1204 t_1205 t_191 t_1206) rfl rfl rfl (by decide +kernel) ⟨(Nat.le_of_ble_eq_true rfl), (Nat.le_of_ble_eq_true rfl)⟩) (pre3V g hK mq1_ kq1_ (by decide) (q := (RX7, TX7, 19)) rfl) rfl rfl hl.1 rfl (lv_room (Nat.le_of_ble_eq_true rfl)) dX0_closeParts_130 ⟨(Nat.le_of_ble_eq_true rfl), (Nat.le_of_ble_eq_true rfl)⟩) g hK (by decide) (by decide) (fx' := [(7, 5, q1_, .ref a_879), (7, 4, q1_, .ref a_878), (0, 11, a0_, .int y_853), (0, 10, a0_, .int x_759), (0, 8, a0_, .int y_748), (0, 5, a0_, .ref g76_0_5_a0_), (0, 3, a0_, .ref g76_0_3_a0_), (0, 0, a0_, .ref q0_), (0, 2, a0_, .ref q1_), (8, 8, q0_, .int y0_)]) rfl (fun fr_881 H locs hp hMr_881 g => ?_)
                    obtain ⟨hG_882, hG_883, hG_884, hx_885, x_886, h_887, hF_888⟩ := hp
                    have hG_889 := vP.frame hMr_881 go_.2.2.2.1 mg76_0_5_a0_ kg76_0_5_a0_ (by decide) (by decide) hG_858
                    have g := g.more hF_888
                    have hs_890 := jS.mv hG_857 hG_884
                    have hq_891 := kQj.mv hG_859 hG_884
                    have hG_892 := eJx.mv hG_860 hMr_881 go_.2.2.2.1 ma0_ ka0_ (by decide) (by decide) (((hMr_881 a0_ ma0_).1 2 (by rw [ka0_]; decide) (by rw [ka0_]; decide)).symm.trans (fx_at g (i := 9) rfl).2.2.2) hG_884
                    refine lv_goto (tgt := 191) hx hb dX0_closeParts_133 (by decide) ?_
                    have hl9 := lv_sub hl [0, 1, 2, 3, 4, 5, 6] (by rfl : lv_pick [(6, .int r_758), (2, .int j76_2), (5, .int j76_5), (4, .int j76_4), (3, .int v4_3), (0, .ref a0_), (1, .int x1_)] [0, 1, 2, 3, 4, 5, 6] = [(6, .int r_758), (2, .int j76_2), (5, .int j76_5), (4, .int j76_4), (3, .int v4_3), (0, .ref a0_), (1, .int x1_)])
                    have g9 := g.sub (fx' := [(7, 6, q1_, .int x_886), (7, 5, q1_, .ref a_879), (7, 4, q1_, .ref a_878), (0, 10, a0_, .int x_759), (0, 8, a0_, .int y_748), (0, 5, a0_, .ref g76_0_5_a0_), (0, 3, a0_, .ref g76_0_3_a0_), (0, 0, a0_, .ref q0_), (0, 2, a0_, .ref q1_), (8, 8, q0_, .int y0_)]) [0, 1, 2, 4, 5, 6, 7, 8, 9, 10] rfl
                    exact join_18 r_758 x_886 a_879 a_878 x_759 y_748 _ _ _ _ h_887 ma_879 ka_879 ma_878 ka_878 h_760 b_749 g9 hG_892 hG_883 hG_882 hs_890 hl9
            refine lv_aload_n hx hb dX0_closeParts_22 rfl (lv_at hl 2 rfl) ?_
            refine g_getr (K := 110) (C := RX0) (T := TX0) (N := 14) hx hb hts (mc_ inX0) hown hK g ma0_ ka0_ (by decide) rfl 3 (by decide) rfl (hts _ (List.mem_cons_of_mem _ t_376)) (fun _ h9 => h9) rfl dX0_closeParts_23 (fun a_893 ma_893 ka_893 g => ?_)
            refine lv_aload_n hx hb dX0_closeParts_26 rfl (lv_at hl 2 rfl) ?_
            refine g_getk (C := RX0) (T := TX0) (N := 14) hx hb hts (mc_ inX0) hown hK g rfl 8 (by decide) rfl (hts _ (List.mem_cons_of_mem _ t_381)) (fun _ h9 => h9) 1 rfl dX0_closeParts_27 ?_
            refine lv_iconst (v := 1) hx hb dX0_closeParts_30 (by decide) ?_
            have kb_1 : bd 1 1 (1 : Int32) := ⟨by decide, by decide⟩
            refine lv_isub hx hb dX0_closeParts_31 ?_
            refine lv_topi (fun y_894 ey_894 => ?_)
            have ty_894 := sub_bd ey_894 b_11 kb_1 (by decide)
            have b_895 : bd 0 299 y_894 := sub_rg ty_894 b_11 kb_1 (by decide)
            refine g_iald hx hb hK g ma_893 ka_893 (by decide) rfl (in_bd b_895 (by decide)) dX0_closeParts_32 (fun x_896 bx_896 cx_896 => ?_)
            obtain ⟨a_897, ma_897, ka_897, g⟩ := g_factr g ma0_ ka0_ (by decide) 5 rfl
            obtain ⟨tg_898, hv_899, hq_900⟩ := eJx.at hG4_i_a0_ (fx_at g (i := 4) rfl).2.2.2 (fx_at g (i := 1) rfl).2.2.2 (fx_at g (i := 0) rfl).2.2.2 (fx_at g (i := 2) rfl).2.2.2 (by have h9 := tnZ (i := y_894) (by have h9_0 := b_7; unfold bd at h9_0; have h9_1 := b_4; unfold bd at h9_1; have h9_2 := b_11; unfold bd at h9_2; have h9_3 := by0_; unfold bd at h9_3; have h9_4 := b_895; unfold bd at h9_4; have h8_0 := kb_0; unfold bd at h8_0; have h8_1 := kb_1; unfold bd at h8_1; have h8_2 := kb_300; unfold bd at h8_2; omega); have h9_0 := b_7; unfold bd at h9_0; have h9_1 := b_4; unfold bd at h9_1; have h9_2 := b_11; unfold bd at h9_2; have h9_3 := by0_; unfold bd at h9_3; have h9_4 := b_895; unfold bd at h9_4; have h8_0 := kb_0; unfold bd at h8_0; have h8_1 := kb_1; unfold bd at h8_1; have h8_2 := kb_300; unfold bd at h8_2; omega) cx_896
            refine lv_istore (lv' := [(4, .int x_896), (3, .int v4_3), (2, .int v4_2), (0, .ref a0_), (1, .int x1_)]) hx hb dX0_closeParts_33 hl (by decide) rfl (fun ls hl => ?_)
            refine lv_iload hx hb dX0_closeParts_35 (lv_at hl 0 rfl) ?_
            refine lv_bipush (v := 6) hx hb dX0_closeParts_37 (by decide) ?_
            have kb_6 : bd 6 6 (6 : Int32) := ⟨by decide, by decide⟩
            refine lv_icmp_eq (tgt := 49) hx hb dX0_closeParts_39 (by decide) (fun c_901 => ?_) (fun c_901 => ?_)
            · have fc_901 := eq_f c_901
              have b_902 : bd 6 6 x_896 := eqX fc_901 (bdT x_896) kb_6 (by decide)
              refine lv_iconst (v := 1) hx hb dX0_closeParts_49 (by decide) ?_
              refine lv_goto (tgt := 54) hx hb dX0_closeParts_50 (by decide) ?_
              refine lv_istore (lv' := [(5, .int 1), (4, .int x_896), (3, .int v4_3), (2, .int v4_2), (0, .ref a0_), (1, .int x1_)]) hx hb dX0_closeParts_54 hl (by decide) rfl (fun ls hl => ?_)
              refine lv_iload hx hb dX0_closeParts_56 (lv_at hl 0 rfl) ?_
              refine lv_if_ne (tgt := 70) hx hb dX0_closeParts_58 (by decide) (fun c_ => ?_) (fun c_ => absurd c_ (by decide))
              refine lv_iconst (v := 1) hx hb dX0_closeParts_70 (by decide) ?_
              refine lv_goto (tgt := 75) hx hb dX0_closeParts_71 (by decide) ?_
              refine lv_istore_n (lv' := [(2, .int 1), (5, .int 1), (4, .int x_896), (3, .int v4_3), (0, .ref a0_), (1, .int x1_)]) hx hb dX0_closeParts_75 rfl hl (by decide) rfl (fun ls hl => ?_)
              have hl9 := lv_sub hl [0, 1, 2, 3, 4, 5] (by rfl : lv_pick [(2, .int 1), (5, .int 1), (4, .int x_896), (3, .int v4_3), (0, .ref a0_), (1, .int x1_)] [0, 1, 2, 3, 4, 5] = [(2, .int 1), (5, .int 1), (4, .int x_896), (3, .int v4_3), (0, .ref a0_), (1, .int x1_)])
              have g9 := g.sub (fx' := [(0, 5, a0_, .ref a_897), (0, 3, a0_, .ref a_893), (0, 8, a0_, .int x_8), (0, 0, a0_, .ref q0_), (0, 2, a0_, .ref q1_), (8, 8, q0_, .int y0_)]) [0, 1, 2, 3, 4, 5] rfl
              exact join_12 1 1 x_896 a_897 a_893 _ _ _ _ (bd_sub kb_1 (by decide)) (bd_sub kb_1 (by decide)) ma_897 ka_897 ma_893 ka_893 g9 hG4_i_a0_ hG4_c_q1_ hG4_d_q1_ hG4_s_q1_ ⟨tg_898, hv_899, hq_900⟩ hl9
            · have fc_901 := neq_f c_901
              refine lv_iload hx hb dX0_closeParts_42 (lv_at hl 0 rfl) ?_
              refine lv_bipush (v := 7) hx hb dX0_closeParts_44 (by decide) ?_
              have kb_7 : bd 7 7 (7 : Int32) := ⟨by decide, by decide⟩
              refine lv_icmp_ne (tgt := 53) hx hb dX0_closeParts_46 (by decide) (fun c_903 => ?_) (fun c_903 => ?_)
              · have fc_903 := neq_f c_903
                refine lv_iconst (v := 0) hx hb dX0_closeParts_53 (by decide) ?_
                refine lv_istore (lv' := [(5, .int 0), (4, .int x_896), (3, .int v4_3), (2, .int v4_2), (0, .ref a0_), (1, .int x1_)]) hx hb dX0_closeParts_54 hl (by decide) rfl (fun ls hl => ?_)
                refine lv_iload hx hb dX0_closeParts_56 (lv_at hl 0 rfl) ?_
                refine lv_if_ne (tgt := 70) hx hb dX0_closeParts_58 (by decide) (fun c_ => absurd c_ (by decide)) (fun c_ => ?_)
                refine lv_iload hx hb dX0_closeParts_61 (lv_at hl 1 rfl) ?_
                have go_ := g
                refine g_calli (va_runS (As := [.int x_896]) (rest := []) ⟨hx, hb, hml, hown, hts⟩ (r_X0_levelOf l dC dI L kd tys f H.size g.2.2.2.1 x_896) (va_cwS 1 hts (gS_ t_1191 t_1192 t_190 t_1193) rfl rfl rfl (by decide +kernel) ⟨(Nat.le_of_ble_eq_true rfl), (Nat.le_of_ble_eq_true rfl)⟩) (pre3S g hK) rfl rfl hl.1 rfl (lv_room (Nat.le_of_ble_eq_true rfl)) dX0_closeParts_63 ⟨(Nat.le_of_ble_eq_true rfl), (Nat.le_of_ble_eq_true rfl)⟩) g hK (by decide) (by decide) (fx' := [(0, 5, a0_, .ref a_897), (0, 3, a0_, .ref a_893), (0, 8, a0_, .int x_8), (0, 0, a0_, .ref q0_), (0, 2, a0_, .ref q1_), (8, 8, q0_, .int y0_)]) rfl (fun r_904 fr_904 H locs hp hMr_904 g => ?_)
                rcases hp with ⟨h_905, -⟩ | ⟨h_906, h_907, -⟩
                · have hG_908 := eJx.frame hMr_904 go_.2.2.2.1 ma0_ ka0_ (by decide) (by decide) hG4_i_a0_
                  have hG_909 := cOK.frame hMr_904 go_.2.2.2.1 mq1_ kq1_ (by decide) (by decide) hG4_c_q1_
                  have hG_910 := dOK.frame hMr_904 go_.2.2.2.1 mq1_ kq1_ (by decide) (by decide) hG4_d_q1_
                  have hG_911 := jS.frame hMr_904 go_.2.2.2.1 mq1_ kq1_ (by decide) (by decide) hG4_s_q1_
                  have hG_912 := vP.frame hMr_904 go_.2.2.2.1 ma_897 ka_897 (by decide) (by decide) hv_899
                  have hG_913 := kQj.frame hMr_904 go_.2.2.2.1 mq1_ kq1_ (by decide) (by decide) hq_900
                  obtain rfl : r_904 = 0 := h_905
                  refine lv_iload_n hx hb dX0_closeParts_66 rfl (lv_at hl 5 rfl) ?_
                  refine lv_icmp_lt (tgt := 74) hx hb dX0_closeParts_67 (by decide) (fun c_914 => ?_) (fun c_914 => ?_)
                  · have fc_914 := lt_f c_914
                    have b_915 : bd 1 2147483647 x1_ := ltR fc_914 kb_0 (bdT x1_) (by decide)
                    refine lv_iconst (v := 0) hx hb dX0_closeParts_74 (by decide) ?_
                    refine lv_istore_n (lv' := [(2, .int 0), (5, .int 0), (4, .int x_896), (3, .int v4_3), (0, .ref a0_), (1, .int x1_)]) hx hb dX0_closeParts_75 rfl hl (by decide) rfl (fun ls hl => ?_)
                    have hl9 := lv_sub hl [0, 1, 2, 3, 4, 5] (by rfl : lv_pick [(2, .int 0), (5, .int 0), (4, .int x_896), (3, .int v4_3), (0, .ref a0_), (1, .int x1_)] [0, 1, 2, 3, 4, 5] = [(2, .int 0), (5, .int 0), (4, .int x_896), (3, .int v4_3), (0, .ref a0_), (1, .int x1_)])
                    have g9 := g.sub (fx' := [(0, 5, a0_, .ref a_897), (0, 3, a0_, .ref a_893), (0, 8, a0_, .int x_8), (0, 0, a0_, .ref q0_), (0, 2, a0_, .ref q1_), (8, 8, q0_, .int y0_)]) [0, 1, 2, 3, 4, 5] rfl
                    exact join_12 0 0 x_896 a_897 a_893 _ _ _ _ (bd_sub kb_0 (by decide)) (bd_sub kb_0 (by decide)) ma_897 ka_897 ma_893 ka_893 g9 hG_908 hG_909 hG_910 hG_911 ⟨tg_898, hG_912, hG_913⟩ hl9
                  · have fc_914 := nlt_f c_914
                    have b_916 : bd (-2147483648) 0 x1_ := leL fc_914 (bdT x1_) kb_0 (by decide)
                    refine lv_iconst (v := 1) hx hb dX0_closeParts_70 (by decide) ?_
                    refine lv_goto (tgt := 75) hx hb dX0_closeParts_71 (by decide) ?_
                    refine lv_istore_n (lv' := [(2, .int 1), (5, .int 0), (4, .int x_896), (3, .int v4_3), (0, .ref a0_), (1, .int x1_)]) hx hb dX0_closeParts_75 rfl hl (by decide) rfl (fun ls hl => ?_)
                    have hl9 := lv_sub hl [0, 1, 2, 3, 4, 5] (by rfl : lv_pick [(2, .int 1), (5, .int 0), (4, .int x_896), (3, .int v4_3), (0, .ref a0_), (1, .int x1_)] [0, 1, 2, 3, 4, 5] = [(2, .int 1), (5, .int 0), (4, .int x_896), (3, .int v4_3), (0, .ref a0_), (1, .int x1_)])
                    have g9 := g.sub (fx' := [(0, 5, a0_, .ref a_897), (0, 3, a0_, .ref a_893), (0, 8, a0_, .int x_8), (0, 0, a0_, .ref q0_), (0, 2, a0_, .ref q1_), (8, 8, q0_, .int y0_)]) [0, 1, 2, 3, 4, 5] rfl
                    exact join_12 1 0 x_896 a_897 a_893 _ _ _ _ (bd_sub kb_1 (by decide)) (bd_sub kb_0 (by decide)) ma_897 ka_897 ma_893 ka_893 g9 hG_908 hG_909 hG_910 hG_911 ⟨tg_898, hG_912, hG_913⟩ hl9
                · have hG_917 := eJx.frame hMr_904 go_.2.2.2.1 ma0_ ka0_ (by decide) (by decide) hG4_i_a0_
                  have hG_918 := cOK.frame hMr_904 go_.2.2.2.1 mq1_ kq1_ (by decide) (by decide) hG4_c_q1_
                  have hG_919 := dOK.frame hMr_904 go_.2.2.2.1 mq1_ kq1_ (by decide) (by decide) hG4_d_q1_
                  have hG_920 := jS.frame hMr_904 go_.2.2.2.1 mq1_ kq1_ (by decide) (by decide) hG4_s_q1_
                  have hG_921 := vP.frame hMr_904 go_.2.2.2.1 ma_897 ka_897 (by decide) (by decide) hv_899
                  have hG_922 := kQj.frame hMr_904 go_.2.2.2.1 mq1_ kq1_ (by decide) (by decide) hq_900
                  have b_923 : bd 37 206 x_896 := eqX rfl (bdT x_896) h_907 (by decide)
                  refine lv_iload_n hx hb dX0_closeParts_66 rfl (lv_at hl 5 rfl) ?_
                  refine lv_icmp_lt (tgt := 74) hx hb dX0_closeParts_67 (by decide) (fun c_924 => ?_) (fun c_924 => ?_)
                  · have fc_924 := lt_f c_924
                    have b_925 : bd 2 2147483647 x1_ := ltR fc_924 h_906 (bdT x1_) (by decide)
                    refine lv_iconst (v := 0) hx hb dX0_closeParts_74 (by decide) ?_
                    refine lv_istore_n (lv' := [(2, .int 0), (5, .int 0), (4, .int x_896), (3, .int v4_3), (0, .ref a0_), (1, .int x1_)]) hx hb dX0_closeParts_75 rfl hl (by decide) rfl (fun ls hl => ?_)
                    have hl9 := lv_sub hl [0, 1, 2, 3, 4, 5] (by rfl : lv_pick [(2, .int 0), (5, .int 0), (4, .int x_896), (3, .int v4_3), (0, .ref a0_), (1, .int x1_)] [0, 1, 2, 3, 4, 5] = [(2, .int 0), (5, .int 0), (4, .int x_896), (3, .int v4_3), (0, .ref a0_), (1, .int x1_)])
                    have g9 := g.sub (fx' := [(0, 5, a0_, .ref a_897), (0, 3, a0_, .ref a_893), (0, 8, a0_, .int x_8), (0, 0, a0_, .ref q0_), (0, 2, a0_, .ref q1_), (8, 8, q0_, .int y0_)]) [0, 1, 2, 3, 4, 5] rfl
                    exact join_12 0 0 x_896 a_897 a_893 _ _ _ _ (bd_sub kb_0 (by decide)) (bd_sub kb_0 (by decide)) ma_897 ka_897 ma_893 ka_893 g9 hG_917 hG_918 hG_919 hG_920 ⟨tg_898, hG_921, hG_922⟩ hl9
                  · have fc_924 := nlt_f c_924
                    have b_926 : bd (-2147483648) 5 x1_ := leL fc_924 (bdT x1_) h_906 (by decide)
                    refine lv_iconst (v := 1) hx hb dX0_closeParts_70 (by decide) ?_
                    refine lv_goto (tgt := 75) hx hb dX0_closeParts_71 (by decide) ?_
                    refine lv_istore_n (lv' := [(2, .int 1), (5, .int 0), (4, .int x_896), (3, .int v4_3), (0, .ref a0_), (1, .int x1_)]) hx hb dX0_closeParts_75 rfl hl (by decide) rfl (fun ls hl => ?_)
                    have hl9 := lv_sub hl [0, 1, 2, 3, 4, 5] (by rfl : lv_pick [(2, .int 1), (5, .int 0), (4, .int x_896), (3, .int v4_3), (0, .ref a0_), (1, .int x1_)] [0, 1, 2, 3, 4, 5] = [(2, .int 1), (5, .int 0), (4, .int x_896), (3, .int v4_3), (0, .ref a0_), (1, .int x1_)])
                    have g9 := g.sub (fx' := [(0, 5, a0_, .ref a_897), (0, 3, a0_, .ref a_893), (0, 8, a0_, .int x_8), (0, 0, a0_, .ref q0_), (0, 2, a0_, .ref q1_), (8, 8, q0_, .int y0_)]) [0, 1, 2, 3, 4, 5] rfl
                    exact join_12 1 0 x_896 a_897 a_893 _ _ _ _ (bd_sub kb_1 (by decide)) (bd_sub kb_0 (by decide)) ma_897 ka_897 ma_893 ka_893 g9 hG_917 hG_918 hG_919 hG_920 ⟨tg_898, hG_921, hG_922⟩ hl9
              · have fc_903 := eq_f c_903
                have b_927 : bd 7 7 x_896 := eqX fc_903 (bdT x_896) kb_7 (by decide)
                refine lv_iconst (v := 1) hx hb dX0_closeParts_49 (by decide) ?_
                refine lv_goto (tgt := 54) hx hb dX0_closeParts_50 (by decide) ?_
                refine lv_istore (lv' := [(5, .int 1), (4, .int x_896), (3, .int v4_3), (2, .int v4_2), (0, .ref a0_), (1, .int x1_)]) hx hb dX0_closeParts_54 hl (by decide) rfl (fun ls hl => ?_)
                refine lv_iload hx hb dX0_closeParts_56 (lv_at hl 0 rfl) ?_
                refine lv_if_ne (tgt := 70) hx hb dX0_closeParts_58 (by decide) (fun c_ => ?_) (fun c_ => absurd c_ (by decide))
                refine lv_iconst (v := 1) hx hb dX0_closeParts_70 (by decide) ?_
                refine lv_goto (tgt := 75) hx hb dX0_closeParts_71 (by decide) ?_
                refine lv_istore_n (lv' := [(2, .int 1), (5, .int 1), (4, .int x_896), (3, .int v4_3), (0, .ref a0_), (1, .int x1_)]) hx hb dX0_closeParts_75 rfl hl (by decide) rfl (fun ls hl => ?_)
                have hl9 := lv_sub hl [0, 1, 2, 3, 4, 5] (by rfl : lv_pick [(2, .int 1), (5, .int 1), (4, .int x_896), (3, .int v4_3), (0, .ref a0_), (1, .int x1_)] [0, 1, 2, 3, 4, 5] = [(2, .int 1), (5, .int 1), (4, .int x_896), (3, .int v4_3), (0, .ref a0_), (1, .int x1_)])
                have g9 := g.sub (fx' := [(0, 5, a0_, .ref a_897), (0, 3, a0_, .ref a_893), (0, 8, a0_, .int x_8), (0, 0, a0_, .ref q0_), (0, 2, a0_, .ref q1_), (8, 8, q0_, .int y0_)]) [0, 1, 2, 3, 4, 5] rfl
                exact join_12 1 1 x_896 a_897 a_893 _ _ _ _ (bd_sub kb_1 (by decide)) (bd_sub kb_1 (by decide)) ma_897 ka_897 ma_893 ka_893 g9 hG4_i_a0_ hG4_c_q1_ hG4_d_q1_ hG4_s_q1_ ⟨tg_898, hv_899, hq_900⟩ hl9
  have kb_0 : bd 0 0 (0 : Int32) := ⟨by decide, by decide⟩
  have kb_1 : bd 1 1 (1 : Int32) := ⟨by decide, by decide⟩
  have hl9 := lv_sub hl [0, 1, 2, 3] (by rfl : lv_pick [(3, .int 0), (2, .int 1), (0, .ref a0_), (1, .int x1_)] [0, 1, 2, 3] = [(3, .int 0), (2, .int 1), (0, .ref a0_), (1, .int x1_)])
  have g9 := g.sub (fx' := [(0, 0, a0_, .ref q0_), (0, 2, a0_, .ref q1_), (8, 8, q0_, .int y0_)]) [0, 1, 2] rfl
  exact loop_1 (603) 0 1 (bd_sub kb_0 (by decide)) (bd_sub kb_1 (by decide)) (by have h9_0 := kb_0; unfold bd at h9_0; have h9_1 := kb_1; unfold bd at h9_1; omega) _ _ _ _ g9 hGia0_ hGcq1_ hGdq1_ hGsq1_ hl9
