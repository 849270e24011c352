set_option maxHeartbeats 4000000 in
set_option maxRecDepth 100000 in
theorem r_X8_byteAt (l : Launch) (dC : Nat → ClassId) (dI : Nat → Nat → Nat) (L : List Nat) (kd : Nat → Nat) (tys : List (ClassId × FieldType)) (f0 : Nat → va_E) (sz : Nat) (hWT : WT L kd tys f0) (a0_ : Nat) (ma0_ : a0_ ∈ L) (ka0_ : kd a0_ = 8) (x1_ : Int32) (q0_ : Nat) (mq0_ : q0_ ∈ L) (kq0_ : kd q0_ = 104) (hfx : Fs L kd f0 [(8, 4, a0_, .ref q0_)]) : Met l yX8_byteAt (.code yX8_byteAt cX8_byteAt 2 (some .int) :: lw_g) ({ frames := 0, cells := 0, slots := 0, locals := 0 }) (va_Pc [.ref a0_, .int x1_] (P3 (dC, dI) L tys f0 sz)) (va_Qi (fun (r : Int32) (f : Nat → va_E) => (bd 0 255 r ∧ True)) (Q3 (dC, dI) L kd tys [] [] f0 sz) (pA L sz)) 0 0 (pA L sz) := by
  refine Met.ofW (cc := cX8_byteAt) (maxL := 2) (ret := (some .int)) (by decide) rfl ?_
  intro p e s m args below meth c s₁ B hml hv
  obtain ⟨rfl, hsz, hP, hK, hD0⟩ := hv
  have hx := B.exec
  have hb := B.bytes
  have hr := B.returns
  have hts := atoms_spec (ws := (.code yX8_byteAt cX8_byteAt 2 (some .int) :: lw_g)) B.pre
  have hown : s.vm.findClass RX8 = some m.cls := findClass_of_methodNamed B.named
  have hlocks := B.notSynchronized
  subst hsz
  have g : G3 (dC, dI) L kd tys s f0 [] [] f0 s.heap [] [(8, 4, a0_, .ref q0_)] := G3.start hP hD0 hWT hfx
  have hl := lv_entry ([.ref a0_, .int x1_]) (n := 2) (Nat.le_of_ble_eq_true rfl)
  rw [lg_entry_eq]
  generalize (lg_sl ([.ref a0_, .int x1_]) ++ List.replicate (2 - (lg_sl ([.ref a0_, .int x1_])).length) Slot.unset).toArray = ls at hl ⊢
  have hl : lv_has ls 2 [(0, .ref a0_), (1, .int x1_)] := hl
  refine W_q (fun Q hQ => ?_)
  refine lv_iload_n hx hb dX8_byteAt_0 rfl (lv_at hl 1 rfl) ?_
  have kb_0 : bd 0 0 (0 : Int32) := ⟨by decide, by decide⟩
  refine lv_if_lt (tgt := 25) hx hb dX8_byteAt_1 (by decide) (fun c_1 => ?_) (fun c_1 => ?_)
  · have fc_1 := lt_f c_1
    have b_2 : bd (-2147483648) (-1) x1_ := ltL fc_1 (bdT x1_) kb_0 (by decide)
    refine lv_iconst (v := 0) hx hb dX8_byteAt_25 (by decide) ?_
    subst hQ
    exact W.iret (v := 0) hx hb hr (fun t ht hW => ⟨⟨_, _, rfl, ⟨(bd_sub kb_0 (by decide)), trivial⟩, q3_of g hK ht hW⟩, g.2.2.1.F ht⟩) g.2.2.1.2.2 dX8_byteAt_26
  · have fc_1 := nlt_f c_1
    have b_3 : bd 0 2147483647 x1_ := leR fc_1 kb_0 (bdT x1_) (by decide)
    refine lv_iload_n hx hb dX8_byteAt_4 rfl (lv_at hl 1 rfl) ?_
    refine lv_aload_n hx hb dX8_byteAt_5 rfl (lv_at hl 0 rfl) ?_
    refine g_geti (C := RX8) (T := TX8) (N := 10) hx hb hts (mc_ inX8) hown hK g ma0_ ka0_ (by decide) rfl 5 (by decide) rfl (hts _ (List.mem_cons_of_mem _ t_290)) (fun _ h9 => h9) rfl dX8_byteAt_6 (fun x_4 bx_4 g => ?_)
    refine lv_icmp_ge (tgt := 25) hx hb dX8_byteAt_9 (by decide) (fun c_5 => ?_) (fun c_5 => ?_)
    · have fc_5 := le_f c_5
      refine lv_iconst (v := 0) hx hb dX8_byteAt_25 (by decide) ?_
      subst hQ
      exact W.iret (v := 0) hx hb hr (fun t ht hW => ⟨⟨_, _, rfl, ⟨(bd_sub kb_0 (by decide)), trivial⟩, q3_of g hK ht hW⟩, g.2.2.1.F ht⟩) g.2.2.1.2.2 dX8_byteAt_26
    · have fc_5 := nle_f c_5
      have b_6 : bd 0 3999 x1_ := ltL fc_5 b_3 bx_4 (by decide)
      have b_7 : bd 1 4000 x_4 := ltR fc_5 b_3 bx_4 (by decide)
      refine lv_aload_n hx hb dX8_byteAt_12 rfl (lv_at hl 0 rfl) ?_
      refine g_getk (C := RX8) (T := TX8) (N := 10) hx hb hts (mc_ inX8) hown hK g rfl 4 (by decide) rfl (hts _ (List.mem_cons_of_mem _ t_289)) (fun _ h9 => h9) 1 rfl dX8_byteAt_13 ?_
      refine lv_iload_n hx hb dX8_byteAt_16 rfl (lv_at hl 1 rfl) ?_
      refine g_bald hx hb hK g mq0_ kq0_ (by decide) rfl (in_bd b_6 (by decide)) dX8_byteAt_17 (fun x_8 bx_8 => ?_)
      refine lv_sipush (v := 255) hx hb dX8_byteAt_18 (by decide) ?_
      have kb_255 : bd 255 255 (255 : Int32) := ⟨by decide, by decide⟩
      refine lv_iand hx hb dX8_byteAt_21 ?_
      refine lv_topi (fun y_9 ey_9 => ?_)
      have b_10 : bd 0 255 y_9 := and_rg ey_9 bx_8 kb_255 (by decide)
      refine lv_goto (tgt := 26) hx hb dX8_byteAt_22 (by decide) ?_
      subst hQ
      exact W.iret (v := y_9) hx hb hr (fun t ht hW => ⟨⟨_, _, rfl, ⟨b_10, trivial⟩, q3_of g hK ht hW⟩, g.2.2.1.F ht⟩) g.2.2.1.2.2 dX8_byteAt_26
set_option maxHeartbeats 4000000 in
set_option maxRecDepth 100000 in
theorem r_X8_behindBlanks (l : Launch) (dC : Nat → ClassId) (dI : Nat → Nat → Nat) (L : List Nat) (kd : Nat → Nat) (tys : List (ClassId × FieldType)) (f0 : Nat → va_E) (sz : Nat) (hWT : WT L kd tys f0) (a0_ : Nat) (ma0_ : a0_ ∈ L) (ka0_ : kd a0_ = 8) (x1_ : Int32) (q0_ : Nat) (mq0_ : q0_ ∈ L) (kq0_ : kd q0_ = 104) (hfx : Fs L kd f0 [(8, 4, a0_, .ref q0_)]) : Met l yX8_behindBlanks (.code yX8_behindBlanks cX8_behindBlanks 3 (some .int) :: lw_g) ({ frames := 1, cells := 0, slots := 0, locals := 21 }) (va_Pc [.ref a0_, .int x1_] (P3 (dC, dI) L tys f0 sz)) (va_Qi (fun (r : Int32) (f : Nat → va_E) => (True)) (Q3 (dC, dI) L kd tys [] [] f0 sz) (pA L sz)) 0 0 (pA L sz) := by
  refine Met.ofW (cc := cX8_behindBlanks) (maxL := 3) (ret := (some .int)) (by decide) rfl ?_
  intro p e s m args below meth c s₁ B hml hv
  obtain ⟨rfl, hsz, hP, hK, hD0⟩ := hv
  have hx := B.exec
  have hb := B.bytes
  have hr := B.returns
  have hts := atoms_spec (ws := (.code yX8_behindBlanks cX8_behindBlanks 3 (some .int) :: lw_g)) B.pre
  have hown : s.vm.findClass RX8 = some m.cls := findClass_of_methodNamed B.named
  have hlocks := B.notSynchronized
  subst hsz
  have g : G3 (dC, dI) L kd tys s f0 [] [] f0 s.heap [] [(8, 4, a0_, .ref q0_)] := G3.start hP hD0 hWT hfx
  have hl := lv_entry ([.ref a0_, .int x1_]) (n := 3) (Nat.le_of_ble_eq_true rfl)
  rw [lg_entry_eq]
  generalize (lg_sl ([.ref a0_, .int x1_]) ++ List.replicate (3 - (lg_sl ([.ref a0_, .int x1_])).length) Slot.unset).toArray = ls at hl ⊢
  have hl : lv_has ls 3 [(0, .ref a0_), (1, .int x1_)] := hl
  refine W_q (fun Q hQ => ?_)
  refine lv_iload_n hx hb dX8_behindBlanks_0 rfl (lv_at hl 1 rfl) ?_
  refine lv_istore_n (lv' := [(2, .int x1_), (0, .ref a0_), (1, .int x1_)]) hx hb dX8_behindBlanks_1 rfl hl (by decide) rfl (fun ls hl => ?_)
  have loop_1 : ∀ (n : Nat) (v2_2 : Int32), (2147483647 - v2_2.toInt < (n : Int)) → ∀ (f : Nat → va_E) (H : Heap) (locs : List Loc) (ls : Array Slot), G3 (dC, dI) L kd tys s f0 [] [] f H locs [(8, 4, a0_, .ref q0_)] → lv_has ls 3 [(2, .int v2_2), (0, .ref a0_), (1, .int x1_)] → W p l e ({ frames := 1, cells := 0, slots := 0, locals := 21 } : Room) s m [.ref a0_, .int x1_].toArray below meth c H locs 0 0 Q (F0 m 2 ls []) := by
    intro n2
    induction n2 with
    | zero =>
      intro v2_2  hm2 f H locs ls g  hl
      exact absurd hm2 (by have h9_v2_2 := bdT v2_2; unfold bd at h9_v2_2; omega)
    | succ n2 ih2 =>
      intro v2_2  hm2 f H locs ls g  hl
      refine lv_iload_n hx hb dX8_behindBlanks_2 rfl (lv_at hl 0 rfl) ?_
      refine lv_aload_n hx hb dX8_behindBlanks_3 rfl (lv_at hl 1 rfl) ?_
      refine g_geti (C := RX8) (T := TX8) (N := 10) hx hb hts (mc_ inX8) hown hK g ma0_ ka0_ (by decide) rfl 5 (by decide) rfl (hts _ (List.mem_cons_of_mem _ t_290)) (fun _ h9 => h9) rfl dX8_behindBlanks_4 (fun x_2 bx_2 g => ?_)
      refine lv_icmp_ge (tgt := 36) hx hb dX8_behindBlanks_7 (by decide) (fun c_3 => ?_) (fun c_3 => ?_)
      · have fc_3 := le_f c_3
        have b_4 : bd 0 2147483647 v2_2 := leR fc_3 bx_2 (bdT v2_2) (by decide)
        refine lv_iload_n hx hb dX8_behindBlanks_36 rfl (lv_at hl 0 rfl) ?_
        subst hQ
        exact W.iret (v := v2_2) hx hb hr (fun t ht hW => ⟨⟨_, _, rfl, trivial, q3_of g hK ht hW⟩, g.2.2.1.F ht⟩) g.2.2.1.2.2 dX8_behindBlanks_37
      · have fc_3 := nle_f c_3
        have b_5 : bd (-2147483648) 3999 v2_2 := ltL fc_3 (bdT v2_2) bx_2 (by decide)
        refine lv_aload_n hx hb dX8_behindBlanks_10 rfl (lv_at hl 1 rfl) ?_
        refine lv_iload_n hx hb dX8_behindBlanks_11 rfl (lv_at hl 0 rfl) ?_
        refine g_calli (va_runV (As := [.int v2_2]) (rest := []) ⟨hx, hb, hml, hown, hts⟩ (r_X8_byteAt l dC dI L kd tys f H.size g.2.2.2.1 a0_ ma0_ ka0_ v2_2 q0_ mq0_ kq0_ (g.fcts [1] rfl)) (cwV 1 hts (gV_ t_1004 t_1006 t_3 t_184 t_1007) rfl rfl rfl (by decide +kernel) ⟨(Nat.le_of_ble_eq_true rfl), (Nat.le_of_ble_eq_true rfl)⟩) (pre3V g hK ma0_ ka0_ (by decide) (q := (RX8, TX8, 10)) rfl) rfl rfl hl.1 rfl (lv_room (Nat.le_of_ble_eq_true rfl)) dX8_behindBlanks_12 ⟨(Nat.le_of_ble_eq_true rfl), (Nat.le_of_ble_eq_true rfl)⟩) g hK (by decide) (by decide) (fx' := [(8, 5, a0_, .int x_2), (8, 4, a0_, .ref q0_)]) rfl (fun r_6 fr_6 H locs hp hMr_6 g => ?_)
        obtain ⟨h_7, -⟩ := hp
        refine lv_bipush (v := 32) hx hb dX8_behindBlanks_15 (by decide) ?_
        have kb_32 : bd 32 32 (32 : Int32) := ⟨by decide, by decide⟩
        refine lv_icmp_eq (tgt := 30) hx hb dX8_behindBlanks_17 (by decide) (fun c_8 => ?_) (fun c_8 => ?_)
        · have fc_8 := eq_f c_8
          have b_9 : bd 32 32 r_6 := eqX fc_8 h_7 kb_32 (by decide)
          have kb_1 : bd 1 1 (1 : Int32) := ⟨by decide, by decide⟩
          obtain ⟨y_10, ey_10⟩ : ∃ z : Int32, z = v2_2 + 1 := ⟨_, rfl⟩
          refine lv_iinc (v := y_10) (lv' := [(2, .int y_10), (0, .ref a0_), (1, .int x1_)]) hx hb dX8_behindBlanks_30 hl (k := 0) rfl (by rw [ey_10]; rfl) (by decide) rfl (fun ls hl => ?_)
          have ty_10 := add_bd ey_10 b_5 kb_1 (by decide)
          have b_11 : bd (-2147483647) 4000 y_10 := add_rg ty_10 b_5 kb_1 (by decide)
          refine lv_goto (tgt := 2) hx hb dX8_behindBlanks_33 (by decide) ?_
          have hl9 := lv_sub hl [0, 1, 2] (by rfl : lv_pick [(2, .int y_10), (0, .ref a0_), (1, .int x1_)] [0, 1, 2] = [(2, .int y_10), (0, .ref a0_), (1, .int x1_)])
          have g9 := g.sub (fx' := [(8, 4, a0_, .ref q0_)]) [1] rfl
          exact ih2  y_10  (by have h9_0 := b_11; unfold bd at h9_0; have h9_1 := bdT v2_2; unfold bd at h9_1; have h9_2 := kb_1; unfold bd at h9_2; have h9_3 := kb_32; unfold bd at h9_3; omega) _ _ _ _ g9  hl9
        · have fc_8 := neq_f c_8
          refine lv_aload_n hx hb dX8_behindBlanks_20 rfl (lv_at hl 1 rfl) ?_
          refine lv_iload_n hx hb dX8_behindBlanks_21 rfl (lv_at hl 0 rfl) ?_
          refine g_calli (va_runV (As := [.int v2_2]) (rest := []) ⟨hx, hb, hml, hown, hts⟩ (r_X8_byteAt l dC dI L kd tys fr_6 H.size g.2.2.2.1 a0_ ma0_ ka0_ v2_2 q0_ mq0_ kq0_ (g.fcts [1] rfl)) (cwV 1 hts (gV_ t_1004 t_1006 t_3 t_184 t_1007) rfl rfl rfl (by decide +kernel) ⟨(Nat.le_of_ble_eq_true rfl), (Nat.le_of_ble_eq_true rfl)⟩) (pre3V g hK ma0_ ka0_ (by decide) (q := (RX8, TX8, 10)) rfl) rfl rfl hl.1 rfl (lv_room (Nat.le_of_ble_eq_true rfl)) dX8_behindBlanks_22 ⟨(Nat.le_of_ble_eq_true rfl), (Nat.le_of_ble_eq_true rfl)⟩) g hK (by decide) (by decide) (fx' := [(8, 5, a0_, .int x_2), (8, 4, a0_, .ref q0_)]) rfl (fun r_12 fr_12 H locs hp hMr_12 g => ?_)
          obtain ⟨h_13, -⟩ := hp
          refine lv_bipush (v := 10) hx hb dX8_behindBlanks_25 (by decide) ?_
          have kb_10 : bd 10 10 (10 : Int32) := ⟨by decide, by decide⟩
          refine lv_icmp_ne (tgt := 36) hx hb dX8_behindBlanks_27 (by decide) (fun c_14 => ?_) (fun c_14 => ?_)
          · have fc_14 := neq_f c_14
            refine lv_iload_n hx hb dX8_behindBlanks_36 rfl (lv_at hl 0 rfl) ?_
            subst hQ
            exact W.iret (v := v2_2) hx hb hr (fun t ht hW => ⟨⟨_, _, rfl, trivial, q3_of g hK ht hW⟩, g.2.2.1.F ht⟩) g.2.2.1.2.2 dX8_behindBlanks_37
          · have fc_14 := eq_f c_14
            have b_15 : bd 10 10 r_12 := eqX fc_14 h_13 kb_10 (by decide)
            have kb_1 : bd 1 1 (1 : Int32) := ⟨by decide, by decide⟩
            obtain ⟨y_16, ey_16⟩ : ∃ z : Int32, z = v2_2 + 1 := ⟨_, rfl⟩
            refine lv_iinc (v := y_16) (lv' := [(2, .int y_16), (0, .ref a0_), (1, .int x1_)]) hx hb dX8_behindBlanks_30 hl (k := 0) rfl (by rw [ey_16]; rfl) (by decide) rfl (fun ls hl => ?_)
            have ty_16 := add_bd ey_16 b_5 kb_1 (by decide)
            have b_17 : bd (-2147483647) 4000 y_16 := add_rg ty_16 b_5 kb_1 (by decide)
            refine lv_goto (tgt := 2) hx hb dX8_behindBlanks_33 (by decide) ?_
            have hl9 := lv_sub hl [0, 1, 2] (by rfl : lv_pick [(2, .int y_16), (0, .ref a0_), (1, .int x1_)] [0, 1, 2] = [(2, .int y_16), (0, .ref a0_), (1, .int x1_)])
            have g9 := g.sub (fx' := [(8, 4, a0_, .ref q0_)]) [1] rfl
            exact ih2  y_16  (by have h9_0 := b_17; unfold bd at h9_0; have h9_1 := bdT v2_2; unfold bd at h9_1; have h9_2 := kb_1; unfold bd at h9_2; have h9_3 := kb_10; unfold bd at h9_3; have h9_4 := kb_32; unfold bd at h9_4; omega) _ _ _ _ g9  hl9
  have hl9 := lv_sub hl [0, 1, 2] (by rfl : lv_pick [(2, .int x1_), (0, .ref a0_), (1, .int x1_)] [0, 1, 2] = [(2, .int x1_), (0, .ref a0_), (1, .int x1_)])
  have g9 := g.sub (fx' := [(8, 4, a0_, .ref q0_)]) [0] rfl
  exact loop_1 (8589934593) x1_  (by have h9_0 := bdT x1_; unfold bd at h9_0; omega) _ _ _ _ g9  hl9
set_option maxHeartbeats 4000000 in
set_option maxRecDepth 100000 in
theorem r_X8_pairKind (l : Launch) (dC : Nat → ClassId) (dI : Nat → Nat → Nat) (L : List Nat) (kd : Nat → Nat) (tys : List (ClassId × FieldType)) (f0 : Nat → va_E) (sz : Nat) (hWT : WT L kd tys f0) (x0_ : Int32) (x1_ : Int32) : Met l yX8_pairKind (.code yX8_pairKind cX8_pairKind 2 (some .int) :: lw_g) ({ frames := 0, cells := 0, slots := 0, locals := 0 }) (va_Pc [.int x0_, .int x1_] (P3 (dC, dI) L tys f0 sz)) (va_Qi (fun (r : Int32) (f : Nat → va_E) => (bd 2 206 r ∧ True)) (Q3 (dC, dI) L kd tys [] [] f0 sz) (pA L sz)) 0 0 (pA L sz) := by
  refine Met.ofW (cc := cX8_pairKind) (maxL := 2) (ret := (some .int)) (by decide) rfl ?_
  intro p e s m args below meth c s₁ B hml hv
  obtain ⟨rfl, hsz, hP, hK, hD0⟩ := hv
  have hx := B.exec
  have hb := B.bytes
  have hr := B.returns
  have hts := atoms_spec (ws := (.code yX8_pairKind cX8_pairKind 2 (some .int) :: lw_g)) B.pre
  have hown : s.vm.findClass RX8 = some m.cls := findClass_of_methodNamed B.named
  have hlocks := B.notSynchronized
  subst hsz
  have g : G3 (dC, dI) L kd tys s f0 [] [] f0 s.heap [] [] := G3.start hP hD0 hWT Fs.nil
  have hl := lv_entry ([.int x0_, .int x1_]) (n := 2) (Nat.le_of_ble_eq_true rfl)
  rw [lg_entry_eq]
  generalize (lg_sl ([.int x0_, .int x1_]) ++ List.replicate (2 - (lg_sl ([.int x0_, .int x1_])).length) Slot.unset).toArray = ls at hl ⊢
  have hl : lv_has ls 2 [(0, .int x0_), (1, .int x1_)] := hl
  refine W_q (fun Q hQ => ?_)
  refine lv_iload_n hx hb dX8_pairKind_0 rfl (lv_at hl 1 rfl) ?_
  refine lv_bipush (v := 61) hx hb dX8_pairKind_1 (by decide) ?_
  have kb_61 : bd 61 61 (61 : Int32) := ⟨by decide, by decide⟩
  refine lv_icmp_ne (tgt := 66) hx hb dX8_pairKind_3 (by decide) (fun c_1 => ?_) (fun c_1 => ?_)
  · have fc_1 := neq_f c_1
    refine lv_iload_n hx hb dX8_pairKind_66 rfl (lv_at hl 0 rfl) ?_
    refine lv_iload_n hx hb dX8_pairKind_67 rfl (lv_at hl 1 rfl) ?_
    refine lv_icmp_eq (tgt := 73) hx hb dX8_pairKind_68 (by decide) (fun c_2 => ?_) (fun c_2 => ?_)
    · have fc_2 := eq_f c_2
      refine lv_iload_n hx hb dX8_pairKind_73 rfl (lv_at hl 0 rfl) ?_
      by_cases e_3 : x0_ = 38
      · refine lv_topi (fun z_4 ez_4 => ?_)
        obtain rfl : z_4 = 38 := ez_4.trans e_3
        have kb_38 : bd 38 38 (38 : Int32) := ⟨by decide, by decide⟩
        have b_5 : bd 38 38 x0_ := eqX (eq_f e_3) (bdT x0_) kb_38 (by decide)
        refine lv_lookup (off := 38) (tgt := 112) hx hb dX8_pairKind_74 (by decide) (by decide) (by decide) ?_
        refine lv_sipush (v := 205) hx hb dX8_pairKind_112 (by decide) ?_
        have kb_205 : bd 205 205 (205 : Int32) := ⟨by decide, by decide⟩
        subst hQ
        exact W.iret (v := 205) hx hb hr (fun t ht hW => ⟨⟨_, _, rfl, ⟨(bd_sub kb_205 (by decide)), trivial⟩, q3_of g hK ht hW⟩, g.2.2.1.F ht⟩) g.2.2.1.2.2 dX8_pairKind_115
      by_cases e_6 : x0_ = 46
      · refine lv_topi (fun z_7 ez_7 => ?_)
        obtain rfl : z_7 = 46 := ez_7.trans e_6
        have kb_46 : bd 46 46 (46 : Int32) := ⟨by decide, by decide⟩
        have b_8 : bd 46 46 x0_ := eqX (eq_f e_6) (bdT x0_) kb_46 (by decide)
        refine lv_lookup (off := 34) (tgt := 108) hx hb dX8_pairKind_74 (by decide) (by decide) (by decide) ?_
        refine lv_sipush (v := 200) hx hb dX8_pairKind_108 (by decide) ?_
        have kb_200 : bd 200 200 (200 : Int32) := ⟨by decide, by decide⟩
        subst hQ
        exact W.iret (v := 200) hx hb hr (fun t ht hW => ⟨⟨_, _, rfl, ⟨(bd_sub kb_200 (by decide)), trivial⟩, q3_of g hK ht hW⟩, g.2.2.1.F ht⟩) g.2.2.1.2.2 dX8_pairKind_111
      by_cases e_9 : x0_ = 124
      · refine lv_topi (fun z_10 ez_10 => ?_)
        obtain rfl : z_10 = 124 := ez_10.trans e_9
        have kb_124 : bd 124 124 (124 : Int32) := ⟨by decide, by decide⟩
        have b_11 : bd 124 124 x0_ := eqX (eq_f e_9) (bdT x0_) kb_124 (by decide)
        refine lv_lookup (off := 42) (tgt := 116) hx hb dX8_pairKind_74 (by decide) (by decide) (by decide) ?_
        refine lv_sipush (v := 206) hx hb dX8_pairKind_116 (by decide) ?_
        have kb_206 : bd 206 206 (206 : Int32) := ⟨by decide, by decide⟩
        subst hQ
        exact W.iret (v := 206) hx hb hr (fun t ht hW => ⟨⟨_, _, rfl, ⟨(bd_sub kb_206 (by decide)), trivial⟩, q3_of g hK ht hW⟩, g.2.2.1.F ht⟩) g.2.2.1.2.2 dX8_pairKind_119
      refine lv_lookup (off := 46) (tgt := 120) hx hb dX8_pairKind_74 (by decide) (by have a0 : x0_.toInt ≠ 38 := fun h => e_3 (Int32.toInt_inj.mp (h.trans (by decide))); have a1 : x0_.toInt ≠ 46 := fun h => e_6 (Int32.toInt_inj.mp (h.trans (by decide))); have a2 : x0_.toInt ≠ 124 := fun h => e_9 (Int32.toInt_inj.mp (h.trans (by decide))); simp [Op.lookupswitch.offset, a0, a1, a2, Ne.symm]) (by decide) ?_
      refine lv_iconst (v := 2) hx hb dX8_pairKind_120 (by decide) ?_
      have kb_2 : bd 2 2 (2 : Int32) := ⟨by decide, by decide⟩
      subst hQ
      exact W.iret (v := 2) hx hb hr (fun t ht hW => ⟨⟨_, _, rfl, ⟨(bd_sub kb_2 (by decide)), trivial⟩, q3_of g hK ht hW⟩, g.2.2.1.F ht⟩) g.2.2.1.2.2 dX8_pairKind_121
    · have fc_2 := neq_f c_2
      refine lv_iconst (v := 2) hx hb dX8_pairKind_71 (by decide) ?_
      have kb_2 : bd 2 2 (2 : Int32) := ⟨by decide, by decide⟩
      subst hQ
      exact W.iret (v := 2) hx hb hr (fun t ht hW => ⟨⟨_, _, rfl, ⟨(bd_sub kb_2 (by decide)), trivial⟩, q3_of g hK ht hW⟩, g.2.2.1.F ht⟩) g.2.2.1.2.2 dX8_pairKind_72
  · have fc_1 := eq_f c_1
    have b_12 : bd 61 61 x1_ := eqX fc_1 (bdT x1_) kb_61 (by decide)
    refine lv_iload_n hx hb dX8_pairKind_6 rfl (lv_at hl 0 rfl) ?_
    by_cases e_13 : x0_ = 33
    · refine lv_topi (fun z_14 ez_14 => ?_)
      obtain rfl : z_14 = 33 := ez_14.trans e_13
      have kb_33 : bd 33 33 (33 : Int32) := ⟨by decide, by decide⟩
      have b_15 : bd 33 33 x0_ := eqX (eq_f e_13) (bdT x0_) kb_33 (by decide)
      refine lv_lookup (off := 45) (tgt := 52) hx hb dX8_pairKind_7 (by decide) (by decide) (by decide) ?_
      refine lv_sipush (v := 202) hx hb dX8_pairKind_52 (by decide) ?_
      have kb_202 : bd 202 202 (202 : Int32) := ⟨by decide, by decide⟩
      subst hQ
      exact W.iret (v := 202) hx hb hr (fun t ht hW => ⟨⟨_, _, rfl, ⟨(bd_sub kb_202 (by decide)), trivial⟩, q3_of g hK ht hW⟩, g.2.2.1.F ht⟩) g.2.2.1.2.2 dX8_pairKind_55
    by_cases e_16 : x0_ = 60
    · refine lv_topi (fun z_17 ez_17 => ?_)
      obtain rfl : z_17 = 60 := ez_17.trans e_16
      have kb_60 : bd 60 60 (60 : Int32) := ⟨by decide, by decide⟩
      have b_18 : bd 60 60 x0_ := eqX (eq_f e_16) (bdT x0_) kb_60 (by decide)
      refine lv_lookup (off := 49) (tgt := 56) hx hb dX8_pairKind_7 (by decide) (by decide) (by decide) ?_
      refine lv_sipush (v := 203) hx hb dX8_pairKind_56 (by decide) ?_
      have kb_203 : bd 203 203 (203 : Int32) := ⟨by decide, by decide⟩
      subst hQ
      exact W.iret (v := 203) hx hb hr (fun t ht hW => ⟨⟨_, _, rfl, ⟨(bd_sub kb_203 (by decide)), trivial⟩, q3_of g hK ht hW⟩, g.2.2.1.F ht⟩) g.2.2.1.2.2 dX8_pairKind_59
    by_cases e_19 : x0_ = 61
    · refine lv_topi (fun z_20 ez_20 => ?_)
      obtain rfl : z_20 = 61 := ez_20.trans e_19
      have b_21 : bd 61 61 x0_ := eqX (eq_f e_19) (bdT x0_) kb_61 (by decide)
      refine lv_lookup (off := 41) (tgt := 48) hx hb dX8_pairKind_7 (by decide) (by decide) (by decide) ?_
      refine lv_sipush (v := 201) hx hb dX8_pairKind_48 (by decide) ?_
      have kb_201 : bd 201 201 (201 : Int32) := ⟨by decide, by decide⟩
      subst hQ
      exact W.iret (v := 201) hx hb hr (fun t ht hW => ⟨⟨_, _, rfl, ⟨(bd_sub kb_201 (by decide)), trivial⟩, q3_of g hK ht hW⟩, g.2.2.1.F ht⟩) g.2.2.1.2.2 dX8_pairKind_51
    by_cases e_22 : x0_ = 62
    · refine lv_topi (fun z_23 ez_23 => ?_)
      obtain rfl : z_23 = 62 := ez_23.trans e_22
      have kb_62 : bd 62 62 (62 : Int32) := ⟨by decide, by decide⟩
      have b_24 : bd 62 62 x0_ := eqX (eq_f e_22) (bdT x0_) kb_62 (by decide)
      refine lv_lookup (off := 53) (tgt := 60) hx hb dX8_pairKind_7 (by decide) (by decide) (by decide) ?_
      refine lv_sipush (v := 204) hx hb dX8_pairKind_60 (by decide) ?_
      have kb_204 : bd 204 204 (204 : Int32) := ⟨by decide, by decide⟩
      subst hQ
      exact W.iret (v := 204) hx hb hr (fun t ht hW => ⟨⟨_, _, rfl, ⟨(bd_sub kb_204 (by decide)), trivial⟩, q3_of g hK ht hW⟩, g.2.2.1.F ht⟩) g.2.2.1.2.2 dX8_pairKind_63
    refine lv_lookup (off := 57) (tgt := 64) hx hb dX8_pairKind_7 (by decide) (by have a0 : x0_.toInt ≠ 33 := fun h => e_13 (Int32.toInt_inj.mp (h.trans (by decide))); have a1 : x0_.toInt ≠ 60 := fun h => e_16 (Int32.toInt_inj.mp (h.trans (by decide))); have a2 : x0_.toInt ≠ 61 := fun h => e_19 (Int32.toInt_inj.mp (h.trans (by decide))); have a3 : x0_.toInt ≠ 62 := fun h => e_22 (Int32.toInt_inj.mp (h.trans (by decide))); simp [Op.lookupswitch.offset, a0, a1, a2, a3, Ne.symm]) (by decide) ?_
    refine lv_iconst (v := 2) hx hb dX8_pairKind_64 (by decide) ?_
    have kb_2 : bd 2 2 (2 : Int32) := ⟨by decide, by decide⟩
    subst hQ
    exact W.iret (v := 2) hx hb hr (fun t ht hW => ⟨⟨_, _, rfl, ⟨(bd_sub kb_2 (by decide)), trivial⟩, q3_of g hK ht hW⟩, g.2.2.1.F ht⟩) g.2.2.1.2.2 dX8_pairKind_65
set_option maxHeartbeats 4000000 in
set_option maxRecDepth 100000 in
theorem r_J0_isLatin1_aae02_2 (l : Launch) (dC : Nat → ClassId) (dI : Nat → Nat → Nat) (L : List Nat) (kd : Nat → Nat) (tys : List (ClassId × FieldType)) (f0 : Nat → va_E) (sz : Nat) (hWT : WT L kd tys f0) (adK adV : Nat → Nat) : Met l yJ0_isLatin1_aae02 (.code yJ0_isLatin1_aae02 cJ0_isLatin1_aae02 1 (some .boolean) :: lw_g) ({ frames := 0, cells := 0, slots := 0, locals := 0 }) (va_Pc [.ref (adK 2)] (P3A (dC, dI) L tys f0 sz adK adV)) (va_Qi (fun (r : Int32) (f : Nat → va_E) => (r = 1 ∧ True)) (Q3 (dC, dI) L kd tys [] [] f0 sz) (pA L sz)) 0 0 (pA L sz) := by
  refine Met.ofW (cc := cJ0_isLatin1_aae02) (maxL := 1) (ret := (some .boolean)) (by decide) rfl ?_
  intro p e s m args below meth c s₁ B hml hv
  obtain ⟨rfl, ⟨hsz, hP, hK, hD0⟩, hAm⟩ := hv
  have hx := B.exec
  have hb := B.bytes
  have hr := B.returns
  have hts := atoms_spec (ws := (.code yJ0_isLatin1_aae02 cJ0_isLatin1_aae02 1 (some .boolean) :: lw_g)) B.pre
  have hown : s.vm.findClass RJ0 = some m.cls := findClass_of_methodNamed B.named
  have hlocks := B.notSynchronized
  subst hsz
  have g : G3 (dC, dI) L kd tys s f0 [] [] f0 s.heap [] [] := G3.start hP hD0 hWT Fs.nil
  have hl := lv_entry ([.ref (adK 2)]) (n := 1) (Nat.le_of_ble_eq_true rfl)
  rw [lg_entry_eq]
  generalize (lg_sl ([.ref (adK 2)]) ++ List.replicate (1 - (lg_sl ([.ref (adK 2)])).length) Slot.unset).toArray = ls at hl ⊢
  have hl : lv_has ls 1 [(0, .ref (adK 2))] := hl
  refine W_q (fun Q hQ => ?_)
  refine va_gets (v := .int 1) hx hb hAm.2.2.1 g.2.2.1 hown (hts _ (List.mem_cons_of_mem _ t_240)) (fun _ h9 => h9) dJ0_isLatin1_aae02_0 ?_
  refine lv_if_eq (tgt := 17) hx hb dJ0_isLatin1_aae02_3 (by decide) (fun c_ => absurd c_ (by decide)) (fun c_ => ?_)
  refine lv_aload_n hx hb dJ0_isLatin1_aae02_6 rfl (lv_at hl 0 rfl) ?_
  refine vk_getf hx hb (hAm.2.1.1 2 (by decide)).2.1 g.2.2.1 hown (hts _ (List.mem_cons_of_mem _ t_2845)) (fun _ h9 => h9) dJ0_isLatin1_aae02_7 ?_
  refine lv_if_ne (tgt := 17) hx hb dJ0_isLatin1_aae02_10 (by decide) (fun c_ => absurd c_ (by decide)) (fun c_ => ?_)
  refine lv_iconst (v := 1) hx hb dJ0_isLatin1_aae02_13 (by decide) ?_
  refine lv_goto (tgt := 18) hx hb dJ0_isLatin1_aae02_14 (by decide) ?_
  subst hQ
  have kb_1 : bd 1 1 (1 : Int32) := ⟨by decide, by decide⟩
  exact W.zret (v := 1) hx hb hr (nar_z (bd_sub kb_1 (by decide) : bd 0 1 _).1 (bd_sub kb_1 (by decide) : bd 0 1 _).2) (fun t ht hW => ⟨⟨_, _, rfl, ⟨rfl, trivial⟩, q3_of g hK ht hW⟩, g.2.2.1.F ht⟩) g.2.2.1.2.2 dJ0_isLatin1_aae02_18
set_option maxHeartbeats 4000000 in
set_option maxRecDepth 100000 in
theorem r_J0_coder_7d493_2 (l : Launch) (dC : Nat → ClassId) (dI : Nat → Nat → Nat) (L : List Nat) (kd : Nat → Nat) (tys : List (ClassId × FieldType)) (f0 : Nat → va_E) (sz : Nat) (hWT : WT L kd tys f0) (adK adV : Nat → Nat) : Met l yJ0_coder_7d493 (.code yJ0_coder_7d493 cJ0_coder_7d493 1 (some .byte) :: lw_g) ({ frames := 0, cells := 0, slots := 0, locals := 0 }) (va_Pc [.ref (adK 2)] (P3A (dC, dI) L tys f0 sz adK adV)) (va_Qi (fun (r : Int32) (f : Nat → va_E) => (r = 0 ∧ True)) (Q3 (dC, dI) L kd tys [] [] f0 sz) (pA L sz)) 0 0 (pA L sz) := by
  refine Met.ofW (cc := cJ0_coder_7d493) (maxL := 1) (ret := (some .byte)) (by decide) rfl ?_
  intro p e s m args below meth c s₁ B hml hv
  obtain ⟨rfl, ⟨hsz, hP, hK, hD0⟩, hAm⟩ := hv
  have hx := B.exec
  have hb := B.bytes
  have hr := B.returns
  have hts := atoms_spec (ws := (.code yJ0_coder_7d493 cJ0_coder_7d493 1 (some .byte) :: lw_g)) B.pre
  have hown : s.vm.findClass RJ0 = some m.cls := findClass_of_methodNamed B.named
  have hlocks := B.notSynchronized
  subst hsz
  have g : G3 (dC, dI) L kd tys s f0 [] [] f0 s.heap [] [] := G3.start hP hD0 hWT Fs.nil
  have hl := lv_entry ([.ref (adK 2)]) (n := 1) (Nat.le_of_ble_eq_true rfl)
  rw [lg_entry_eq]
  generalize (lg_sl ([.ref (adK 2)]) ++ List.replicate (1 - (lg_sl ([.ref (adK 2)])).length) Slot.unset).toArray = ls at hl ⊢
  have hl : lv_has ls 1 [(0, .ref (adK 2))] := hl
  refine W_q (fun Q hQ => ?_)
  refine va_gets (v := .int 1) hx hb hAm.2.2.1 g.2.2.1 hown (hts _ (List.mem_cons_of_mem _ t_240)) (fun _ h9 => h9) dJ0_coder_7d493_0 ?_
  refine lv_if_eq (tgt := 13) hx hb dJ0_coder_7d493_3 (by decide) (fun c_ => absurd c_ (by decide)) (fun c_ => ?_)
  refine lv_aload_n hx hb dJ0_coder_7d493_6 rfl (lv_at hl 0 rfl) ?_
  refine vk_getf hx hb (hAm.2.1.1 2 (by decide)).2.1 g.2.2.1 hown (hts _ (List.mem_cons_of_mem _ t_2845)) (fun _ h9 => h9) dJ0_coder_7d493_7 ?_
  refine lv_goto (tgt := 14) hx hb dJ0_coder_7d493_10 (by decide) ?_
  subst hQ
  exact W.zret (v := 0) hx hb hr rfl (fun t ht hW => ⟨⟨_, _, rfl, ⟨rfl, trivial⟩, q3_of g hK ht hW⟩, g.2.2.1.F ht⟩) g.2.2.1.2.2 dJ0_coder_7d493_14
set_option maxHeartbeats 4000000 in
set_option maxRecDepth 100000 in
theorem r_J0_length_8abf5_2 (l : Launch) (dC : Nat → ClassId) (dI : Nat → Nat → Nat) (L : List Nat) (kd : Nat → Nat) (tys : List (ClassId × FieldType)) (f0 : Nat → va_E) (sz : Nat) (hWT : WT L kd tys f0) (adK adV : Nat → Nat) : Met l yJ0_length_8abf5 (.code yJ0_length_8abf5 cJ0_length_8abf5 1 (some .int) :: lw_g) ({ frames := 1, cells := 0, slots := 0, locals := 20 }) (va_Pc [.ref (adK 2)] (P3A (dC, dI) L tys f0 sz adK adV)) (va_Qi (fun (r : Int32) (f : Nat → va_E) => (r = 18 ∧ True)) (Q3 (dC, dI) L kd tys [] [] f0 sz) (pA L sz)) 0 0 (pA L sz) := by
  refine Met.ofW (cc := cJ0_length_8abf5) (maxL := 1) (ret := (some .int)) (by decide) rfl ?_
  intro p e s m args below meth c s₁ B hml hv
  obtain ⟨rfl, ⟨hsz, hP, hK, hD0⟩, hAm⟩ := hv
  have hx := B.exec
  have hb := B.bytes
  have hr := B.returns
  have hts := atoms_spec (ws := (.code yJ0_length_8abf5 cJ0_length_8abf5 1 (some .int) :: lw_g)) B.pre
  have hown : s.vm.findClass RJ0 = some m.cls := findClass_of_methodNamed B.named
  have hlocks := B.notSynchronized
  subst hsz
  have g : G3 (dC, dI) L kd tys s f0 [] [] f0 s.heap [] [] := G3.start hP hD0 hWT Fs.nil
  have hl := lv_entry ([.ref (adK 2)]) (n := 1) (Nat.le_of_ble_eq_true rfl)
  rw [lg_entry_eq]
  generalize (lg_sl ([.ref (adK 2)]) ++ List.replicate (1 - (lg_sl ([.ref (adK 2)])).length) Slot.unset).toArray = ls at hl ⊢
  have hl : lv_has ls 1 [(0, .ref (adK 2))] := hl
  refine W_q (fun Q hQ => ?_)
  refine lv_aload_n hx hb dJ0_length_8abf5_0 rfl (lv_at hl 0 rfl) ?_
  refine vk_getf hx hb (hAm.2.1.1 2 (by decide)).2.2.1 g.2.2.1 hown (hts _ (List.mem_cons_of_mem _ t_2844)) (fun _ h9 => h9) dJ0_length_8abf5_1 ?_
  refine va_tlen (v := 18) hx hb (hAm.2.1.1 2 (by decide)).2.2.2 g.2.2.1 (by decide) dJ0_length_8abf5_4 ?_
  refine lv_aload_n hx hb dJ0_length_8abf5_5 rfl (lv_at hl 0 rfl) ?_
  refine g_calli (va_runV (As := []) (rest := [.int 18]) ⟨hx, hb, hml, hown, hts⟩ (r_J0_coder_7d493_2 l dC dI L kd tys f0 s.heap.size g.2.2.2.1 adK adV) (cwV 0 hts (gV_ t_236 t_237 t_238 t_185 t_239) rfl rfl rfl (by decide +kernel) ⟨(Nat.le_of_ble_eq_true rfl), (Nat.le_of_ble_eq_true rfl)⟩) (pre3TA g hK hAm 2 (by decide)) rfl rfl hl.1 rfl (lv_room (Nat.le_of_ble_eq_true rfl)) dJ0_length_8abf5_6 ⟨(Nat.le_of_ble_eq_true rfl), (Nat.le_of_ble_eq_true rfl)⟩) g hK (by decide) (by decide) (fx' := []) rfl (fun r_1 fr_1 H locs hp hMr_1 g => ?_)
  obtain ⟨h_2, -⟩ := hp
  obtain rfl : r_1 = 0 := h_2
  have kb_0 : bd 0 0 (0 : Int32) := ⟨by decide, by decide⟩
  have kb_18 : bd 18 18 (18 : Int32) := ⟨by decide, by decide⟩
  refine lv_ishr hx hb dJ0_length_8abf5_9 ?_
  refine lv_topi (fun y_3 ey_3 => ?_)
  obtain rfl : y_3 = 18 := ey_3.trans (by decide)
  subst hQ
  exact W.iret (v := 18) hx hb hr (fun t ht hW => ⟨⟨_, _, rfl, ⟨rfl, trivial⟩, q3_of g hK ht hW⟩, g.2.2.1.F ht⟩) g.2.2.1.2.2 dJ0_length_8abf5_10
set_option maxHeartbeats 4000000 in
set_option maxRecDepth 100000 in
theorem r_J1_canEncode_9a6ad (l : Launch) (dC : Nat → ClassId) (dI : Nat → Nat → Nat) (L : List Nat) (kd : Nat → Nat) (tys : List (ClassId × FieldType)) (f0 : Nat → va_E) (sz : Nat) (hWT : WT L kd tys f0) (adK adV : Nat → Nat) (x0_ : Int32) : Met l yJ1_canEncode_9a6ad (.code yJ1_canEncode_9a6ad cJ1_canEncode_9a6ad 1 (some .boolean) :: lw_g) ({ frames := 0, cells := 0, slots := 0, locals := 0 }) (va_Pc [.int x0_] (P3A (dC, dI) L tys f0 sz adK adV)) (va_Qi (fun (r : Int32) (f : Nat → va_E) => (r = 0 ∧ True) ∨ (r = 1 ∧ bd 0 255 x0_ ∧ True)) (Q3 (dC, dI) L kd tys [] [] f0 sz) (pA L sz)) 0 0 (pA L sz) := by
  refine Met.ofW (cc := cJ1_canEncode_9a6ad) (maxL := 1) (ret := (some .boolean)) (by decide) rfl ?_
  intro p e s m args below meth c s₁ B hml hv
  obtain ⟨rfl, ⟨hsz, hP, hK, hD0⟩, hAm⟩ := hv
  have hx := B.exec
  have hb := B.bytes
  have hr := B.returns
  have hts := atoms_spec (ws := (.code yJ1_canEncode_9a6ad cJ1_canEncode_9a6ad 1 (some .boolean) :: lw_g)) B.pre
  have hown : s.vm.findClass RJ1 = some m.cls := findClass_of_methodNamed B.named
  have hlocks := B.notSynchronized
  subst hsz
  have g : G3 (dC, dI) L kd tys s f0 [] [] f0 s.heap [] [] := G3.start hP hD0 hWT Fs.nil
  have hl := lv_entry ([.int x0_]) (n := 1) (Nat.le_of_ble_eq_true rfl)
  rw [lg_entry_eq]
  generalize (lg_sl ([.int x0_]) ++ List.replicate (1 - (lg_sl ([.int x0_])).length) Slot.unset).toArray = ls at hl ⊢
  have hl : lv_has ls 1 [(0, .int x0_)] := hl
  refine W_q (fun Q hQ => ?_)
  refine lv_iload_n hx hb dJ1_canEncode_9a6ad_0 rfl (lv_at hl 0 rfl) ?_
  have kb_0 : bd 0 0 (0 : Int32) := ⟨by decide, by decide⟩
  refine lv_if_lt (tgt := 15) hx hb dJ1_canEncode_9a6ad_1 (by decide) (fun c_1 => ?_) (fun c_1 => ?_)
  · have fc_1 := lt_f c_1
    have b_2 : bd (-2147483648) (-1) x0_ := ltL fc_1 (bdT x0_) kb_0 (by decide)
    refine lv_iconst (v := 0) hx hb dJ1_canEncode_9a6ad_15 (by decide) ?_
    subst hQ
    exact W.zret (v := 0) hx hb hr (nar_z (bd_sub kb_0 (by decide) : bd 0 1 _).1 (bd_sub kb_0 (by decide) : bd 0 1 _).2) (fun t ht hW => ⟨⟨_, _, rfl, Or.inl ⟨rfl, trivial⟩, q3_of g hK ht hW⟩, g.2.2.1.F ht⟩) g.2.2.1.2.2 dJ1_canEncode_9a6ad_16
  · have fc_1 := nlt_f c_1
    have b_3 : bd 0 2147483647 x0_ := leR fc_1 kb_0 (bdT x0_) (by decide)
    refine lv_iload_n hx hb dJ1_canEncode_9a6ad_4 rfl (lv_at hl 0 rfl) ?_
    refine lv_sipush (v := 255) hx hb dJ1_canEncode_9a6ad_5 (by decide) ?_
    have kb_255 : bd 255 255 (255 : Int32) := ⟨by decide, by decide⟩
    refine lv_icmp_gt (tgt := 15) hx hb dJ1_canEncode_9a6ad_8 (by decide) (fun c_4 => ?_) (fun c_4 => ?_)
    · have fc_4 := lt_f c_4
      have b_5 : bd 256 2147483647 x0_ := ltR fc_4 kb_255 b_3 (by decide)
      refine lv_iconst (v := 0) hx hb dJ1_canEncode_9a6ad_15 (by decide) ?_
      subst hQ
      exact W.zret (v := 0) hx hb hr (nar_z (bd_sub kb_0 (by decide) : bd 0 1 _).1 (bd_sub kb_0 (by decide) : bd 0 1 _).2) (fun t ht hW => ⟨⟨_, _, rfl, Or.inl ⟨rfl, trivial⟩, q3_of g hK ht hW⟩, g.2.2.1.F ht⟩) g.2.2.1.2.2 dJ1_canEncode_9a6ad_16
    · have fc_4 := nlt_f c_4
      have b_6 : bd 0 255 x0_ := leL fc_4 b_3 kb_255 (by decide)
      refine lv_iconst (v := 1) hx hb dJ1_canEncode_9a6ad_11 (by decide) ?_
      refine lv_goto (tgt := 16) hx hb dJ1_canEncode_9a6ad_12 (by decide) ?_
      subst hQ
      have kb_1 : bd 1 1 (1 : Int32) := ⟨by decide, by decide⟩
      exact W.zret (v := 1) hx hb hr (nar_z (bd_sub kb_1 (by decide) : bd 0 1 _).1 (bd_sub kb_1 (by decide) : bd 0 1 _).2) (fun t ht hW => ⟨⟨_, _, rfl, Or.inr (⟨rfl, b_6, trivial⟩), q3_of g hK ht hW⟩, g.2.2.1.F ht⟩) g.2.2.1.2.2 dJ1_canEncode_9a6ad_16
set_option maxHeartbeats 4000000 in
set_option maxRecDepth 100000 in
theorem r_J1_indexOfChar_4cfef (l : Launch) (dC : Nat → ClassId) (dI : Nat → Nat → Nat) (L : List Nat) (kd : Nat → Nat) (tys : List (ClassId × FieldType)) (f0 : Nat → va_E) (sz : Nat) (hWT : WT L kd tys f0) (adK adV : Nat → Nat) (x1_ : Int32) (x2_ : Int32) (bx2_ : bd 0 17 x2_) (x3_ : Int32) (bx3_ : bd 1 18 x3_) : Met l yJ1_indexOfChar_4cfef (.code yJ1_indexOfChar_4cfef cJ1_indexOfChar_4cfef 6 (some .int) :: lw_g) ({ frames := 0, cells := 0, slots := 0, locals := 0 }) (va_Pc [.ref (adV 2), .int x1_, .int x2_, .int x3_] (P3A (dC, dI) L tys f0 sz adK adV)) (va_Qi (fun (r : Int32) (f : Nat → va_E) => (bd (-1) 17 r ∧ True)) (Q3 (dC, dI) L kd tys [] [] f0 sz) (pA L sz)) 0 0 (pA L sz) := by
  refine Met.ofW (cc := cJ1_indexOfChar_4cfef) (maxL := 6) (ret := (some .int)) (by decide) rfl ?_
  intro p e s m args below meth c s₁ B hml hv
  obtain ⟨rfl, ⟨hsz, hP, hK, hD0⟩, hAm⟩ := hv
  have hx := B.exec
  have hb := B.bytes
  have hr := B.returns
  have hts := atoms_spec (ws := (.code yJ1_indexOfChar_4cfef cJ1_indexOfChar_4cfef 6 (some .int) :: lw_g)) B.pre
  have hown : s.vm.findClass RJ1 = some m.cls := findClass_of_methodNamed B.named
  have hlocks := B.notSynchronized
  subst hsz
  have g : G3 (dC, dI) L kd tys s f0 [] [] f0 s.heap [] [] := G3.start hP hD0 hWT Fs.nil
  have hl := lv_entry ([.ref (adV 2), .int x1_, .int x2_, .int x3_]) (n := 6) (Nat.le_of_ble_eq_true rfl)
  rw [lg_entry_eq]
  generalize (lg_sl ([.ref (adV 2), .int x1_, .int x2_, .int x3_]) ++ List.replicate (6 - (lg_sl ([.ref (adV 2), .int x1_, .int x2_, .int x3_])).length) Slot.unset).toArray = ls at hl ⊢
  have hl : lv_has ls 6 [(0, .ref (adV 2)), (1, .int x1_), (2, .int x2_), (3, .int x3_)] := hl
  refine W_q (fun Q hQ => ?_)
  refine lv_iload_n hx hb dJ1_indexOfChar_4cfef_0 rfl (lv_at hl 1 rfl) ?_
  refine lv_i2b hx hb dJ1_indexOfChar_4cfef_1 rfl ?_
  refine lv_topi (fun y_1 ey_1 => ?_)
  refine lv_istore (lv' := [(4, .int y_1), (0, .ref (adV 2)), (1, .int x1_), (2, .int x2_), (3, .int x3_)]) hx hb dJ1_indexOfChar_4cfef_2 hl (by decide) rfl (fun ls hl => ?_)
  refine lv_iload_n hx hb dJ1_indexOfChar_4cfef_4 rfl (lv_at hl 3 rfl) ?_
  refine lv_istore (lv' := [(5, .int x2_), (4, .int y_1), (0, .ref (adV 2)), (1, .int x1_), (2, .int x2_), (3, .int x3_)]) hx hb dJ1_indexOfChar_4cfef_5 hl (by decide) rfl (fun ls hl => ?_)
  have loop_2 : ∀ (n : Nat) (v7_5 : Int32), bd 0 18 v7_5 → (18 - v7_5.toInt < (n : Int)) → ∀ (f : Nat → va_E) (H : Heap) (locs : List Loc) (ls : Array Slot), G3 (dC, dI) L kd tys s f0 [] [] f H locs [] → lv_has ls 6 [(5, .int v7_5), (4, .int y_1), (0, .ref (adV 2)), (1, .int x1_), (2, .int x2_), (3, .int x3_)] → W p l e ({ frames := 0, cells := 0, slots := 0, locals := 0 } : Room) s m [.ref (adV 2), .int x1_, .int x2_, .int x3_].toArray below meth c H locs 0 0 Q (F0 m 7 ls []) := by
    intro n7
    induction n7 with
    | zero =>
      intro v7_5 bv7_5 hm7 f H locs ls g  hl
      exact absurd hm7 (by have h9_v7_5 := bv7_5; unfold bd at h9_v7_5; omega)
    | succ n7 ih7 =>
      intro v7_5 bv7_5 hm7 f H locs ls g  hl
      refine lv_iload hx hb dJ1_indexOfChar_4cfef_7 (lv_at hl 0 rfl) ?_
      refine lv_iload_n hx hb dJ1_indexOfChar_4cfef_9 rfl (lv_at hl 5 rfl) ?_
      refine lv_icmp_ge (tgt := 31) hx hb dJ1_indexOfChar_4cfef_10 (by decide) (fun c_3 => ?_) (fun c_3 => ?_)
      · have fc_3 := le_f c_3
        have b_4 : bd 1 18 v7_5 := leR fc_3 bx3_ bv7_5 (by decide)
        refine lv_iconst (v := (-1)) hx hb dJ1_indexOfChar_4cfef_31 (by decide) ?_
        have kb_m1 : bd (-1) (-1) ((-1) : Int32) := ⟨by decide, by decide⟩
        subst hQ
        exact W.iret (v := (-1)) hx hb hr (fun t ht hW => ⟨⟨_, _, rfl, ⟨(bd_sub kb_m1 (by decide)), trivial⟩, q3_of g hK ht hW⟩, g.2.2.1.F ht⟩) g.2.2.1.2.2 dJ1_indexOfChar_4cfef_32
      · have fc_3 := nle_f c_3
        have b_5 : bd 0 17 v7_5 := ltL fc_3 bv7_5 bx3_ (by decide)
        refine lv_aload_n hx hb dJ1_indexOfChar_4cfef_13 rfl (lv_at hl 2 rfl) ?_
        refine lv_iload hx hb dJ1_indexOfChar_4cfef_14 (lv_at hl 0 rfl) ?_
        refine va_tb hx hb (hAm.2.1.1 2 (by decide)).2.2.2 g.2.2.1 (in_bd b_5 (by decide)) rfl dJ1_indexOfChar_4cfef_16 ?_
        refine lv_topi (fun y_6 ey_6 => ?_)
        refine lv_iload hx hb dJ1_indexOfChar_4cfef_17 (lv_at hl 1 rfl) ?_
        refine lv_icmp_ne (tgt := 25) hx hb dJ1_indexOfChar_4cfef_19 (by decide) (fun c_7 => ?_) (fun c_7 => ?_)
        · have fc_7 := neq_f c_7
          have kb_1 : bd 1 1 (1 : Int32) := ⟨by decide, by decide⟩
          obtain ⟨y_8, ey_8⟩ : ∃ z : Int32, z = v7_5 + 1 := ⟨_, rfl⟩
          refine lv_iinc (v := y_8) (lv' := [(5, .int y_8), (4, .int y_1), (0, .ref (adV 2)), (1, .int x1_), (2, .int x2_), (3, .int x3_)]) hx hb dJ1_indexOfChar_4cfef_25 hl (k := 0) rfl (by rw [ey_8]; rfl) (by decide) rfl (fun ls hl => ?_)
          have ty_8 := add_bd ey_8 b_5 kb_1 (by decide)
          have b_9 : bd 1 18 y_8 := add_rg ty_8 b_5 kb_1 (by decide)
          refine lv_goto (tgt := 7) hx hb dJ1_indexOfChar_4cfef_28 (by decide) ?_
          have hl9 := lv_sub hl [0, 1, 2, 3, 4, 5] (by rfl : lv_pick [(5, .int y_8), (4, .int y_1), (0, .ref (adV 2)), (1, .int x1_), (2, .int x2_), (3, .int x3_)] [0, 1, 2, 3, 4, 5] = [(5, .int y_8), (4, .int y_1), (0, .ref (adV 2)), (1, .int x1_), (2, .int x2_), (3, .int x3_)])
          have g9 := g.sub (fx' := []) [] rfl
          exact ih7  y_8 (bd_sub b_9 (by decide)) (by have h9_0 := b_9; unfold bd at h9_0; have h9_1 := bv7_5; unfold bd at h9_1; have h9_2 := kb_1; unfold bd at h9_2; omega) _ _ _ _ g9  hl9
        · have fc_7 := eq_f c_7
          refine lv_iload hx hb dJ1_indexOfChar_4cfef_22 (lv_at hl 0 rfl) ?_
          subst hQ
          exact W.iret (v := v7_5) hx hb hr (fun t ht hW => ⟨⟨_, _, rfl, ⟨(bd_sub b_5 (by decide)), trivial⟩, q3_of g hK ht hW⟩, g.2.2.1.F ht⟩) g.2.2.1.2.2 dJ1_indexOfChar_4cfef_24
  have hl9 := lv_sub hl [0, 1, 2, 3, 4, 5] (by rfl : lv_pick [(5, .int x2_), (4, .int y_1), (0, .ref (adV 2)), (1, .int x1_), (2, .int x2_), (3, .int x3_)] [0, 1, 2, 3, 4, 5] = [(5, .int x2_), (4, .int y_1), (0, .ref (adV 2)), (1, .int x1_), (2, .int x2_), (3, .int x3_)])
  have g9 := g.sub (fx' := []) [] rfl
  exact loop_2 (39) x2_ (bd_sub bx2_ (by decide)) (by have h9_0 := bx2_; unfold bd at h9_0; omega) _ _ _ _ g9  hl9
set_option maxHeartbeats 4000000 in
set_option maxRecDepth 100000 in
theorem r_J1_indexOf_4cfef (l : Launch) (dC : Nat → ClassId) (dI : Nat → Nat → Nat) (L : List Nat) (kd : Nat → Nat) (tys : List (ClassId × FieldType)) (f0 : Nat → va_E) (sz : Nat) (hWT : WT L kd tys f0) (adK adV : Nat → Nat) (x1_ : Int32) (x2_ : Int32) (x3_ : Int32) : Met l yJ1_indexOf_4cfef (.code yJ1_indexOf_4cfef cJ1_indexOf_4cfef 4 (some .int) :: lw_g) ({ frames := 1, cells := 0, slots := 0, locals := 25 }) (va_Pc [.ref (adV 2), .int x1_, .int x2_, .int x3_] (P3A (dC, dI) L tys f0 sz adK adV)) (va_Qi (fun (r : Int32) (f : Nat → va_E) => (bd (-1) 17 r ∧ True)) (Q3 (dC, dI) L kd tys [] [] f0 sz) (pA L sz)) 0 0 (pA L sz) := by
  refine Met.ofW (cc := cJ1_indexOf_4cfef) (maxL := 4) (ret := (some .int)) (by decide) rfl ?_
  intro p e s m args below meth c s₁ B hml hv
  obtain ⟨rfl, ⟨hsz, hP, hK, hD0⟩, hAm⟩ := hv
  have hx := B.exec
  have hb := B.bytes
  have hr := B.returns
  have hts := atoms_spec (ws := (.code yJ1_indexOf_4cfef cJ1_indexOf_4cfef 4 (some .int) :: lw_g)) B.pre
  have hown : s.vm.findClass RJ1 = some m.cls := findClass_of_methodNamed B.named
  have hlocks := B.notSynchronized
  subst hsz
  have g : G3 (dC, dI) L kd tys s f0 [] [] f0 s.heap [] [] := G3.start hP hD0 hWT Fs.nil
  have hl := lv_entry ([.ref (adV 2), .int x1_, .int x2_, .int x3_]) (n := 4) (Nat.le_of_ble_eq_true rfl)
  rw [lg_entry_eq]
  generalize (lg_sl ([.ref (adV 2), .int x1_, .int x2_, .int x3_]) ++ List.replicate (4 - (lg_sl ([.ref (adV 2), .int x1_, .int x2_, .int x3_])).length) Slot.unset).toArray = ls at hl ⊢
  have hl : lv_has ls 4 [(0, .ref (adV 2)), (1, .int x1_), (2, .int x2_), (3, .int x3_)] := hl
  refine W_q (fun Q hQ => ?_)
  refine lv_iload_n hx hb dJ1_indexOf_4cfef_0 rfl (lv_at hl 1 rfl) ?_
  refine g_calli (va_runS (As := [.int x1_]) (rest := []) ⟨hx, hb, hml, hown, hts⟩ (r_J1_canEncode_9a6ad l dC dI L kd tys f0 s.heap.size g.2.2.2.1 adK adV x1_) (va_cwS 1 hts (gS_ t_1037 t_1038 t_186 t_1039) rfl rfl rfl (by decide +kernel) ⟨(Nat.le_of_ble_eq_true rfl), (Nat.le_of_ble_eq_true rfl)⟩) (pre3SA g hK hAm) rfl rfl hl.1 rfl (lv_room (Nat.le_of_ble_eq_true rfl)) dJ1_indexOf_4cfef_1 ⟨(Nat.le_of_ble_eq_true rfl), (Nat.le_of_ble_eq_true rfl)⟩) g hK (by decide) (by decide) (fx' := []) rfl (fun r_1 fr_1 H locs hp hMr_1 g => ?_)
  rcases hp with ⟨h_2, -⟩ | ⟨h_3, h_4, -⟩
  · obtain rfl : r_1 = 0 := h_2
    refine lv_if_ne (tgt := 9) hx hb dJ1_indexOf_4cfef_4 (by decide) (fun c_ => absurd c_ (by decide)) (fun c_ => ?_)
    refine lv_iconst (v := (-1)) hx hb dJ1_indexOf_4cfef_7 (by decide) ?_
    have kb_m1 : bd (-1) (-1) ((-1) : Int32) := ⟨by decide, by decide⟩
    subst hQ
    exact W.iret (v := (-1)) hx hb hr (fun t ht hW => ⟨⟨_, _, rfl, ⟨(bd_sub kb_m1 (by decide)), trivial⟩, q3_of g hK ht hW⟩, g.2.2.1.F ht⟩) g.2.2.1.2.2 dJ1_indexOf_4cfef_8
  · obtain rfl : r_1 = 1 := h_3
    have b_5 : bd 0 255 x1_ := eqX rfl (bdT x1_) h_4 (by decide)
    refine lv_if_ne (tgt := 9) hx hb dJ1_indexOf_4cfef_4 (by decide) (fun c_ => ?_) (fun c_ => absurd c_ (by decide))
    refine lv_iload_n hx hb dJ1_indexOf_4cfef_9 rfl (lv_at hl 2 rfl) ?_
    refine lv_iconst (v := 0) hx hb dJ1_indexOf_4cfef_10 (by decide) ?_
    have kb_0 : bd 0 0 (0 : Int32) := ⟨by decide, by decide⟩
    refine va_mmax hx hb (hml.trans hl.1.symm) hown (hts _ (List.mem_cons_of_mem _ t_1040)) (hts _ (List.mem_cons_of_mem _ t_1041)) (hts _ (List.mem_cons_of_mem _ t_204)) (hts _ (List.mem_cons_of_mem _ t_1042)) (Nat.le_of_ble_eq_true rfl) (Nat.le_of_ble_eq_true rfl) (Nat.le_of_ble_eq_true rfl) (Nat.le_of_ble_eq_true rfl) dJ1_indexOf_4cfef_11 ?_
    refine lv_topi (fun y_6 ey_6 => ?_)
    have ty_6 : y_6.toInt = max x2_.toInt (0 : Int32).toInt := by rw [ey_6]; exact mmax_ok _ _
    have b_7 : bd 0 2147483647 y_6 := max_rg ty_6 (bdT x2_) kb_0 (by decide)
    refine lv_istore_n (lv' := [(2, .int y_6), (0, .ref (adV 2)), (1, .int x1_), (3, .int x3_)]) hx hb dJ1_indexOf_4cfef_14 rfl hl (by decide) rfl (fun ls hl => ?_)
    refine lv_iload_n hx hb dJ1_indexOf_4cfef_15 rfl (lv_at hl 3 rfl) ?_
    refine lv_aload_n hx hb dJ1_indexOf_4cfef_16 rfl (lv_at hl 1 rfl) ?_
    refine va_tlen (v := 18) hx hb (hAm.2.1.1 2 (by decide)).2.2.2 g.2.2.1 (by decide) dJ1_indexOf_4cfef_17 ?_
    have kb_18 : bd 18 18 (18 : Int32) := ⟨by decide, by decide⟩
    refine va_mmin hx hb (hml.trans hl.1.symm) hown (hts _ (List.mem_cons_of_mem _ t_1043)) (hts _ (List.mem_cons_of_mem _ t_998)) (hts _ (List.mem_cons_of_mem _ t_204)) (hts _ (List.mem_cons_of_mem _ t_999)) (Nat.le_of_ble_eq_true rfl) (Nat.le_of_ble_eq_true rfl) (Nat.le_of_ble_eq_true rfl) (Nat.le_of_ble_eq_true rfl) dJ1_indexOf_4cfef_18 ?_
    refine lv_topi (fun y_8 ey_8 => ?_)
    have ty_8 : y_8.toInt = min x3_.toInt (18 : Int32).toInt := by rw [ey_8]; exact mmin_ok _ _
    have b_9 : bd (-2147483648) 18 y_8 := min_rg ty_8 (bdT x3_) kb_18 (by decide)
    refine lv_istore_n (lv' := [(3, .int y_8), (2, .int y_6), (0, .ref (adV 2)), (1, .int x1_)]) hx hb dJ1_indexOf_4cfef_21 rfl hl (by decide) rfl (fun ls hl => ?_)
    refine lv_iload_n hx hb dJ1_indexOf_4cfef_22 rfl (lv_at hl 1 rfl) ?_
    refine lv_iload_n hx hb dJ1_indexOf_4cfef_23 rfl (lv_at hl 0 rfl) ?_
    refine lv_icmp_lt (tgt := 29) hx hb dJ1_indexOf_4cfef_24 (by decide) (fun c_10 => ?_) (fun c_10 => ?_)
    · have fc_10 := lt_f c_10
      have b_11 : bd 0 17 y_6 := ltL fc_10 b_7 b_9 (by decide)
      have b_12 : bd 1 18 y_8 := ltR fc_10 b_7 b_9 (by decide)
      refine lv_aload_n hx hb dJ1_indexOf_4cfef_29 rfl (lv_at hl 2 rfl) ?_
      refine lv_iload_n hx hb dJ1_indexOf_4cfef_30 rfl (lv_at hl 3 rfl) ?_
      refine lv_iload_n hx hb dJ1_indexOf_4cfef_31 rfl (lv_at hl 1 rfl) ?_
      refine lv_iload_n hx hb dJ1_indexOf_4cfef_32 rfl (lv_at hl 0 rfl) ?_
      refine g_calli (va_runS (As := [.ref (adV 2), .int x1_, .int y_6, .int y_8]) (rest := []) ⟨hx, hb, hml, hown, hts⟩ (r_J1_indexOfChar_4cfef l dC dI L kd tys fr_1 H.size g.2.2.2.1 adK adV x1_ y_6 b_11 y_8 b_12) (va_cwS 4 hts (gS_ t_1044 t_1045 t_186 t_1046) rfl rfl rfl (by decide +kernel) ⟨(Nat.le_of_ble_eq_true rfl), (Nat.le_of_ble_eq_true rfl)⟩) (pre3SA g hK hAm) rfl rfl hl.1 rfl (lv_room (Nat.le_of_ble_eq_true rfl)) dJ1_indexOf_4cfef_33 ⟨(Nat.le_of_ble_eq_true rfl), (Nat.le_of_ble_eq_true rfl)⟩) g hK (by decide) (by decide) (fx' := []) rfl (fun r_13 fr_13 H locs hp hMr_13 g => ?_)
      obtain ⟨h_14, -⟩ := hp
      subst hQ
      exact W.iret (v := r_13) hx hb hr (fun t ht hW => ⟨⟨_, _, rfl, ⟨h_14, trivial⟩, q3_of g hK ht hW⟩, g.2.2.1.F ht⟩) g.2.2.1.2.2 dJ1_indexOf_4cfef_36
    · have fc_10 := nlt_f c_10
      refine lv_iconst (v := (-1)) hx hb dJ1_indexOf_4cfef_27 (by decide) ?_
      have kb_m1 : bd (-1) (-1) ((-1) : Int32) := ⟨by decide, by decide⟩
      subst hQ
      exact W.iret (v := (-1)) hx hb hr (fun t ht hW => ⟨⟨_, _, rfl, ⟨(bd_sub kb_m1 (by decide)), trivial⟩, q3_of g hK ht hW⟩, g.2.2.1.F ht⟩) g.2.2.1.2.2 dJ1_indexOf_4cfef_28
set_option maxHeartbeats 4000000 in
set_option maxRecDepth 100000 in
theorem r_J0_indexOf_7cf53 (l : Launch) (dC : Nat → ClassId) (dI : Nat → Nat → Nat) (L : List Nat) (kd : Nat → Nat) (tys : List (ClassId × FieldType)) (f0 : Nat → va_E) (sz : Nat) (hWT : WT L kd tys f0) (adK adV : Nat → Nat) (x1_ : Int32) (x2_ : Int32) : Met l yJ0_indexOf_7cf53 (.code yJ0_indexOf_7cf53 cJ0_indexOf_7cf53 3 (some .int) :: lw_g) ({ frames := 2, cells := 0, slots := 0, locals := 48 }) (va_Pc [.ref (adK 2), .int x1_, .int x2_] (P3A (dC, dI) L tys f0 sz adK adV)) (va_Qi (fun (r : Int32) (f : Nat → va_E) => (bd (-1) 17 r ∧ True)) (Q3 (dC, dI) L kd tys [] [] f0 sz) (pA L sz)) 0 0 (pA L sz) := by
  refine Met.ofW (cc := cJ0_indexOf_7cf53) (maxL := 3) (ret := (some .int)) (by decide) rfl ?_
  intro p e s m args below meth c s₁ B hml hv
  obtain ⟨rfl, ⟨hsz, hP, hK, hD0⟩, hAm⟩ := hv
  have hx := B.exec
  have hb := B.bytes
  have hr := B.returns
  have hts := atoms_spec (ws := (.code yJ0_indexOf_7cf53 cJ0_indexOf_7cf53 3 (some .int) :: lw_g)) B.pre
  have hown : s.vm.findClass RJ0 = some m.cls := findClass_of_methodNamed B.named
  have hlocks := B.notSynchronized
  subst hsz
  have g : G3 (dC, dI) L kd tys s f0 [] [] f0 s.heap [] [] := G3.start hP hD0 hWT Fs.nil
  have hl := lv_entry ([.ref (adK 2), .int x1_, .int x2_]) (n := 3) (Nat.le_of_ble_eq_true rfl)
  rw [lg_entry_eq]
  generalize (lg_sl ([.ref (adK 2), .int x1_, .int x2_]) ++ List.replicate (3 - (lg_sl ([.ref (adK 2), .int x1_, .int x2_])).length) Slot.unset).toArray = ls at hl ⊢
  have hl : lv_has ls 3 [(0, .ref (adK 2)), (1, .int x1_), (2, .int x2_)] := hl
  refine W_q (fun Q hQ => ?_)
  refine lv_aload_n hx hb dJ0_indexOf_7cf53_0 rfl (lv_at hl 0 rfl) ?_
  refine g_calli (va_runV (As := []) (rest := []) ⟨hx, hb, hml, hown, hts⟩ (r_J0_isLatin1_aae02_2 l dC dI L kd tys f0 s.heap.size g.2.2.2.1 adK adV) (cwV 0 hts (gV_ t_246 t_247 t_248 t_185 t_249) rfl rfl rfl (by decide +kernel) ⟨(Nat.le_of_ble_eq_true rfl), (Nat.le_of_ble_eq_true rfl)⟩) (pre3TA g hK hAm 2 (by decide)) rfl rfl hl.1 rfl (lv_room (Nat.le_of_ble_eq_true rfl)) dJ0_indexOf_7cf53_1 ⟨(Nat.le_of_ble_eq_true rfl), (Nat.le_of_ble_eq_true rfl)⟩) g hK (by decide) (by decide) (fx' := []) rfl (fun r_1 fr_1 H locs hp hMr_1 g => ?_)
  obtain ⟨h_2, -⟩ := hp
  obtain rfl : r_1 = 1 := h_2
  refine lv_if_eq (tgt := 23) hx hb dJ0_indexOf_7cf53_4 (by decide) (fun c_ => absurd c_ (by decide)) (fun c_ => ?_)
  refine lv_aload_n hx hb dJ0_indexOf_7cf53_7 rfl (lv_at hl 0 rfl) ?_
  refine vk_getf hx hb (hAm.2.1.1 2 (by decide)).2.2.1 g.2.2.1 hown (hts _ (List.mem_cons_of_mem _ t_2844)) (fun _ h9 => h9) dJ0_indexOf_7cf53_8 ?_
  refine lv_iload_n hx hb dJ0_indexOf_7cf53_11 rfl (lv_at hl 1 rfl) ?_
  refine lv_iload_n hx hb dJ0_indexOf_7cf53_12 rfl (lv_at hl 2 rfl) ?_
  refine lv_aload_n hx hb dJ0_indexOf_7cf53_13 rfl (lv_at hl 0 rfl) ?_
  refine g_calli (va_runV (As := []) (rest := [.int x2_, .int x1_, .ref (adV 2)]) ⟨hx, hb, hml, hown, hts⟩ (r_J0_length_8abf5_2 l dC dI L kd tys fr_1 H.size g.2.2.2.1 adK adV) (cwV 0 hts (gV_ t_1033 t_233 t_234 t_185 t_235) rfl rfl rfl (by decide +kernel) ⟨(Nat.le_of_ble_eq_true rfl), (Nat.le_of_ble_eq_true rfl)⟩) (pre3TA g hK hAm 2 (by decide)) rfl rfl hl.1 rfl (lv_room (Nat.le_of_ble_eq_true rfl)) dJ0_indexOf_7cf53_14 ⟨(Nat.le_of_ble_eq_true rfl), (Nat.le_of_ble_eq_true rfl)⟩) g hK (by decide) (by decide) (fx' := []) rfl (fun r_3 fr_3 H locs hp hMr_3 g => ?_)
  obtain ⟨h_4, -⟩ := hp
  obtain rfl : r_3 = 18 := h_4
  refine g_calli (va_runS (As := [.ref (adV 2), .int x1_, .int x2_, .int 18]) (rest := []) ⟨hx, hb, hml, hown, hts⟩ (r_J1_indexOf_4cfef l dC dI L kd tys fr_3 H.size g.2.2.2.1 adK adV x1_ x2_ 18) (va_cwS 4 hts (gS_ t_1034 t_1035 t_186 t_1036) rfl rfl rfl (by decide +kernel) ⟨(Nat.le_of_ble_eq_true rfl), (Nat.le_of_ble_eq_true rfl)⟩) (pre3SA g hK hAm) rfl rfl hl.1 rfl (lv_room (Nat.le_of_ble_eq_true rfl)) dJ0_indexOf_7cf53_17 ⟨(Nat.le_of_ble_eq_true rfl), (Nat.le_of_ble_eq_true rfl)⟩) g hK (by decide) (by decide) (fx' := []) rfl (fun r_5 fr_5 H locs hp hMr_5 g => ?_)
  obtain ⟨h_6, -⟩ := hp
  refine lv_goto (tgt := 36) hx hb dJ0_indexOf_7cf53_20 (by decide) ?_
  subst hQ
  exact W.iret (v := r_5) hx hb hr (fun t ht hW => ⟨⟨_, _, rfl, ⟨h_6, trivial⟩, q3_of g hK ht hW⟩, g.2.2.1.F ht⟩) g.2.2.1.2.2 dJ0_indexOf_7cf53_36
set_option maxHeartbeats 4000000 in
set_option maxRecDepth 100000 in
theorem r_J0_indexOf_0f7a4 (l : Launch) (dC : Nat → ClassId) (dI : Nat → Nat → Nat) (L : List Nat) (kd : Nat → Nat) (tys : List (ClassId × FieldType)) (f0 : Nat → va_E) (sz : Nat) (hWT : WT L kd tys f0) (adK adV : Nat → Nat) (x1_ : Int32) : Met l yJ0_indexOf_0f7a4 (.code yJ0_indexOf_0f7a4 cJ0_indexOf_0f7a4 2 (some .int) :: lw_g) ({ frames := 3, cells := 0, slots := 0, locals := 70 }) (va_Pc [.ref (adK 2), .int x1_] (P3A (dC, dI) L tys f0 sz adK adV)) (va_Qi (fun (r : Int32) (f : Nat → va_E) => (bd (-1) 17 r ∧ True)) (Q3 (dC, dI) L kd tys [] [] f0 sz) (pA L sz)) 0 0 (pA L sz) := by
  refine Met.ofW (cc := cJ0_indexOf_0f7a4) (maxL := 2) (ret := (some .int)) (by decide) rfl ?_
  intro p e s m args below meth c s₁ B hml hv
  obtain ⟨rfl, ⟨hsz, hP, hK, hD0⟩, hAm⟩ := hv
  have hx := B.exec
  have hb := B.bytes
  have hr := B.returns
  have hts := atoms_spec (ws := (.code yJ0_indexOf_0f7a4 cJ0_indexOf_0f7a4 2 (some .int) :: lw_g)) B.pre
  have hown : s.vm.findClass RJ0 = some m.cls := findClass_of_methodNamed B.named
  have hlocks := B.notSynchronized
  subst hsz
  have g : G3 (dC, dI) L kd tys s f0 [] [] f0 s.heap [] [] := G3.start hP hD0 hWT Fs.nil
  have hl := lv_entry ([.ref (adK 2), .int x1_]) (n := 2) (Nat.le_of_ble_eq_true rfl)
  rw [lg_entry_eq]
  generalize (lg_sl ([.ref (adK 2), .int x1_]) ++ List.replicate (2 - (lg_sl ([.ref (adK 2), .int x1_])).length) Slot.unset).toArray = ls at hl ⊢
  have hl : lv_has ls 2 [(0, .ref (adK 2)), (1, .int x1_)] := hl
  refine W_q (fun Q hQ => ?_)
  refine lv_aload_n hx hb dJ0_indexOf_0f7a4_0 rfl (lv_at hl 0 rfl) ?_
  refine lv_iload_n hx hb dJ0_indexOf_0f7a4_1 rfl (lv_at hl 1 rfl) ?_
  refine lv_iconst (v := 0) hx hb dJ0_indexOf_0f7a4_2 (by decide) ?_
  refine g_calli (va_runV (As := [.int x1_, .int 0]) (rest := []) ⟨hx, hb, hml, hown, hts⟩ (r_J0_indexOf_7cf53 l dC dI L kd tys f0 s.heap.size g.2.2.2.1 adK adV x1_ 0) (cwV 2 hts (gV_ t_1029 t_1030 t_1031 t_185 t_1032) rfl rfl rfl (by decide +kernel) ⟨(Nat.le_of_ble_eq_true rfl), (Nat.le_of_ble_eq_true rfl)⟩) (pre3TA g hK hAm 2 (by decide)) rfl rfl hl.1 rfl (lv_room (Nat.le_of_ble_eq_true rfl)) dJ0_indexOf_0f7a4_3 ⟨(Nat.le_of_ble_eq_true rfl), (Nat.le_of_ble_eq_true rfl)⟩) g hK (by decide) (by decide) (fx' := []) rfl (fun r_1 fr_1 H locs hp hMr_1 g => ?_)
  obtain ⟨h_2, -⟩ := hp
  subst hQ
  exact W.iret (v := r_1) hx hb hr (fun t ht hW => ⟨⟨_, _, rfl, ⟨h_2, trivial⟩, q3_of g hK ht hW⟩, g.2.2.1.F ht⟩) g.2.2.1.2.2 dJ0_indexOf_0f7a4_6
set_option maxHeartbeats 4000000 in
set_option maxRecDepth 100000 in
theorem r_X8_codeOf (l : Launch) (dC : Nat → ClassId) (dI : Nat → Nat → Nat) (L : List Nat) (kd : Nat → Nat) (tys : List (ClassId × FieldType)) (f0 : Nat → va_E) (sz : Nat) (hWT : WT L kd tys f0) (x0_ : Int32) : Met l yX8_codeOf (.code yX8_codeOf cX8_codeOf 1 (some .int) :: lw_g) ({ frames := 0, cells := 0, slots := 0, locals := 0 }) (va_Pc [.int x0_] (P3 (dC, dI) L tys f0 sz)) (va_Qi (fun (r : Int32) (f : Nat → va_E) => (bd 0 37 r ∧ True)) (Q3 (dC, dI) L kd tys [] [] f0 sz) (pA L sz)) 0 0 (pA L sz) := by
  refine Met.ofW (cc := cX8_codeOf) (maxL := 1) (ret := (some .int)) (by decide) rfl ?_
  intro p e s m args below meth c s₁ B hml hv
  obtain ⟨rfl, hsz, hP, hK, hD0⟩ := hv
  have hx := B.exec
  have hb := B.bytes
  have hr := B.returns
  have hts := atoms_spec (ws := (.code yX8_codeOf cX8_codeOf 1 (some .int) :: lw_g)) B.pre
  have hown : s.vm.findClass RX8 = some m.cls := findClass_of_methodNamed B.named
  have hlocks := B.notSynchronized
  subst hsz
  have g : G3 (dC, dI) L kd tys s f0 [] [] f0 s.heap [] [] := G3.start hP hD0 hWT Fs.nil
  have hl := lv_entry ([.int x0_]) (n := 1) (Nat.le_of_ble_eq_true rfl)
  rw [lg_entry_eq]
  generalize (lg_sl ([.int x0_]) ++ List.replicate (1 - (lg_sl ([.int x0_])).length) Slot.unset).toArray = ls at hl ⊢
  have hl : lv_has ls 1 [(0, .int x0_)] := hl
  refine W_q (fun Q hQ => ?_)
  refine lv_iload_n hx hb dX8_codeOf_0 rfl (lv_at hl 0 rfl) ?_
  refine lv_bipush (v := 97) hx hb dX8_codeOf_1 (by decide) ?_
  have kb_97 : bd 97 97 (97 : Int32) := ⟨by decide, by decide⟩
  refine lv_icmp_lt (tgt := 19) hx hb dX8_codeOf_3 (by decide) (fun c_1 => ?_) (fun c_1 => ?_)
  · have fc_1 := lt_f c_1
    have b_2 : bd (-2147483648) 96 x0_ := ltL fc_1 (bdT x0_) kb_97 (by decide)
    refine lv_iload_n hx hb dX8_codeOf_19 rfl (lv_at hl 0 rfl) ?_
    refine lv_bipush (v := 48) hx hb dX8_codeOf_20 (by decide) ?_
    have kb_48 : bd 48 48 (48 : Int32) := ⟨by decide, by decide⟩
    refine lv_icmp_lt (tgt := 39) hx hb dX8_codeOf_22 (by decide) (fun c_3 => ?_) (fun c_3 => ?_)
    · have fc_3 := lt_f c_3
      have b_4 : bd (-2147483648) 47 x0_ := ltL fc_3 b_2 kb_48 (by decide)
      refine lv_iload_n hx hb dX8_codeOf_39 rfl (lv_at hl 0 rfl) ?_
      refine lv_bipush (v := 95) hx hb dX8_codeOf_40 (by decide) ?_
      have kb_95 : bd 95 95 (95 : Int32) := ⟨by decide, by decide⟩
      refine lv_icmp_ne (tgt := 50) hx hb dX8_codeOf_42 (by decide) (fun c_5 => ?_) (fun c_5 => ?_)
      · have fc_5 := neq_f c_5
        refine lv_iconst (v := 0) hx hb dX8_codeOf_50 (by decide) ?_
        have kb_0 : bd 0 0 (0 : Int32) := ⟨by decide, by decide⟩
        subst hQ
        exact W.iret (v := 0) hx hb hr (fun t ht hW => ⟨⟨_, _, rfl, ⟨(bd_sub kb_0 (by decide)), trivial⟩, q3_of g hK ht hW⟩, g.2.2.1.F ht⟩) g.2.2.1.2.2 dX8_codeOf_51
      · have fc_5 := eq_f c_5
        have b_6 : bd 95 47 x0_ := eqX fc_5 b_4 kb_95 (by decide)
        exact bd_no b_6 (by decide)
    · have fc_3 := nlt_f c_3
      have b_7 : bd 48 96 x0_ := leR fc_3 kb_48 b_2 (by decide)
      refine lv_iload_n hx hb dX8_codeOf_25 rfl (lv_at hl 0 rfl) ?_
      refine lv_bipush (v := 57) hx hb dX8_codeOf_26 (by decide) ?_
      have kb_57 : bd 57 57 (57 : Int32) := ⟨by decide, by decide⟩
      refine lv_icmp_gt (tgt := 39) hx hb dX8_codeOf_28 (by decide) (fun c_8 => ?_) (fun c_8 => ?_)
      · have fc_8 := lt_f c_8
        have b_9 : bd 58 96 x0_ := ltR fc_8 kb_57 b_7 (by decide)
        refine lv_iload_n hx hb dX8_codeOf_39 rfl (lv_at hl 0 rfl) ?_
        refine lv_bipush (v := 95) hx hb dX8_codeOf_40 (by decide) ?_
        have kb_95 : bd 95 95 (95 : Int32) := ⟨by decide, by decide⟩
        refine lv_icmp_ne (tgt := 50) hx hb dX8_codeOf_42 (by decide) (fun c_10 => ?_) (fun c_10 => ?_)
        · have fc_10 := neq_f c_10
          refine lv_iconst (v := 0) hx hb dX8_codeOf_50 (by decide) ?_
          have kb_0 : bd 0 0 (0 : Int32) := ⟨by decide, by decide⟩
          subst hQ
          exact W.iret (v := 0) hx hb hr (fun t ht hW => ⟨⟨_, _, rfl, ⟨(bd_sub kb_0 (by decide)), trivial⟩, q3_of g hK ht hW⟩, g.2.2.1.F ht⟩) g.2.2.1.2.2 dX8_codeOf_51
        · have fc_10 := eq_f c_10
          have b_11 : bd 95 95 x0_ := eqX fc_10 b_9 kb_95 (by decide)
          refine lv_bipush (v := 37) hx hb dX8_codeOf_45 (by decide) ?_
          refine lv_goto (tgt := 51) hx hb dX8_codeOf_47 (by decide) ?_
          have kb_37 : bd 37 37 (37 : Int32) := ⟨by decide, by decide⟩
          subst hQ
          exact W.iret (v := 37) hx hb hr (fun t ht hW => ⟨⟨_, _, rfl, ⟨(bd_sub kb_37 (by decide)), trivial⟩, q3_of g hK ht hW⟩, g.2.2.1.F ht⟩) g.2.2.1.2.2 dX8_codeOf_51
      · have fc_8 := nlt_f c_8
        have b_12 : bd 48 57 x0_ := leL fc_8 b_7 kb_57 (by decide)
        refine lv_iload_n hx hb dX8_codeOf_31 rfl (lv_at hl 0 rfl) ?_
        refine lv_bipush (v := 48) hx hb dX8_codeOf_32 (by decide) ?_
        refine lv_isub hx hb dX8_codeOf_34 ?_
        refine lv_topi (fun y_13 ey_13 => ?_)
        have ty_13 := sub_bd ey_13 b_12 kb_48 (by decide)
        have b_14 : bd 0 9 y_13 := sub_rg ty_13 b_12 kb_48 (by decide)
        refine lv_bipush (v := 27) hx hb dX8_codeOf_35 (by decide) ?_
        have kb_27 : bd 27 27 (27 : Int32) := ⟨by decide, by decide⟩
        refine lv_iadd hx hb dX8_codeOf_37 ?_
        refine lv_topi (fun y_15 ey_15 => ?_)
        have ty_15 := add_bd ey_15 b_14 kb_27 (by decide)
        have b_16 : bd 27 36 y_15 := add_rg ty_15 b_14 kb_27 (by decide)
        subst hQ
        exact W.iret (v := y_15) hx hb hr (fun t ht hW => ⟨⟨_, _, rfl, ⟨(bd_sub b_16 (by decide)), trivial⟩, q3_of g hK ht hW⟩, g.2.2.1.F ht⟩) g.2.2.1.2.2 dX8_codeOf_38
  · have fc_1 := nlt_f c_1
    have b_17 : bd 97 2147483647 x0_ := leR fc_1 kb_97 (bdT x0_) (by decide)
    refine lv_iload_n hx hb dX8_codeOf_6 rfl (lv_at hl 0 rfl) ?_
    refine lv_bipush (v := 122) hx hb dX8_codeOf_7 (by decide) ?_
    have kb_122 : bd 122 122 (122 : Int32) := ⟨by decide, by decide⟩
    refine lv_icmp_gt (tgt := 19) hx hb dX8_codeOf_9 (by decide) (fun c_18 => ?_) (fun c_18 => ?_)
    · have fc_18 := lt_f c_18
      have b_19 : bd 123 2147483647 x0_ := ltR fc_18 kb_122 b_17 (by decide)
      refine lv_iload_n hx hb dX8_codeOf_19 rfl (lv_at hl 0 rfl) ?_
      refine lv_bipush (v := 48) hx hb dX8_codeOf_20 (by decide) ?_
      have kb_48 : bd 48 48 (48 : Int32) := ⟨by decide, by decide⟩
      refine lv_icmp_lt (tgt := 39) hx hb dX8_codeOf_22 (by decide) (fun c_20 => ?_) (fun c_20 => ?_)
      · have fc_20 := lt_f c_20
        have b_21 : bd 123 47 x0_ := ltL fc_20 b_19 kb_48 (by decide)
        exact bd_no b_21 (by decide)
      · have fc_20 := nlt_f c_20
        refine lv_iload_n hx hb dX8_codeOf_25 rfl (lv_at hl 0 rfl) ?_
        refine lv_bipush (v := 57) hx hb dX8_codeOf_26 (by decide) ?_
        have kb_57 : bd 57 57 (57 : Int32) := ⟨by decide, by decide⟩
        refine lv_icmp_gt (tgt := 39) hx hb dX8_codeOf_28 (by decide) (fun c_22 => ?_) (fun c_22 => ?_)
        · have fc_22 := lt_f c_22
          refine lv_iload_n hx hb dX8_codeOf_39 rfl (lv_at hl 0 rfl) ?_
          refine lv_bipush (v := 95) hx hb dX8_codeOf_40 (by decide) ?_
          have kb_95 : bd 95 95 (95 : Int32) := ⟨by decide, by decide⟩
          refine lv_icmp_ne (tgt := 50) hx hb dX8_codeOf_42 (by decide) (fun c_23 => ?_) (fun c_23 => ?_)
          · have fc_23 := neq_f c_23
            refine lv_iconst (v := 0) hx hb dX8_codeOf_50 (by decide) ?_
            have kb_0 : bd 0 0 (0 : Int32) := ⟨by decide, by decide⟩
            subst hQ
            exact W.iret (v := 0) hx hb hr (fun t ht hW => ⟨⟨_, _, rfl, ⟨(bd_sub kb_0 (by decide)), trivial⟩, q3_of g hK ht hW⟩, g.2.2.1.F ht⟩) g.2.2.1.2.2 dX8_codeOf_51
          · have fc_23 := eq_f c_23
            have b_24 : bd 123 95 x0_ := eqX fc_23 b_19 kb_95 (by decide)
            exact bd_no b_24 (by decide)
        · have fc_22 := nlt_f c_22
          have b_25 : bd 123 57 x0_ := leL fc_22 b_19 kb_57 (by decide)
          exact bd_no b_25 (by decide)
    · have fc_18 := nlt_f c_18
      have b_26 : bd 97 122 x0_ := leL fc_18 b_17 kb_122 (by decide)
      refine lv_iload_n hx hb dX8_codeOf_12 rfl (lv_at hl 0 rfl) ?_
      refine lv_bipush (v := 97) hx hb dX8_codeOf_13 (by decide) ?_
      refine lv_isub hx hb dX8_codeOf_15 ?_
      refine lv_topi (fun y_27 ey_27 => ?_)
      have ty_27 := sub_bd ey_27 b_26 kb_97 (by decide)
      have b_28 : bd 0 25 y_27 := sub_rg ty_27 b_26 kb_97 (by decide)
      refine lv_iconst (v := 1) hx hb dX8_codeOf_16 (by decide) ?_
      have kb_1 : bd 1 1 (1 : Int32) := ⟨by decide, by decide⟩
      refine lv_iadd hx hb dX8_codeOf_17 ?_
      refine lv_topi (fun y_29 ey_29 => ?_)
      have ty_29 := add_bd ey_29 b_28 kb_1 (by decide)
      have b_30 : bd 1 26 y_29 := add_rg ty_29 b_28 kb_1 (by decide)
      subst hQ
      exact W.iret (v := y_29) hx hb hr (fun t ht hW => ⟨⟨_, _, rfl, ⟨(bd_sub b_30 (by decide)), trivial⟩, q3_of g hK ht hW⟩, g.2.2.1.F ht⟩) g.2.2.1.2.2 dX8_codeOf_18
set_option maxHeartbeats 4000000 in
set_option maxRecDepth 100000 in
theorem r_X8_takeNumber_5 (l : Launch) (dC : Nat → ClassId) (dI : Nat → Nat → Nat) (L : List Nat) (kd : Nat → Nat) (tys : List (ClassId × FieldType)) (f0 : Nat → va_E) (sz : Nat) (hWT : WT L kd tys f0) (a0_ : Nat) (ma0_ : a0_ ∈ L) (ka0_ : kd a0_ = 8) (x1_ : Int32) (bx1_ : bd 0 1200 x1_) (x2_ : Int32) (bx2_ : bd (-2147483648) 3999 x2_) (q0_ : Nat) (mq0_ : q0_ ∈ L) (kq0_ : kd q0_ = 104) (y0_ : Int32) (by0_ : bd (-1) (-1) y0_) (hfx : Fs L kd f0 [(8, 4, a0_, .ref q0_), (8, 9, a0_, .int y0_)]) : Met l yX8_takeNumber (.code yX8_takeNumber cX8_takeNumber 7 (some .int) :: lw_g) ({ frames := 1, cells := 0, slots := 0, locals := 21 }) (va_Pc [.ref a0_, .int x1_, .int x2_] (P3 (dC, dI) L tys f0 sz)) (va_Qi (fun (r : Int32) (f : Nat → va_E) => (True)) (Q3 (dC, dI) L kd tys [] [148, 150] f0 sz) (pA L sz)) 0 0 (pA L sz) := by
  refine Met.ofW (cc := cX8_takeNumber) (maxL := 7) (ret := (some .int)) (by decide) rfl ?_
  intro p e s m args below meth c s₁ B hml hv
  obtain ⟨rfl, hsz, hP, hK, hD0⟩ := hv
  have hx := B.exec
  have hb := B.bytes
  have hr := B.returns
  have hts := atoms_spec (ws := (.code yX8_takeNumber cX8_takeNumber 7 (some .int) :: lw_g)) B.pre
  have hown : s.vm.findClass RX8 = some m.cls := findClass_of_methodNamed B.named
  have hlocks := B.notSynchronized
  subst hsz
  have g : G3 (dC, dI) L kd tys s f0 [] [148, 150] f0 s.heap [] [(8, 4, a0_, .ref q0_), (8, 9, a0_, .int y0_)] := G3.start hP hD0 hWT hfx
  have hl := lv_entry ([.ref a0_, .int x1_, .int x2_]) (n := 7) (Nat.le_of_ble_eq_true rfl)
  rw [lg_entry_eq]
  generalize (lg_sl ([.ref a0_, .int x1_, .int x2_]) ++ List.replicate (7 - (lg_sl ([.ref a0_, .int x1_, .int x2_])).length) Slot.unset).toArray = ls at hl ⊢
  have hl : lv_has ls 7 [(0, .ref a0_), (1, .int x1_), (2, .int x2_)] := hl
  refine W_q (fun Q hQ => ?_)
  refine lv_iconst (v := 0) hx hb dX8_takeNumber_0 (by decide) ?_
  refine lv_istore_n (lv' := [(3, .int 0), (0, .ref a0_), (1, .int x1_), (2, .int x2_)]) hx hb dX8_takeNumber_1 rfl hl (by decide) rfl (fun ls hl => ?_)
  refine lv_lconst (v := 0) hx hb dX8_takeNumber_2 (by decide) ?_
  refine lv_lstore (lv' := [(4, .long 0), (3, .int 0), (0, .ref a0_), (1, .int x1_), (2, .int x2_)]) hx hb dX8_takeNumber_3 hl (by decide) rfl (fun ls hl => ?_)
  refine lv_iload_n hx hb dX8_takeNumber_5 rfl (lv_at hl 4 rfl) ?_
  refine lv_istore (lv' := [(6, .int x2_), (4, .long 0), (3, .int 0), (0, .ref a0_), (1, .int x1_), (2, .int x2_)]) hx hb dX8_takeNumber_6 hl (by decide) rfl (fun ls hl => ?_)
  have loop_1 : ∀ (n : Nat) (v8_6 : Int32) (v8_4 : Int64) (v8_3 : Int32), bd (-2147483648) 4000 v8_6 → (4000 - v8_6.toInt < (n : Int)) → ∀ (f : Nat → va_E) (H : Heap) (locs : List Loc) (ls : Array Slot), G3 (dC, dI) L kd tys s f0 [] [148, 150] f H locs [(8, 4, a0_, .ref q0_), (8, 9, a0_, .int y0_)] → lv_has ls 7 [(6, .int v8_6), (4, .long v8_4), (3, .int v8_3), (0, .ref a0_), (1, .int x1_), (2, .int x2_)] → W p l e ({ frames := 1, cells := 0, slots := 0, locals := 21 } : Room) s m [.ref a0_, .int x1_, .int x2_].toArray below meth c H locs 0 0 Q (F0 m 8 ls []) := by
    intro n8
    induction n8 with
    | zero =>
      intro v8_6 v8_4 v8_3 bv8_6   hm8 f H locs ls g  hl
      exact absurd hm8 (by have h9_v8_6 := bv8_6; unfold bd at h9_v8_6; have h9_v8_3 := bdT v8_3; unfold bd at h9_v8_3; omega)
    | succ n8 ih8 =>
      intro v8_6 v8_4 v8_3 bv8_6   hm8 f H locs ls g  hl
      refine lv_iload hx hb dX8_takeNumber_8 (lv_at hl 0 rfl) ?_
      refine lv_aload_n hx hb dX8_takeNumber_10 rfl (lv_at hl 3 rfl) ?_
      refine g_geti (C := RX8) (T := TX8) (N := 10) hx hb hts (mc_ inX8) hown hK g ma0_ ka0_ (by decide) rfl 5 (by decide) rfl (hts _ (List.mem_cons_of_mem _ t_290)) (fun _ h9 => h9) rfl dX8_takeNumber_11 (fun x_2 bx_2 g => ?_)
      refine lv_icmp_ge (tgt := 78) hx hb dX8_takeNumber_14 (by decide) (fun c_3 => ?_) (fun c_3 => ?_)
      · have fc_3 := le_f c_3
        have b_4 : bd 0 4000 v8_6 := leR fc_3 bx_2 bv8_6 (by decide)
        refine lv_aload_n hx hb dX8_takeNumber_78 rfl (lv_at hl 3 rfl) ?_
        refine g_getr (K := 150) (C := RX8) (T := TX8) (N := 10) hx hb hts (mc_ inX8) hown hK g ma0_ ka0_ (by decide) rfl 2 (by decide) rfl (hts _ (List.mem_cons_of_mem _ t_287)) (fun _ h9 => h9) rfl dX8_takeNumber_79 (fun a_5 ma_5 ka_5 g => ?_)
        refine lv_iload_n hx hb dX8_takeNumber_82 rfl (lv_at hl 4 rfl) ?_
        refine lv_lload hx hb dX8_takeNumber_83 (lv_at hl 1 rfl) ?_
        refine g_last hx hb hK g ma_5 ka_5 (by decide) rfl (in_bd bx1_ (by decide)) (by decide) dX8_takeNumber_85 (fun f H locs hM_6 g => ?_)
        refine lv_aload_n hx hb dX8_takeNumber_86 rfl (lv_at hl 3 rfl) ?_
        refine g_getr (K := 148) (C := RX8) (T := TX8) (N := 10) hx hb hts (mc_ inX8) hown hK g ma0_ ka0_ (by decide) rfl 0 (by decide) rfl (hts _ (List.mem_cons_of_mem _ t_285)) (fun _ h9 => h9) rfl dX8_takeNumber_87 (fun a_7 ma_7 ka_7 g => ?_)
        refine lv_iload_n hx hb dX8_takeNumber_90 rfl (lv_at hl 4 rfl) ?_
        refine lv_iload_n hx hb dX8_takeNumber_91 rfl (lv_at hl 2 rfl) ?_
        refine lv_bipush (v := 9) hx hb dX8_takeNumber_92 (by decide) ?_
        have kb_9 : bd 9 9 (9 : Int32) := ⟨by decide, by decide⟩
        refine lv_icmp_le (tgt := 101) hx hb dX8_takeNumber_94 (by decide) (fun c_8 => ?_) (fun c_8 => ?_)
        · have fc_8 := le_f c_8
          have b_9 : bd (-2147483648) 9 v8_3 := leL fc_8 (bdT v8_3) kb_9 (by decide)
          refine lv_iconst (v := 4) hx hb dX8_takeNumber_101 (by decide) ?_
          have kb_4 : bd 4 4 (4 : Int32) := ⟨by decide, by decide⟩
          refine g_kast hx hb hK g ma_7 ka_7 (by decide) rfl (in_bd bx1_ (by decide)) (bd_sub kb_4 (by decide)) (Or.inl (lt_bd bx1_ (by decide))) (by decide) dX8_takeNumber_102 (fun f H locs hM_10 g => ?_)
          refine lv_iload_n hx hb dX8_takeNumber_103 rfl (lv_at hl 2 rfl) ?_
          subst hQ
          exact W.iret (v := v8_3) hx hb hr (fun t ht hW => ⟨⟨_, _, rfl, trivial, q3_of g hK ht hW⟩, g.2.2.1.F ht⟩) g.2.2.1.2.2 dX8_takeNumber_104
        · have fc_8 := nle_f c_8
          have b_11 : bd 10 2147483647 v8_3 := ltR fc_8 kb_9 (bdT v8_3) (by decide)
          refine lv_iconst (v := 2) hx hb dX8_takeNumber_97 (by decide) ?_
          refine lv_goto (tgt := 102) hx hb dX8_takeNumber_98 (by decide) ?_
          have kb_2 : bd 2 2 (2 : Int32) := ⟨by decide, by decide⟩
          refine g_kast hx hb hK g ma_7 ka_7 (by decide) rfl (in_bd bx1_ (by decide)) (bd_sub kb_2 (by decide)) (Or.inl (lt_bd bx1_ (by decide))) (by decide) dX8_takeNumber_102 (fun f H locs hM_12 g => ?_)
          refine lv_iload_n hx hb dX8_takeNumber_103 rfl (lv_at hl 2 rfl) ?_
          subst hQ
          exact W.iret (v := v8_3) hx hb hr (fun t ht hW => ⟨⟨_, _, rfl, trivial, q3_of g hK ht hW⟩, g.2.2.1.F ht⟩) g.2.2.1.2.2 dX8_takeNumber_104
      · have fc_3 := nle_f c_3
        have b_13 : bd (-2147483648) 3999 v8_6 := ltL fc_3 bv8_6 bx_2 (by decide)
        refine lv_aload_n hx hb dX8_takeNumber_17 rfl (lv_at hl 3 rfl) ?_
        refine lv_iload hx hb dX8_takeNumber_18 (lv_at hl 0 rfl) ?_
        refine g_calli (va_runV (As := [.int v8_6]) (rest := []) ⟨hx, hb, hml, hown, hts⟩ (r_X8_byteAt l dC dI L kd tys f H.size g.2.2.2.1 a0_ ma0_ ka0_ v8_6 q0_ mq0_ kq0_ (g.fcts [1] rfl)) (cwV 1 hts (gV_ t_1004 t_1006 t_3 t_184 t_1007) rfl rfl rfl (by decide +kernel) ⟨(Nat.le_of_ble_eq_true rfl), (Nat.le_of_ble_eq_true rfl)⟩) (pre3V g hK ma0_ ka0_ (by decide) (q := (RX8, TX8, 10)) rfl) rfl rfl hl.1 rfl (lv_room (Nat.le_of_ble_eq_true rfl)) dX8_takeNumber_20 ⟨(Nat.le_of_ble_eq_true rfl), (Nat.le_of_ble_eq_true rfl)⟩) g hK (by decide) (by decide) (fx' := [(8, 5, a0_, .int x_2), (8, 4, a0_, .ref q0_), (8, 9, a0_, .int y0_)]) rfl (fun r_14 fr_14 H locs hp hMr_14 g => ?_)
        obtain ⟨h_15, -⟩ := hp
        refine lv_bipush (v := 48) hx hb dX8_takeNumber_23 (by decide) ?_
        have kb_48 : bd 48 48 (48 : Int32) := ⟨by decide, by decide⟩
        refine lv_icmp_lt (tgt := 78) hx hb dX8_takeNumber_25 (by decide) (fun c_16 => ?_) (fun c_16 => ?_)
        · have fc_16 := lt_f c_16
          have b_17 : bd 0 47 r_14 := ltL fc_16 h_15 kb_48 (by decide)
          refine lv_aload_n hx hb dX8_takeNumber_78 rfl (lv_at hl 3 rfl) ?_
          refine g_getr (K := 150) (C := RX8) (T := TX8) (N := 10) hx hb hts (mc_ inX8) hown hK g ma0_ ka0_ (by decide) rfl 2 (by decide) rfl (hts _ (List.mem_cons_of_mem _ t_287)) (fun _ h9 => h9) rfl dX8_takeNumber_79 (fun a_18 ma_18 ka_18 g => ?_)
          refine lv_iload_n hx hb dX8_takeNumber_82 rfl (lv_at hl 4 rfl) ?_
          refine lv_lload hx hb dX8_takeNumber_83 (lv_at hl 1 rfl) ?_
          refine g_last hx hb hK g ma_18 ka_18 (by decide) rfl (in_bd bx1_ (by decide)) (by decide) dX8_takeNumber_85 (fun f H locs hM_19 g => ?_)
          refine lv_aload_n hx hb dX8_takeNumber_86 rfl (lv_at hl 3 rfl) ?_
          refine g_getr (K := 148) (C := RX8) (T := TX8) (N := 10) hx hb hts (mc_ inX8) hown hK g ma0_ ka0_ (by decide) rfl 0 (by decide) rfl (hts _ (List.mem_cons_of_mem _ t_285)) (fun _ h9 => h9) rfl dX8_takeNumber_87 (fun a_20 ma_20 ka_20 g => ?_)
          refine lv_iload_n hx hb dX8_takeNumber_90 rfl (lv_at hl 4 rfl) ?_
          refine lv_iload_n hx hb dX8_takeNumber_91 rfl (lv_at hl 2 rfl) ?_
          refine lv_bipush (v := 9) hx hb dX8_takeNumber_92 (by decide) ?_
          have kb_9 : bd 9 9 (9 : Int32) := ⟨by decide, by decide⟩
          refine lv_icmp_le (tgt := 101) hx hb dX8_takeNumber_94 (by decide) (fun c_21 => ?_) (fun c_21 => ?_)
          · have fc_21 := le_f c_21
            have b_22 : bd (-2147483648) 9 v8_3 := leL fc_21 (bdT v8_3) kb_9 (by decide)
            refine lv_iconst (v := 4) hx hb dX8_takeNumber_101 (by decide) ?_
            have kb_4 : bd 4 4 (4 : Int32) := ⟨by decide, by decide⟩
            refine g_kast hx hb hK g ma_20 ka_20 (by decide) rfl (in_bd bx1_ (by decide)) (bd_sub kb_4 (by decide)) (Or.inl (lt_bd bx1_ (by decide))) (by decide) dX8_takeNumber_102 (fun f H locs hM_23 g => ?_)
            refine lv_iload_n hx hb dX8_takeNumber_103 rfl (lv_at hl 2 rfl) ?_
            subst hQ
            exact W.iret (v := v8_3) hx hb hr (fun t ht hW => ⟨⟨_, _, rfl, trivial, q3_of g hK ht hW⟩, g.2.2.1.F ht⟩) g.2.2.1.2.2 dX8_takeNumber_104
          · have fc_21 := nle_f c_21
            have b_24 : bd 10 2147483647 v8_3 := ltR fc_21 kb_9 (bdT v8_3) (by decide)
            refine lv_iconst (v := 2) hx hb dX8_takeNumber_97 (by decide) ?_
            refine lv_goto (tgt := 102) hx hb dX8_takeNumber_98 (by decide) ?_
            have kb_2 : bd 2 2 (2 : Int32) := ⟨by decide, by decide⟩
            refine g_kast hx hb hK g ma_20 ka_20 (by decide) rfl (in_bd bx1_ (by decide)) (bd_sub kb_2 (by decide)) (Or.inl (lt_bd bx1_ (by decide))) (by decide) dX8_takeNumber_102 (fun f H locs hM_25 g => ?_)
            refine lv_iload_n hx hb dX8_takeNumber_103 rfl (lv_at hl 2 rfl) ?_
            subst hQ
            exact W.iret (v := v8_3) hx hb hr (fun t ht hW => ⟨⟨_, _, rfl, trivial, q3_of g hK ht hW⟩, g.2.2.1.F ht⟩) g.2.2.1.2.2 dX8_takeNumber_104
        · have fc_16 := nlt_f c_16
          have b_26 : bd 48 255 r_14 := leR fc_16 kb_48 h_15 (by decide)
          refine lv_aload_n hx hb dX8_takeNumber_28 rfl (lv_at hl 3 rfl) ?_
          refine lv_iload hx hb dX8_takeNumber_29 (lv_at hl 0 rfl) ?_
          refine g_calli (va_runV (As := [.int v8_6]) (rest := []) ⟨hx, hb, hml, hown, hts⟩ (r_X8_byteAt l dC dI L kd tys fr_14 H.size g.2.2.2.1 a0_ ma0_ ka0_ v8_6 q0_ mq0_ kq0_ (g.fcts [1] rfl)) (cwV 1 hts (gV_ t_1004 t_1006 t_3 t_184 t_1007) rfl rfl rfl (by decide +kernel) ⟨(Nat.le_of_ble_eq_true rfl), (Nat.le_of_ble_eq_true rfl)⟩) (pre3V g hK ma0_ ka0_ (by decide) (q := (RX8, TX8, 10)) rfl) rfl rfl hl.1 rfl (lv_room (Nat.le_of_ble_eq_true rfl)) dX8_takeNumber_31 ⟨(Nat.le_of_ble_eq_true rfl), (Nat.le_of_ble_eq_true rfl)⟩) g hK (by decide) (by decide) (fx' := [(8, 5, a0_, .int x_2), (8, 4, a0_, .ref q0_), (8, 9, a0_, .int y0_)]) rfl (fun r_27 fr_27 H locs hp hMr_27 g => ?_)
          obtain ⟨h_28, -⟩ := hp
          refine lv_bipush (v := 57) hx hb dX8_takeNumber_34 (by decide) ?_
          have kb_57 : bd 57 57 (57 : Int32) := ⟨by decide, by decide⟩
          refine lv_icmp_gt (tgt := 78) hx hb dX8_takeNumber_36 (by decide) (fun c_29 => ?_) (fun c_29 => ?_)
          · have fc_29 := lt_f c_29
            have b_30 : bd 58 255 r_27 := ltR fc_29 kb_57 h_28 (by decide)
            refine lv_aload_n hx hb dX8_takeNumber_78 rfl (lv_at hl 3 rfl) ?_
            refine g_getr (K := 150) (C := RX8) (T := TX8) (N := 10) hx hb hts (mc_ inX8) hown hK g ma0_ ka0_ (by decide) rfl 2 (by decide) rfl (hts _ (List.mem_cons_of_mem _ t_287)) (fun _ h9 => h9) rfl dX8_takeNumber_79 (fun a_31 ma_31 ka_31 g => ?_)
            refine lv_iload_n hx hb dX8_takeNumber_82 rfl (lv_at hl 4 rfl) ?_
            refine lv_lload hx hb dX8_takeNumber_83 (lv_at hl 1 rfl) ?_
            refine g_last hx hb hK g ma_31 ka_31 (by decide) rfl (in_bd bx1_ (by decide)) (by decide) dX8_takeNumber_85 (fun f H locs hM_32 g => ?_)
            refine lv_aload_n hx hb dX8_takeNumber_86 rfl (lv_at hl 3 rfl) ?_
            refine g_getr (K := 148) (C := RX8) (T := TX8) (N := 10) hx hb hts (mc_ inX8) hown hK g ma0_ ka0_ (by decide) rfl 0 (by decide) rfl (hts _ (List.mem_cons_of_mem _ t_285)) (fun _ h9 => h9) rfl dX8_takeNumber_87 (fun a_33 ma_33 ka_33 g => ?_)
            refine lv_iload_n hx hb dX8_takeNumber_90 rfl (lv_at hl 4 rfl) ?_
            refine lv_iload_n hx hb dX8_takeNumber_91 rfl (lv_at hl 2 rfl) ?_
            refine lv_bipush (v := 9) hx hb dX8_takeNumber_92 (by decide) ?_
            have kb_9 : bd 9 9 (9 : Int32) := ⟨by decide, by decide⟩
            refine lv_icmp_le (tgt := 101) hx hb dX8_takeNumber_94 (by decide) (fun c_34 => ?_) (fun c_34 => ?_)
            · have fc_34 := le_f c_34
              have b_35 : bd (-2147483648) 9 v8_3 := leL fc_34 (bdT v8_3) kb_9 (by decide)
              refine lv_iconst (v := 4) hx hb dX8_takeNumber_101 (by decide) ?_
              have kb_4 : bd 4 4 (4 : Int32) := ⟨by decide, by decide⟩
              refine g_kast hx hb hK g ma_33 ka_33 (by decide) rfl (in_bd bx1_ (by decide)) (bd_sub kb_4 (by decide)) (Or.inl (lt_bd bx1_ (by decide))) (by decide) dX8_takeNumber_102 (fun f H locs hM_36 g => ?_)
              refine lv_iload_n hx hb dX8_takeNumber_103 rfl (lv_at hl 2 rfl) ?_
              subst hQ
              exact W.iret (v := v8_3) hx hb hr (fun t ht hW => ⟨⟨_, _, rfl, trivial, q3_of g hK ht hW⟩, g.2.2.1.F ht⟩) g.2.2.1.2.2 dX8_takeNumber_104
            · have fc_34 := nle_f c_34
              have b_37 : bd 10 2147483647 v8_3 := ltR fc_34 kb_9 (bdT v8_3) (by decide)
              refine lv_iconst (v := 2) hx hb dX8_takeNumber_97 (by decide) ?_
              refine lv_goto (tgt := 102) hx hb dX8_takeNumber_98 (by decide) ?_
              have kb_2 : bd 2 2 (2 : Int32) := ⟨by decide, by decide⟩
              refine g_kast hx hb hK g ma_33 ka_33 (by decide) rfl (in_bd bx1_ (by decide)) (bd_sub kb_2 (by decide)) (Or.inl (lt_bd bx1_ (by decide))) (by decide) dX8_takeNumber_102 (fun f H locs hM_38 g => ?_)
              refine lv_iload_n hx hb dX8_takeNumber_103 rfl (lv_at hl 2 rfl) ?_
              subst hQ
              exact W.iret (v := v8_3) hx hb hr (fun t ht hW => ⟨⟨_, _, rfl, trivial, q3_of g hK ht hW⟩, g.2.2.1.F ht⟩) g.2.2.1.2.2 dX8_takeNumber_104
          · have fc_29 := nlt_f c_29
            have b_39 : bd 0 57 r_27 := leL fc_29 h_28 kb_57 (by decide)
            refine lv_iload_n hx hb dX8_takeNumber_39 rfl (lv_at hl 2 rfl) ?_
            refine lv_bipush (v := 9) hx hb dX8_takeNumber_40 (by decide) ?_
            have kb_9 : bd 9 9 (9 : Int32) := ⟨by decide, by decide⟩
            refine lv_icmp_ge (tgt := 65) hx hb dX8_takeNumber_42 (by decide) (fun c_40 => ?_) (fun c_40 => ?_)
            · have fc_40 := le_f c_40
              have b_41 : bd 9 2147483647 v8_3 := leR fc_40 kb_9 (bdT v8_3) (by decide)
              refine lv_lload hx hb dX8_takeNumber_65 (lv_at hl 1 rfl) ?_
              refine lv_lstore (lv' := [(4, .long v8_4), (6, .int v8_6), (3, .int v8_3), (0, .ref a0_), (1, .int x1_), (2, .int x2_)]) hx hb dX8_takeNumber_67 hl (by decide) rfl (fun ls hl => ?_)
              have kb_1 : bd 1 1 (1 : Int32) := ⟨by decide, by decide⟩
              obtain ⟨y_42, ey_42⟩ : ∃ z : Int32, z = v8_3 + 1 := ⟨_, rfl⟩
              refine lv_iinc (v := y_42) (lv' := [(3, .int y_42), (4, .long v8_4), (6, .int v8_6), (0, .ref a0_), (1, .int x1_), (2, .int x2_)]) hx hb dX8_takeNumber_69 hl (k := 2) rfl (by rw [ey_42]; rfl) (by decide) rfl (fun ls hl => ?_)
              obtain ⟨y_43, ey_43⟩ : ∃ z : Int32, z = v8_6 + 1 := ⟨_, rfl⟩
              refine lv_iinc (v := y_43) (lv' := [(6, .int y_43), (3, .int y_42), (4, .long v8_4), (0, .ref a0_), (1, .int x1_), (2, .int x2_)]) hx hb dX8_takeNumber_72 hl (k := 2) rfl (by rw [ey_43]; rfl) (by decide) rfl (fun ls hl => ?_)
              have ty_43 := add_bd ey_43 b_13 kb_1 (by decide)
              have b_44 : bd (-2147483647) 4000 y_43 := add_rg ty_43 b_13 kb_1 (by decide)
              refine lv_goto (tgt := 8) hx hb dX8_takeNumber_75 (by decide) ?_
              have hl9 := lv_sub hl [0, 2, 1, 3, 4, 5] (by rfl : lv_pick [(6, .int y_43), (3, .int y_42), (4, .long v8_4), (0, .ref a0_), (1, .int x1_), (2, .int x2_)] [0, 2, 1, 3, 4, 5] = [(6, .int y_43), (4, .long v8_4), (3, .int y_42), (0, .ref a0_), (1, .int x1_), (2, .int x2_)])
              have g9 := g.sub (fx' := [(8, 4, a0_, .ref q0_), (8, 9, a0_, .int y0_)]) [1, 2] rfl
              exact ih8  y_43 v8_4 y_42 (bd_sub b_44 (by decide)) (by have h9_0 := b_44; unfold bd at h9_0; have h9_1 := bdT v8_3; unfold bd at h9_1; have h9_2 := bdT y_42; unfold bd at h9_2; have h9_3 := bv8_6; unfold bd at h9_3; have h9_4 := kb_1; unfold bd at h9_4; have h9_5 := kb_48; unfold bd at h9_5; have h9_6 := kb_57; unfold bd at h9_6; have h9_7 := kb_9; unfold bd at h9_7; omega) _ _ _ _ g9  hl9
            · have fc_40 := nle_f c_40
              have b_45 : bd (-2147483648) 8 v8_3 := ltL fc_40 (bdT v8_3) kb_9 (by decide)
              refine lv_lload hx hb dX8_takeNumber_45 (lv_at hl 1 rfl) ?_
              refine lv_ldc2 (v := 10) hx hb hown (hts _ (List.mem_cons_of_mem _ t_1020)) dX8_takeNumber_47 ?_
              refine lv_lmul hx hb dX8_takeNumber_50 ?_
              refine lv_topl (fun y_46 ey_46 => ?_)
              refine lv_aload_n hx hb dX8_takeNumber_51 rfl (lv_at hl 3 rfl) ?_
              refine lv_iload hx hb dX8_takeNumber_52 (lv_at hl 0 rfl) ?_
              refine g_calli (va_runV (As := [.int v8_6]) (rest := [.long y_46]) ⟨hx, hb, hml, hown, hts⟩ (r_X8_byteAt l dC dI L kd tys fr_27 H.size g.2.2.2.1 a0_ ma0_ ka0_ v8_6 q0_ mq0_ kq0_ (g.fcts [1] rfl)) (cwV 1 hts (gV_ t_1004 t_1006 t_3 t_184 t_1007) rfl rfl rfl (by decide +kernel) ⟨(Nat.le_of_ble_eq_true rfl), (Nat.le_of_ble_eq_true rfl)⟩) (pre3V g hK ma0_ ka0_ (by decide) (q := (RX8, TX8, 10)) rfl) rfl rfl hl.1 rfl (lv_room (Nat.le_of_ble_eq_true rfl)) dX8_takeNumber_54 ⟨(Nat.le_of_ble_eq_true rfl), (Nat.le_of_ble_eq_true rfl)⟩) g hK (by decide) (by decide) (fx' := [(8, 5, a0_, .int x_2), (8, 4, a0_, .ref q0_), (8, 9, a0_, .int y0_)]) rfl (fun r_47 fr_47 H locs hp hMr_47 g => ?_)
              obtain ⟨h_48, -⟩ := hp
              refine lv_bipush (v := 48) hx hb dX8_takeNumber_57 (by decide) ?_
              refine lv_isub hx hb dX8_takeNumber_59 ?_
              refine lv_topi (fun y_49 ey_49 => ?_)
              have ty_49 := sub_bd ey_49 h_48 kb_48 (by decide)
              have b_50 : bd (-48) 207 y_49 := sub_rg ty_49 h_48 kb_48 (by decide)
              refine lv_i2l hx hb dX8_takeNumber_60 rfl ?_
              refine lv_topl (fun y_51 ey_51 => ?_)
              refine lv_ladd hx hb dX8_takeNumber_61 ?_
              refine lv_topl (fun y_52 ey_52 => ?_)
              refine lv_goto (tgt := 67) hx hb dX8_takeNumber_62 (by decide) ?_
              refine lv_lstore (lv' := [(4, .long y_52), (6, .int v8_6), (3, .int v8_3), (0, .ref a0_), (1, .int x1_), (2, .int x2_)]) hx hb dX8_takeNumber_67 hl (by decide) rfl (fun ls hl => ?_)
              have kb_1 : bd 1 1 (1 : Int32) := ⟨by decide, by decide⟩
              obtain ⟨y_53, ey_53⟩ : ∃ z : Int32, z = v8_3 + 1 := ⟨_, rfl⟩
              refine lv_iinc (v := y_53) (lv' := [(3, .int y_53), (4, .long y_52), (6, .int v8_6), (0, .ref a0_), (1, .int x1_), (2, .int x2_)]) hx hb dX8_takeNumber_69 hl (k := 2) rfl (by rw [ey_53]; rfl) (by decide) rfl (fun ls hl => ?_)
              have ty_53 := add_bd ey_53 b_45 kb_1 (by decide)
              have b_54 : bd (-2147483647) 9 y_53 := add_rg ty_53 b_45 kb_1 (by decide)
              obtain ⟨y_55, ey_55⟩ : ∃ z : Int32, z = v8_6 + 1 := ⟨_, rfl⟩
              refine lv_iinc (v := y_55) (lv' := [(6, .int y_55), (3, .int y_53), (4, .long y_52), (0, .ref a0_), (1, .int x1_), (2, .int x2_)]) hx hb dX8_takeNumber_72 hl (k := 2) rfl (by rw [ey_55]; rfl) (by decide) rfl (fun ls hl => ?_)
              have ty_55 := add_bd ey_55 b_13 kb_1 (by decide)
              have b_56 : bd (-2147483647) 4000 y_55 := add_rg ty_55 b_13 kb_1 (by decide)
              refine lv_goto (tgt := 8) hx hb dX8_takeNumber_75 (by decide) ?_
              have hl9 := lv_sub hl [0, 2, 1, 3, 4, 5] (by rfl : lv_pick [(6, .int y_55), (3, .int y_53), (4, .long y_52), (0, .ref a0_), (1, .int x1_), (2, .int x2_)] [0, 2, 1, 3, 4, 5] = [(6, .int y_55), (4, .long y_52), (3, .int y_53), (0, .ref a0_), (1, .int x1_), (2, .int x2_)])
              have g9 := g.sub (fx' := [(8, 4, a0_, .ref q0_), (8, 9, a0_, .int y0_)]) [1, 2] rfl
              exact ih8  y_55 y_52 y_53 (bd_sub b_56 (by decide)) (by have h9_0 := b_54; unfold bd at h9_0; have h9_1 := b_56; unfold bd at h9_1; have h9_2 := bdT v8_3; unfold bd at h9_2; have h9_3 := bv8_6; unfold bd at h9_3; have h9_4 := kb_1; unfold bd at h9_4; have h9_5 := kb_48; unfold bd at h9_5; have h9_6 := kb_57; unfold bd at h9_6; have h9_7 := kb_9; unfold bd at h9_7; omega) _ _ _ _ g9  hl9
  have kb_0 : bd 0 0 (0 : Int32) := ⟨by decide, by decide⟩
  have hl9 := lv_sub hl [0, 1, 2, 3, 4, 5] (by rfl : lv_pick [(6, .int x2_), (4, .long 0), (3, .int 0), (0, .ref a0_), (1, .int x1_), (2, .int x2_)] [0, 1, 2, 3, 4, 5] = [(6, .int x2_), (4, .long 0), (3, .int 0), (0, .ref a0_), (1, .int x1_), (2, .int x2_)])
  have g9 := g.sub (fx' := [(8, 4, a0_, .ref q0_), (8, 9, a0_, .int y0_)]) [0, 1] rfl
  exact loop_1 (4294975299) x2_ 0 0 (bd_sub bx2_ (by decide)) (by have h9_0 := bx2_; unfold bd at h9_0; have h9_1 := kb_0; unfold bd at h9_1; omega) _ _ _ _ g9  hl9
