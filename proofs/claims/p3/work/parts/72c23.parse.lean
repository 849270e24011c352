set_option maxHeartbeats 4000000 in
set_option maxRecDepth 100000 in
theorem r_X2_atMark (l : Launch) (dC : Nat → ClassId) (dI : Nat → Nat → Nat) (L : List Nat) (kd : Nat → Nat) (tys : List (ClassId × FieldType)) (f0 : Nat → va_E) (sz : Nat) (hWT : WT L kd tys f0) (a0_ : Nat) (ma0_ : a0_ ∈ L) (ka0_ : kd a0_ = 2) (q0_ : Nat) (mq0_ : q0_ ∈ L) (kq0_ : kd q0_ = 8) (y0_ : Int32) (by0_ : bd 0 0 y0_) (hfx : Fs L kd f0 [(2, 0, a0_, .ref q0_), (8, 8, q0_, .int y0_)]) : Met l yX2_atMark (.code yX2_atMark cX2_atMark 2 (some .boolean) :: lw_g) ({ frames := 1, cells := 0, slots := 0, locals := 20 }) (va_Pc [.ref a0_] (P3 (dC, dI) L tys f0 sz)) (va_Qi (fun (r : Int32) (f : Nat → va_E) => (r = 0 ∧ True) ∨ (r = 1 ∧ True)) (Q3 (dC, dI) L kd tys [] [] f0 sz) (pA L sz)) 0 0 (pA L sz) := by
  refine Met.ofW (cc := cX2_atMark) (maxL := 2) (ret := (some .boolean)) (by decide) rfl ?_
  intro p e s m args below meth c s₁ B hml hv
  obtain ⟨rfl, hsz, hP, hK, hD0⟩ := hv
  have hx := B.exec
  have hb := B.bytes
  have hr := B.returns
  have hts := atoms_spec (ws := (.code yX2_atMark cX2_atMark 2 (some .boolean) :: lw_g)) B.pre
  have hown : s.vm.findClass RX2 = some m.cls := findClass_of_methodNamed B.named
  have hlocks := B.notSynchronized
  subst hsz
  have g : G3 (dC, dI) L kd tys s f0 [] [] f0 s.heap [] [(2, 0, a0_, .ref q0_), (8, 8, q0_, .int y0_)] := G3.start hP hD0 hWT hfx
  have hl := lv_entry ([.ref a0_]) (n := 2) (Nat.le_of_ble_eq_true rfl)
  rw [lg_entry_eq]
  generalize (lg_sl ([.ref a0_]) ++ List.replicate (2 - (lg_sl ([.ref a0_])).length) Slot.unset).toArray = ls at hl ⊢
  have hl : lv_has ls 2 [(0, .ref a0_)] := hl
  refine W_q (fun Q hQ => ?_)
  refine lv_aload_n hx hb dX2_atMark_0 rfl (lv_at hl 0 rfl) ?_
  refine g_getk (C := RX2) (T := TX2) (N := 16) hx hb hts (mc_ inX2) hown hK g rfl 0 (by decide) rfl (hts _ (List.mem_cons_of_mem _ t_416)) (fun _ h9 => h9) 0 rfl dX2_atMark_1 ?_
  refine g_calli (va_runV (As := []) (rest := []) ⟨hx, hb, hml, hown, hts⟩ (r_X8_kind l dC dI L kd tys f0 s.heap.size g.2.2.2.1 q0_ mq0_ kq0_) (cwV 0 hts (gV_ t_1118 t_1119 t_1120 t_184 t_1121) rfl rfl rfl (by decide +kernel) ⟨(Nat.le_of_ble_eq_true rfl), (Nat.le_of_ble_eq_true rfl)⟩) (pre3V g hK mq0_ kq0_ (by decide) (q := (RX8, TX8, 10)) rfl) rfl rfl hl.1 rfl (lv_room (Nat.le_of_ble_eq_true rfl)) dX2_atMark_4 ⟨(Nat.le_of_ble_eq_true rfl), (Nat.le_of_ble_eq_true rfl)⟩) g hK (by decide) (by decide) (fx' := [(2, 0, a0_, .ref q0_), (8, 8, q0_, .int y0_)]) rfl (fun r_1 fr_1 H locs hp hMr_1 g => ?_)
  refine lv_istore_n (lv' := [(1, .int r_1), (0, .ref a0_)]) hx hb dX2_atMark_7 rfl hl (by decide) rfl (fun ls hl => ?_)
  refine lv_iload_n hx hb dX2_atMark_8 rfl (lv_at hl 0 rfl) ?_
  refine lv_bipush (v := 16) hx hb dX2_atMark_9 (by decide) ?_
  have kb_16 : bd 16 16 (16 : Int32) := ⟨by decide, by decide⟩
  refine lv_icmp_eq (tgt := 38) hx hb dX2_atMark_11 (by decide) (fun c_2 => ?_) (fun c_2 => ?_)
  · have fc_2 := eq_f c_2
    have b_3 : bd 16 16 r_1 := eqX fc_2 (bdT r_1) kb_16 (by decide)
    refine lv_iconst (v := 1) hx hb dX2_atMark_38 (by decide) ?_
    refine lv_goto (tgt := 43) hx hb dX2_atMark_39 (by decide) ?_
    subst hQ
    have kb_1 : bd 1 1 (1 : Int32) := ⟨by decide, by decide⟩
    exact W.zret (v := 1) hx hb hr (nar_z (bd_sub kb_1 (by decide) : bd 0 1 _).1 (bd_sub kb_1 (by decide) : bd 0 1 _).2) (fun t ht hW => ⟨⟨_, _, rfl, Or.inr (⟨rfl, trivial⟩), q3_of g hK ht hW⟩, g.2.2.1.F ht⟩) g.2.2.1.2.2 dX2_atMark_43
  · have fc_2 := neq_f c_2
    refine lv_iload_n hx hb dX2_atMark_14 rfl (lv_at hl 0 rfl) ?_
    refine lv_bipush (v := 17) hx hb dX2_atMark_15 (by decide) ?_
    have kb_17 : bd 17 17 (17 : Int32) := ⟨by decide, by decide⟩
    refine lv_icmp_eq (tgt := 38) hx hb dX2_atMark_17 (by decide) (fun c_4 => ?_) (fun c_4 => ?_)
    · have fc_4 := eq_f c_4
      have b_5 : bd 17 17 r_1 := eqX fc_4 (bdT r_1) kb_17 (by decide)
      refine lv_iconst (v := 1) hx hb dX2_atMark_38 (by decide) ?_
      refine lv_goto (tgt := 43) hx hb dX2_atMark_39 (by decide) ?_
      subst hQ
      have kb_1 : bd 1 1 (1 : Int32) := ⟨by decide, by decide⟩
      exact W.zret (v := 1) hx hb hr (nar_z (bd_sub kb_1 (by decide) : bd 0 1 _).1 (bd_sub kb_1 (by decide) : bd 0 1 _).2) (fun t ht hW => ⟨⟨_, _, rfl, Or.inr (⟨rfl, trivial⟩), q3_of g hK ht hW⟩, g.2.2.1.F ht⟩) g.2.2.1.2.2 dX2_atMark_43
    · have fc_4 := neq_f c_4
      refine lv_iload_n hx hb dX2_atMark_20 rfl (lv_at hl 0 rfl) ?_
      refine lv_bipush (v := 18) hx hb dX2_atMark_21 (by decide) ?_
      have kb_18 : bd 18 18 (18 : Int32) := ⟨by decide, by decide⟩
      refine lv_icmp_eq (tgt := 38) hx hb dX2_atMark_23 (by decide) (fun c_6 => ?_) (fun c_6 => ?_)
      · have fc_6 := eq_f c_6
        have b_7 : bd 18 18 r_1 := eqX fc_6 (bdT r_1) kb_18 (by decide)
        refine lv_iconst (v := 1) hx hb dX2_atMark_38 (by decide) ?_
        refine lv_goto (tgt := 43) hx hb dX2_atMark_39 (by decide) ?_
        subst hQ
        have kb_1 : bd 1 1 (1 : Int32) := ⟨by decide, by decide⟩
        exact W.zret (v := 1) hx hb hr (nar_z (bd_sub kb_1 (by decide) : bd 0 1 _).1 (bd_sub kb_1 (by decide) : bd 0 1 _).2) (fun t ht hW => ⟨⟨_, _, rfl, Or.inr (⟨rfl, trivial⟩), q3_of g hK ht hW⟩, g.2.2.1.F ht⟩) g.2.2.1.2.2 dX2_atMark_43
      · have fc_6 := neq_f c_6
        refine lv_iload_n hx hb dX2_atMark_26 rfl (lv_at hl 0 rfl) ?_
        refine lv_bipush (v := 20) hx hb dX2_atMark_27 (by decide) ?_
        have kb_20 : bd 20 20 (20 : Int32) := ⟨by decide, by decide⟩
        refine lv_icmp_eq (tgt := 38) hx hb dX2_atMark_29 (by decide) (fun c_8 => ?_) (fun c_8 => ?_)
        · have fc_8 := eq_f c_8
          have b_9 : bd 20 20 r_1 := eqX fc_8 (bdT r_1) kb_20 (by decide)
          refine lv_iconst (v := 1) hx hb dX2_atMark_38 (by decide) ?_
          refine lv_goto (tgt := 43) hx hb dX2_atMark_39 (by decide) ?_
          subst hQ
          have kb_1 : bd 1 1 (1 : Int32) := ⟨by decide, by decide⟩
          exact W.zret (v := 1) hx hb hr (nar_z (bd_sub kb_1 (by decide) : bd 0 1 _).1 (bd_sub kb_1 (by decide) : bd 0 1 _).2) (fun t ht hW => ⟨⟨_, _, rfl, Or.inr (⟨rfl, trivial⟩), q3_of g hK ht hW⟩, g.2.2.1.F ht⟩) g.2.2.1.2.2 dX2_atMark_43
        · have fc_8 := neq_f c_8
          refine lv_iload_n hx hb dX2_atMark_32 rfl (lv_at hl 0 rfl) ?_
          refine lv_bipush (v := 21) hx hb dX2_atMark_33 (by decide) ?_
          have kb_21 : bd 21 21 (21 : Int32) := ⟨by decide, by decide⟩
          refine lv_icmp_ne (tgt := 42) hx hb dX2_atMark_35 (by decide) (fun c_10 => ?_) (fun c_10 => ?_)
          · have fc_10 := neq_f c_10
            refine lv_iconst (v := 0) hx hb dX2_atMark_42 (by decide) ?_
            subst hQ
            have kb_0 : bd 0 0 (0 : Int32) := ⟨by decide, by decide⟩
            exact W.zret (v := 0) hx hb hr (nar_z (bd_sub kb_0 (by decide) : bd 0 1 _).1 (bd_sub kb_0 (by decide) : bd 0 1 _).2) (fun t ht hW => ⟨⟨_, _, rfl, Or.inl ⟨rfl, trivial⟩, q3_of g hK ht hW⟩, g.2.2.1.F ht⟩) g.2.2.1.2.2 dX2_atMark_43
          · have fc_10 := eq_f c_10
            have b_11 : bd 21 21 r_1 := eqX fc_10 (bdT r_1) kb_21 (by decide)
            refine lv_iconst (v := 1) hx hb dX2_atMark_38 (by decide) ?_
            refine lv_goto (tgt := 43) hx hb dX2_atMark_39 (by decide) ?_
            subst hQ
            have kb_1 : bd 1 1 (1 : Int32) := ⟨by decide, by decide⟩
            exact W.zret (v := 1) hx hb hr (nar_z (bd_sub kb_1 (by decide) : bd 0 1 _).1 (bd_sub kb_1 (by decide) : bd 0 1 _).2) (fun t ht hW => ⟨⟨_, _, rfl, Or.inr (⟨rfl, trivial⟩), q3_of g hK ht hW⟩, g.2.2.1.F ht⟩) g.2.2.1.2.2 dX2_atMark_43
set_option maxHeartbeats 4000000 in
set_option maxRecDepth 100000 in
theorem r_X2_readOnly (l : Launch) (dC : Nat → ClassId) (dI : Nat → Nat → Nat) (L : List Nat) (kd : Nat → Nat) (tys : List (ClassId × FieldType)) (f0 : Nat → va_E) (sz : Nat) (hWT : WT L kd tys f0) (a0_ : Nat) (ma0_ : a0_ ∈ L) (ka0_ : kd a0_ = 2) (q0_ : Nat) (mq0_ : q0_ ∈ L) (kq0_ : kd q0_ = 8) (q1_ : Nat) (mq1_ : q1_ ∈ L) (kq1_ : kd q1_ = 7) (q2_ : Nat) (mq2_ : q2_ ∈ L) (kq2_ : kd q2_ = 9) (y0_ : Int32) (by0_ : bd 0 0 y0_) (hfx : Fs L kd f0 [(2, 0, a0_, .ref q0_), (2, 3, a0_, .ref q1_), (2, 4, a0_, .ref q2_), (8, 8, q0_, .int y0_)]) : Met l yX2_readOnly (.code yX2_readOnly cX2_readOnly 5 none :: lw_g) ({ frames := 2, cells := 0, slots := 0, locals := 37 }) (va_Pc [.ref a0_] (P3 (dC, dI) L tys f0 sz)) (va_Qv (fun (f : Nat → va_E) => (∃ z0_ : Int32, bd 1 500 z0_ ∧ Fs L kd f [(7, 13, q1_, .int z0_), (8, 8, q0_, .int y0_)]) ∨ (∃ z1_ : Int32, bd 1 7 z1_ ∧ ∃ z2_ : Int32, bd 1 500 z2_ ∧ Fs L kd f [(8, 6, q0_, .int 1201), (8, 8, q0_, .int z1_), (7, 13, q1_, .int z2_)])) (Q3 (dC, dI) L kd tys [(7, 13), (8, 6), (8, 8), (8, 9)] [140, 141, 142, 143, 144, 145] f0 sz) (pA L sz)) 0 0 (pA L sz) := by
  refine Met.ofW (cc := cX2_readOnly) (maxL := 5) (ret := none) (by decide) rfl ?_
  intro p e s m args below meth c s₁ B hml hv
  obtain ⟨rfl, hsz, hP, hK, hD0⟩ := hv
  have hx := B.exec
  have hb := B.bytes
  have hr := B.returns
  have hts := atoms_spec (ws := (.code yX2_readOnly cX2_readOnly 5 none :: lw_g)) B.pre
  have hown : s.vm.findClass RX2 = some m.cls := findClass_of_methodNamed B.named
  have hlocks := B.notSynchronized
  subst hsz
  have g : G3 (dC, dI) L kd tys s f0 [(7, 13), (8, 6), (8, 8), (8, 9)] [140, 141, 142, 143, 144, 145] f0 s.heap [] [(2, 0, a0_, .ref q0_), (2, 3, a0_, .ref q1_), (2, 4, a0_, .ref q2_), (8, 8, q0_, .int y0_)] := G3.start hP hD0 hWT hfx
  have hl := lv_entry ([.ref a0_]) (n := 5) (Nat.le_of_ble_eq_true rfl)
  rw [lg_entry_eq]
  generalize (lg_sl ([.ref a0_]) ++ List.replicate (5 - (lg_sl ([.ref a0_])).length) Slot.unset).toArray = ls at hl ⊢
  have hl : lv_has ls 5 [(0, .ref a0_)] := hl
  refine W_q (fun Q hQ => ?_)
  refine lv_aload_n hx hb dX2_readOnly_0 rfl (lv_at hl 0 rfl) ?_
  refine g_getk (C := RX2) (T := TX2) (N := 16) hx hb hts (mc_ inX2) hown hK g rfl 3 (by decide) rfl (hts _ (List.mem_cons_of_mem _ t_419)) (fun _ h9 => h9) 1 rfl dX2_readOnly_1 ?_
  refine lv_iconst (v := 5) hx hb dX2_readOnly_4 (by decide) ?_
  refine lv_aload_n hx hb dX2_readOnly_5 rfl (lv_at hl 0 rfl) ?_
  refine g_getr (K := 5) (C := RX2) (T := TX2) (N := 16) hx hb hts (mc_ inX2) hown hK g ma0_ ka0_ (by decide) rfl 1 (by decide) rfl (hts _ (List.mem_cons_of_mem _ t_417)) (fun _ h9 => h9) rfl dX2_readOnly_6 (fun a_1 ma_1 ka_1 g => ?_)
  refine g_geti (C := RX5) (T := TX5) (N := 9) hx hb hts (mc_ inX5) hown hK g ma_1 ka_1 (by decide) rfl 2 (by decide) rfl (hts _ (List.mem_cons_of_mem _ t_333)) (fun _ h9 => h9) rfl dX2_readOnly_9 (fun x_2 bx_2 g => ?_)
  refine lv_aload_n hx hb dX2_readOnly_12 rfl (lv_at hl 0 rfl) ?_
  refine g_getk (C := RX2) (T := TX2) (N := 16) hx hb hts (mc_ inX2) hown hK g rfl 0 (by decide) rfl (hts _ (List.mem_cons_of_mem _ t_416)) (fun _ h9 => h9) 2 rfl dX2_readOnly_13 ?_
  refine g_calli (va_runV (As := []) (rest := [.int x_2, .int 5, .ref q1_]) ⟨hx, hb, hml, hown, hts⟩ (r_X8_place l dC dI L kd tys f0 s.heap.size g.2.2.2.1 q0_ mq0_ kq0_) (cwV 0 hts (gV_ t_1110 t_1111 t_1112 t_184 t_1113) rfl rfl rfl (by decide +kernel) ⟨(Nat.le_of_ble_eq_true rfl), (Nat.le_of_ble_eq_true rfl)⟩) (pre3V g hK mq0_ kq0_ (by decide) (q := (RX8, TX8, 10)) rfl) rfl rfl hl.1 rfl (lv_room (Nat.le_of_ble_eq_true rfl)) dX2_readOnly_16 ⟨(Nat.le_of_ble_eq_true rfl), (Nat.le_of_ble_eq_true rfl)⟩) g hK (by decide) (by decide) (fx' := [(5, 2, a_1, .int x_2), (2, 1, a0_, .ref a_1), (2, 0, a0_, .ref q0_), (2, 3, a0_, .ref q1_), (2, 4, a0_, .ref q2_), (8, 8, q0_, .int y0_)]) rfl (fun r_3 fr_3 H locs hp hMr_3 g => ?_)
  refine g_calli (va_runV (As := [.int 5, .int x_2, .int r_3]) (rest := []) ⟨hx, hb, hml, hown, hts⟩ (r_X7_addMark l dC dI L kd tys fr_3 H.size g.2.2.2.1 q1_ mq1_ kq1_ 5 x_2 r_3) (cwV 3 hts (gV_ t_1173 t_1174 t_1175 t_191 t_1176) rfl rfl rfl (by decide +kernel) ⟨(Nat.le_of_ble_eq_true rfl), (Nat.le_of_ble_eq_true rfl)⟩) (pre3V g hK mq1_ kq1_ (by decide) (q := (RX7, TX7, 19)) rfl) rfl rfl hl.1 rfl (lv_room (Nat.le_of_ble_eq_true rfl)) dX2_readOnly_19 ⟨(Nat.le_of_ble_eq_true rfl), (Nat.le_of_ble_eq_true rfl)⟩) g hK (by decide) (by decide) (fx' := [(5, 2, a_1, .int x_2), (2, 1, a0_, .ref a_1), (2, 0, a0_, .ref q0_), (2, 3, a0_, .ref q1_), (2, 4, a0_, .ref q2_), (8, 8, q0_, .int y0_)]) rfl (fun r_4 fr_4 H locs hp hMr_4 g => ?_)
  obtain ⟨h_5, x_6, h_7, hF_8⟩ := hp
  have g := g.more hF_8
  refine lv_istore_n (lv' := [(1, .int r_4), (0, .ref a0_)]) hx hb dX2_readOnly_22 rfl hl (by decide) rfl (fun ls hl => ?_)
  refine lv_iconst (v := 1) hx hb dX2_readOnly_23 (by decide) ?_
  refine lv_istore_n (lv' := [(2, .int 1), (1, .int r_4), (0, .ref a0_)]) hx hb dX2_readOnly_24 rfl hl (by decide) rfl (fun ls hl => ?_)
  refine lv_iconst (v := 0) hx hb dX2_readOnly_25 (by decide) ?_
  refine lv_istore_n (lv' := [(3, .int 0), (2, .int 1), (1, .int r_4), (0, .ref a0_)]) hx hb dX2_readOnly_26 rfl hl (by decide) rfl (fun ls hl => ?_)
  have loop_9 : ∀ (n : Nat) (v27_3 : Int32) (v27_2 : Int32), bd 0 1201 v27_3 → bd 0 1 v27_2 → (1201 - v27_3.toInt < (n : Int)) → ∀ (f : Nat → va_E) (H : Heap) (locs : List Loc) (ls : Array Slot), G3 (dC, dI) L kd tys s f0 [(7, 13), (8, 6), (8, 8), (8, 9)] [140, 141, 142, 143, 144, 145] f H locs [(7, 13, q1_, .int x_6), (5, 2, a_1, .int x_2), (2, 1, a0_, .ref a_1), (2, 0, a0_, .ref q0_), (2, 3, a0_, .ref q1_), (2, 4, a0_, .ref q2_), (8, 8, q0_, .int y0_)] → lv_has ls 5 [(3, .int v27_3), (2, .int v27_2), (1, .int r_4), (0, .ref a0_)] → W p l e ({ frames := 2, cells := 0, slots := 0, locals := 37 } : Room) s m [.ref a0_].toArray below meth c H locs 0 0 Q (F0 m 27 ls []) := by
    intro n27
    induction n27 with
    | zero =>
      intro v27_3 v27_2 bv27_3 bv27_2 hm27 f H locs ls g  hl
      exact absurd hm27 (by have h9_v27_3 := bv27_3; unfold bd at h9_v27_3; have h9_v27_2 := bv27_2; unfold bd at h9_v27_2; omega)
    | succ n27 ih27 =>
      intro v27_3 v27_2 bv27_3 bv27_2 hm27 f H locs ls g  hl
      refine lv_iload_n hx hb dX2_readOnly_27 rfl (lv_at hl 0 rfl) ?_
      refine lv_sipush (v := 1200) hx hb dX2_readOnly_28 (by decide) ?_
      have kb_1200 : bd 1200 1200 (1200 : Int32) := ⟨by decide, by decide⟩
      refine lv_icmp_gt (tgt := 165) hx hb dX2_readOnly_31 (by decide) (fun c_10 => ?_) (fun c_10 => ?_)
      · have fc_10 := lt_f c_10
        have b_11 : bd 1201 1201 v27_3 := ltR fc_10 kb_1200 bv27_3 (by decide)
        subst hQ
        exact W.vret hx hb hr (fun t ht hW => ⟨⟨_, rfl, Or.inl ⟨x_6, h_7, (g.fcts [0, 6] rfl)⟩, q3_of g hK ht hW⟩, g.2.2.1.F ht⟩) g.2.2.1.2.2 dX2_readOnly_165
      · have fc_10 := nlt_f c_10
        have b_12 : bd 0 1200 v27_3 := leL fc_10 bv27_3 kb_1200 (by decide)
        refine lv_iload_n hx hb dX2_readOnly_34 rfl (lv_at hl 1 rfl) ?_
        have kb_0 : bd 0 0 (0 : Int32) := ⟨by decide, by decide⟩
        refine lv_if_eq (tgt := 165) hx hb dX2_readOnly_35 (by decide) (fun c_13 => ?_) (fun c_13 => ?_)
        · have fc_13 := eq_f c_13
          have b_14 : bd 0 0 v27_2 := eqX fc_13 bv27_2 kb_0 (by decide)
          subst hQ
          exact W.vret hx hb hr (fun t ht hW => ⟨⟨_, rfl, Or.inl ⟨x_6, h_7, (g.fcts [0, 6] rfl)⟩, q3_of g hK ht hW⟩, g.2.2.1.F ht⟩) g.2.2.1.2.2 dX2_readOnly_165
        · have fc_13 := neq_f c_13
          have b_15 : bd 1 1 v27_2 := neX fc_13 bv27_2 kb_0 (by decide)
          refine lv_aload_n hx hb dX2_readOnly_38 rfl (lv_at hl 3 rfl) ?_
          refine g_getk (C := RX2) (T := TX2) (N := 16) hx hb hts (mc_ inX2) hown hK g rfl 4 (by decide) rfl (hts _ (List.mem_cons_of_mem _ t_420)) (fun _ h9 => h9) 5 rfl dX2_readOnly_39 ?_
          refine lv_aload_n hx hb dX2_readOnly_42 rfl (lv_at hl 3 rfl) ?_
          refine g_getk (C := RX2) (T := TX2) (N := 16) hx hb hts (mc_ inX2) hown hK g rfl 0 (by decide) rfl (hts _ (List.mem_cons_of_mem _ t_416)) (fun _ h9 => h9) 3 rfl dX2_readOnly_43 ?_
          refine g_calll (va_runV (As := []) (rest := [.ref q2_]) ⟨hx, hb, hml, hown, hts⟩ (r_X8_value l dC dI L kd tys f H.size g.2.2.2.1 q0_ mq0_ kq0_) (cwV 0 hts (gV_ t_1114 t_1115 t_1116 t_184 t_1117) rfl rfl rfl (by decide +kernel) ⟨(Nat.le_of_ble_eq_true rfl), (Nat.le_of_ble_eq_true rfl)⟩) (pre3V g hK mq0_ kq0_ (by decide) (q := (RX8, TX8, 10)) rfl) rfl rfl hl.1 rfl (lv_room (Nat.le_of_ble_eq_true rfl)) dX2_readOnly_46 ⟨(Nat.le_of_ble_eq_true rfl), (Nat.le_of_ble_eq_true rfl)⟩) g hK (by decide) (by decide) (fx' := [(7, 13, q1_, .int x_6), (5, 2, a_1, .int x_2), (2, 1, a0_, .ref a_1), (2, 0, a0_, .ref q0_), (2, 3, a0_, .ref q1_), (2, 4, a0_, .ref q2_), (8, 8, q0_, .int y0_)]) rfl (fun r_16 fr_16 H locs hp hMr_16 g => ?_)
          refine g_calli (va_runV (As := [.long r_16]) (rest := []) ⟨hx, hb, hml, hown, hts⟩ (r_X9_fieldNamed l dC dI L kd tys fr_16 H.size g.2.2.2.1 q2_ mq2_ kq2_ r_16) (cwV 1 hts (gV_ t_1147 t_1148 t_1149 t_192 t_1150) rfl rfl rfl (by decide +kernel) ⟨(Nat.le_of_ble_eq_true rfl), (Nat.le_of_ble_eq_true rfl)⟩) (pre3V g hK mq2_ kq2_ (by decide) (q := (RX9, TX9, 13)) rfl) rfl rfl hl.1 rfl (lv_room (Nat.le_of_ble_eq_true rfl)) dX2_readOnly_49 ⟨(Nat.le_of_ble_eq_true rfl), (Nat.le_of_ble_eq_true rfl)⟩) g hK (by decide) (by decide) (fx' := [(7, 13, q1_, .int x_6), (5, 2, a_1, .int x_2), (2, 1, a0_, .ref a_1), (2, 0, a0_, .ref q0_), (2, 3, a0_, .ref q1_), (2, 4, a0_, .ref q2_), (8, 8, q0_, .int y0_)]) rfl (fun r_17 fr_17 H locs hp hMr_17 g => ?_)
          obtain ⟨h_18, -⟩ := hp
          refine lv_istore (lv' := [(4, .int r_17), (3, .int v27_3), (2, .int v27_2), (1, .int r_4), (0, .ref a0_)]) hx hb dX2_readOnly_52 hl (by decide) rfl (fun ls hl => ?_)
          refine lv_aload_n hx hb dX2_readOnly_54 rfl (lv_at hl 4 rfl) ?_
          refine g_getk (C := RX2) (T := TX2) (N := 16) hx hb hts (mc_ inX2) hown hK g rfl 0 (by decide) rfl (hts _ (List.mem_cons_of_mem _ t_416)) (fun _ h9 => h9) 3 rfl dX2_readOnly_55 ?_
          refine g_calli (va_runV (As := []) (rest := []) ⟨hx, hb, hml, hown, hts⟩ (r_X8_kind l dC dI L kd tys fr_17 H.size g.2.2.2.1 q0_ mq0_ kq0_) (cwV 0 hts (gV_ t_1118 t_1119 t_1120 t_184 t_1121) rfl rfl rfl (by decide +kernel) ⟨(Nat.le_of_ble_eq_true rfl), (Nat.le_of_ble_eq_true rfl)⟩) (pre3V g hK mq0_ kq0_ (by decide) (q := (RX8, TX8, 10)) rfl) rfl rfl hl.1 rfl (lv_room (Nat.le_of_ble_eq_true rfl)) dX2_readOnly_58 ⟨(Nat.le_of_ble_eq_true rfl), (Nat.le_of_ble_eq_true rfl)⟩) g hK (by decide) (by decide) (fx' := [(7, 13, q1_, .int x_6), (5, 2, a_1, .int x_2), (2, 1, a0_, .ref a_1), (2, 0, a0_, .ref q0_), (2, 3, a0_, .ref q1_), (2, 4, a0_, .ref q2_), (8, 8, q0_, .int y0_)]) rfl (fun r_19 fr_19 H locs hp hMr_19 g => ?_)
          refine lv_iconst (v := 3) hx hb dX2_readOnly_61 (by decide) ?_
          have kb_3 : bd 3 3 (3 : Int32) := ⟨by decide, by decide⟩
          refine lv_icmp_eq (tgt := 83) hx hb dX2_readOnly_62 (by decide) (fun c_20 => ?_) (fun c_20 => ?_)
          · have fc_20 := eq_f c_20
            have b_21 : bd 3 3 r_19 := eqX fc_20 (bdT r_19) kb_3 (by decide)
            refine lv_iload hx hb dX2_readOnly_83 (lv_at hl 0 rfl) ?_
            refine lv_iconst (v := (-1)) hx hb dX2_readOnly_85 (by decide) ?_
            have kb_m1 : bd (-1) (-1) ((-1) : Int32) := ⟨by decide, by decide⟩
            refine lv_icmp_ne (tgt := 107) hx hb dX2_readOnly_86 (by decide) (fun c_22 => ?_) (fun c_22 => ?_)
            · have fc_22 := neq_f c_22
              have b_23 : bd 0 9 r_17 := neX fc_22 h_18 kb_m1 (by decide)
              refine lv_aload_n hx hb dX2_readOnly_107 rfl (lv_at hl 4 rfl) ?_
              refine g_getk (C := RX2) (T := TX2) (N := 16) hx hb hts (mc_ inX2) hown hK g rfl 3 (by decide) rfl (hts _ (List.mem_cons_of_mem _ t_419)) (fun _ h9 => h9) 4 rfl dX2_readOnly_108 ?_
              refine g_getr (K := 143) (C := RX7) (T := TX7) (N := 19) hx hb hts (mc_ inX7) hown hK g mq1_ kq1_ (by decide) rfl 10 (by decide) rfl (hts _ (List.mem_cons_of_mem _ t_659)) (fun _ h9 => h9) rfl dX2_readOnly_111 (fun a_24 ma_24 ka_24 g => ?_)
              refine lv_iload_n hx hb dX2_readOnly_114 rfl (lv_at hl 3 rfl) ?_
              refine lv_dup2_11 hx hb dX2_readOnly_115 rfl rfl ?_
              refine g_iald hx hb hK g ma_24 ka_24 (by decide) rfl (in_bd h_5 (by decide)) dX2_readOnly_116 (fun x_25 bx_25 cx_25 => ?_)
              refine lv_iconst (v := 1) hx hb dX2_readOnly_117 (by decide) ?_
              refine lv_iload hx hb dX2_readOnly_118 (lv_at hl 0 rfl) ?_
              refine lv_ishl hx hb dX2_readOnly_120 ?_
              refine lv_topi (fun y_26 ey_26 => ?_)
              refine lv_ior hx hb dX2_readOnly_121 ?_
              refine lv_topi (fun y_27 ey_27 => ?_)
              refine g_iast hx hb hK g ma_24 ka_24 (by decide) rfl (in_bd h_5 (by decide)) (bdT y_27) (by decide) dX2_readOnly_122 (fun f H locs hM_28 g => ?_)
              refine lv_aload_n hx hb dX2_readOnly_123 rfl (lv_at hl 4 rfl) ?_
              refine g_getk (C := RX2) (T := TX2) (N := 16) hx hb hts (mc_ inX2) hown hK g rfl 0 (by decide) rfl (hts _ (List.mem_cons_of_mem _ t_416)) (fun _ h9 => h9) 4 rfl dX2_readOnly_124 ?_
              refine g_callv (va_runV (As := []) (rest := []) ⟨hx, hb, hml, hown, hts⟩ (r_X8_next l dC dI L kd tys f H.size g.2.2.2.1 q0_ mq0_ kq0_) (cwV 0 hts (gV_ t_1131 t_1103 t_1104 t_184 t_1105) rfl rfl rfl (by decide +kernel) ⟨(Nat.le_of_ble_eq_true rfl), (Nat.le_of_ble_eq_true rfl)⟩) (pre3V g hK mq0_ kq0_ (by decide) (q := (RX8, TX8, 10)) rfl) rfl rfl hl.1 rfl (lv_room (Nat.le_of_ble_eq_true rfl)) dX2_readOnly_127 ⟨(Nat.le_of_ble_eq_true rfl), (Nat.le_of_ble_eq_true rfl)⟩) g hK (by decide) (by decide) (fx' := [(7, 10, q1_, .ref a_24), (7, 13, q1_, .int x_6), (5, 2, a_1, .int x_2), (2, 1, a0_, .ref a_1), (2, 0, a0_, .ref q0_), (2, 3, a0_, .ref q1_), (2, 4, a0_, .ref q2_), (8, 8, q0_, .int y0_)]) rfl (fun fr_29 H locs hp hMr_29 g => ?_)
              obtain ⟨x_30, h_31, hF_32⟩ := hp
              have g := g.more hF_32
              refine lv_aload_n hx hb dX2_readOnly_130 rfl (lv_at hl 4 rfl) ?_
              refine g_getk (C := RX2) (T := TX2) (N := 16) hx hb hts (mc_ inX2) hown hK g rfl 0 (by decide) rfl (hts _ (List.mem_cons_of_mem _ t_416)) (fun _ h9 => h9) 5 rfl dX2_readOnly_131 ?_
              refine g_calli (va_runV (As := []) (rest := []) ⟨hx, hb, hml, hown, hts⟩ (r_X8_kind l dC dI L kd tys fr_29 H.size g.2.2.2.1 q0_ mq0_ kq0_) (cwV 0 hts (gV_ t_1118 t_1119 t_1120 t_184 t_1121) rfl rfl rfl (by decide +kernel) ⟨(Nat.le_of_ble_eq_true rfl), (Nat.le_of_ble_eq_true rfl)⟩) (pre3V g hK mq0_ kq0_ (by decide) (q := (RX8, TX8, 10)) rfl) rfl rfl hl.1 rfl (lv_room (Nat.le_of_ble_eq_true rfl)) dX2_readOnly_134 ⟨(Nat.le_of_ble_eq_true rfl), (Nat.le_of_ble_eq_true rfl)⟩) g hK (by decide) (by decide) (fx' := [(8, 6, q0_, .int x_30), (7, 10, q1_, .ref a_24), (7, 13, q1_, .int x_6), (5, 2, a_1, .int x_2), (2, 1, a0_, .ref a_1), (2, 0, a0_, .ref q0_), (2, 3, a0_, .ref q1_), (2, 4, a0_, .ref q2_), (8, 8, q0_, .int y0_)]) rfl (fun r_33 fr_33 H locs hp hMr_33 g => ?_)
              refine lv_bipush (v := 44) hx hb dX2_readOnly_137 (by decide) ?_
              have kb_44 : bd 44 44 (44 : Int32) := ⟨by decide, by decide⟩
              refine lv_icmp_ne (tgt := 146) hx hb dX2_readOnly_139 (by decide) (fun c_34 => ?_) (fun c_34 => ?_)
              · have fc_34 := neq_f c_34
                refine lv_iconst (v := 0) hx hb dX2_readOnly_146 (by decide) ?_
                refine lv_istore_n (lv' := [(2, .int 0), (4, .int r_17), (3, .int v27_3), (1, .int r_4), (0, .ref a0_)]) hx hb dX2_readOnly_147 rfl hl (by decide) rfl (fun ls hl => ?_)
                refine lv_iload_n hx hb dX2_readOnly_148 rfl (lv_at hl 0 rfl) ?_
                refine lv_if_eq (tgt := 159) hx hb dX2_readOnly_149 (by decide) (fun c_ => ?_) (fun c_ => absurd (by decide) c_)
                have kb_1 : bd 1 1 (1 : Int32) := ⟨by decide, by decide⟩
                obtain ⟨y_35, ey_35⟩ : ∃ z : Int32, z = v27_3 + 1 := ⟨_, rfl⟩
                refine lv_iinc (v := y_35) (lv' := [(3, .int y_35), (2, .int 0), (4, .int r_17), (1, .int r_4), (0, .ref a0_)]) hx hb dX2_readOnly_159 hl (k := 2) rfl (by rw [ey_35]; rfl) (by decide) rfl (fun ls hl => ?_)
                have ty_35 := add_bd ey_35 b_12 kb_1 (by decide)
                have b_36 : bd 1 1201 y_35 := add_rg ty_35 b_12 kb_1 (by decide)
                refine lv_goto (tgt := 27) hx hb dX2_readOnly_162 (by decide) ?_
                have hl9 := lv_sub hl [0, 1, 3, 4] (by rfl : lv_pick [(3, .int y_35), (2, .int 0), (4, .int r_17), (1, .int r_4), (0, .ref a0_)] [0, 1, 3, 4] = [(3, .int y_35), (2, .int 0), (1, .int r_4), (0, .ref a0_)])
                have g9 := g.sub (fx' := [(7, 13, q1_, .int x_6), (5, 2, a_1, .int x_2), (2, 1, a0_, .ref a_1), (2, 0, a0_, .ref q0_), (2, 3, a0_, .ref q1_), (2, 4, a0_, .ref q2_), (8, 8, q0_, .int y0_)]) [2, 3, 4, 5, 6, 7, 8] rfl
                exact ih27  y_35 0 (bd_sub b_36 (by decide)) (bd_sub kb_0 (by decide)) (by have h9_0 := b_36; unfold bd at h9_0; have h9_1 := bv27_2; unfold bd at h9_1; have h9_2 := bv27_3; unfold bd at h9_2; have h9_3 := kb_0; unfold bd at h9_3; have h9_4 := kb_1; unfold bd at h9_4; have h9_5 := kb_1200; unfold bd at h9_5; have h9_6 := kb_3; unfold bd at h9_6; have h9_7 := kb_44; unfold bd at h9_7; have h9_8 := kb_m1; unfold bd at h9_8; omega) _ _ _ _ g9  hl9
              · have fc_34 := eq_f c_34
                have b_37 : bd 44 44 r_33 := eqX fc_34 (bdT r_33) kb_44 (by decide)
                refine lv_iconst (v := 1) hx hb dX2_readOnly_142 (by decide) ?_
                refine lv_goto (tgt := 147) hx hb dX2_readOnly_143 (by decide) ?_
                refine lv_istore_n (lv' := [(2, .int 1), (4, .int r_17), (3, .int v27_3), (1, .int r_4), (0, .ref a0_)]) hx hb dX2_readOnly_147 rfl hl (by decide) rfl (fun ls hl => ?_)
                refine lv_iload_n hx hb dX2_readOnly_148 rfl (lv_at hl 0 rfl) ?_
                refine lv_if_eq (tgt := 159) hx hb dX2_readOnly_149 (by decide) (fun c_ => absurd c_ (by decide)) (fun c_ => ?_)
                refine lv_aload_n hx hb dX2_readOnly_152 rfl (lv_at hl 4 rfl) ?_
                refine g_getk (C := RX2) (T := TX2) (N := 16) hx hb hts (mc_ inX2) hown hK g rfl 0 (by decide) rfl (hts _ (List.mem_cons_of_mem _ t_416)) (fun _ h9 => h9) 5 rfl dX2_readOnly_153 ?_
                refine g_callv (va_runV (As := []) (rest := []) ⟨hx, hb, hml, hown, hts⟩ (r_X8_next l dC dI L kd tys fr_33 H.size g.2.2.2.1 q0_ mq0_ kq0_) (cwV 0 hts (gV_ t_1131 t_1103 t_1104 t_184 t_1105) rfl rfl rfl (by decide +kernel) ⟨(Nat.le_of_ble_eq_true rfl), (Nat.le_of_ble_eq_true rfl)⟩) (pre3V g hK mq0_ kq0_ (by decide) (q := (RX8, TX8, 10)) rfl) rfl rfl hl.1 rfl (lv_room (Nat.le_of_ble_eq_true rfl)) dX2_readOnly_156 ⟨(Nat.le_of_ble_eq_true rfl), (Nat.le_of_ble_eq_true rfl)⟩) g hK (by decide) (by decide) (fx' := [(7, 10, q1_, .ref a_24), (7, 13, q1_, .int x_6), (5, 2, a_1, .int x_2), (2, 1, a0_, .ref a_1), (2, 0, a0_, .ref q0_), (2, 3, a0_, .ref q1_), (2, 4, a0_, .ref q2_), (8, 8, q0_, .int y0_)]) rfl (fun fr_38 H locs hp hMr_38 g => ?_)
                obtain ⟨x_39, h_40, hF_41⟩ := hp
                have g := g.more hF_41
                have kb_1 : bd 1 1 (1 : Int32) := ⟨by decide, by decide⟩
                obtain ⟨y_42, ey_42⟩ : ∃ z : Int32, z = v27_3 + 1 := ⟨_, rfl⟩
                refine lv_iinc (v := y_42) (lv' := [(3, .int y_42), (2, .int 1), (4, .int r_17), (1, .int r_4), (0, .ref a0_)]) hx hb dX2_readOnly_159 hl (k := 2) rfl (by rw [ey_42]; rfl) (by decide) rfl (fun ls hl => ?_)
                have ty_42 := add_bd ey_42 b_12 kb_1 (by decide)
                have b_43 : bd 1 1201 y_42 := add_rg ty_42 b_12 kb_1 (by decide)
                refine lv_goto (tgt := 27) hx hb dX2_readOnly_162 (by decide) ?_
                have hl9 := lv_sub hl [0, 1, 3, 4] (by rfl : lv_pick [(3, .int y_42), (2, .int 1), (4, .int r_17), (1, .int r_4), (0, .ref a0_)] [0, 1, 3, 4] = [(3, .int y_42), (2, .int 1), (1, .int r_4), (0, .ref a0_)])
                have g9 := g.sub (fx' := [(7, 13, q1_, .int x_6), (5, 2, a_1, .int x_2), (2, 1, a0_, .ref a_1), (2, 0, a0_, .ref q0_), (2, 3, a0_, .ref q1_), (2, 4, a0_, .ref q2_), (8, 8, q0_, .int y0_)]) [2, 3, 4, 5, 6, 7, 8] rfl
                exact ih27  y_42 1 (bd_sub b_43 (by decide)) (bd_sub kb_1 (by decide)) (by have h9_0 := b_43; unfold bd at h9_0; have h9_1 := bv27_2; unfold bd at h9_1; have h9_2 := bv27_3; unfold bd at h9_2; have h9_3 := kb_0; unfold bd at h9_3; have h9_4 := kb_1; unfold bd at h9_4; have h9_5 := kb_1200; unfold bd at h9_5; have h9_6 := kb_3; unfold bd at h9_6; have h9_7 := kb_44; unfold bd at h9_7; have h9_8 := kb_m1; unfold bd at h9_8; omega) _ _ _ _ g9  hl9
            · have fc_22 := eq_f c_22
              have b_44 : bd (-1) (-1) r_17 := eqX fc_22 h_18 kb_m1 (by decide)
              refine lv_aload_n hx hb dX2_readOnly_89 rfl (lv_at hl 4 rfl) ?_
              refine g_getk (C := RX2) (T := TX2) (N := 16) hx hb hts (mc_ inX2) hown hK g rfl 0 (by decide) rfl (hts _ (List.mem_cons_of_mem _ t_416)) (fun _ h9 => h9) 3 rfl dX2_readOnly_90 ?_
              refine lv_iconst (v := 2) hx hb dX2_readOnly_93 (by decide) ?_
              refine lv_aload_n hx hb dX2_readOnly_94 rfl (lv_at hl 4 rfl) ?_
              refine g_getk (C := RX2) (T := TX2) (N := 16) hx hb hts (mc_ inX2) hown hK g rfl 0 (by decide) rfl (hts _ (List.mem_cons_of_mem _ t_416)) (fun _ h9 => h9) 3 rfl dX2_readOnly_95 ?_
              refine g_calli (va_runV (As := []) (rest := [.int 2, .ref q0_]) ⟨hx, hb, hml, hown, hts⟩ (r_X8_place l dC dI L kd tys fr_19 H.size g.2.2.2.1 q0_ mq0_ kq0_) (cwV 0 hts (gV_ t_1110 t_1111 t_1112 t_184 t_1113) rfl rfl rfl (by decide +kernel) ⟨(Nat.le_of_ble_eq_true rfl), (Nat.le_of_ble_eq_true rfl)⟩) (pre3V g hK mq0_ kq0_ (by decide) (q := (RX8, TX8, 10)) rfl) rfl rfl hl.1 rfl (lv_room (Nat.le_of_ble_eq_true rfl)) dX2_readOnly_98 ⟨(Nat.le_of_ble_eq_true rfl), (Nat.le_of_ble_eq_true rfl)⟩) g hK (by decide) (by decide) (fx' := [(7, 13, q1_, .int x_6), (5, 2, a_1, .int x_2), (2, 1, a0_, .ref a_1), (2, 0, a0_, .ref q0_), (2, 3, a0_, .ref q1_), (2, 4, a0_, .ref q2_), (8, 8, q0_, .int y0_)]) rfl (fun r_45 fr_45 H locs hp hMr_45 g => ?_)
              have kb_2 : bd 2 2 (2 : Int32) := ⟨by decide, by decide⟩
              refine g_callv (va_runV (As := [.int 2, .int r_45]) (rest := []) ⟨hx, hb, hml, hown, hts⟩ (r_X8_fail l dC dI L kd tys fr_45 H.size g.2.2.2.1 q0_ mq0_ kq0_ 2 (bd_sub kb_2 (by decide)) r_45 y0_ by0_ (g.fcts [6] rfl)) (cwV 2 hts (gV_ t_1122 t_1107 t_1108 t_184 t_1109) rfl rfl rfl (by decide +kernel) ⟨(Nat.le_of_ble_eq_true rfl), (Nat.le_of_ble_eq_true rfl)⟩) (pre3V g hK mq0_ kq0_ (by decide) (q := (RX8, TX8, 10)) rfl) rfl rfl hl.1 rfl (lv_room (Nat.le_of_ble_eq_true rfl)) dX2_readOnly_101 ⟨(Nat.le_of_ble_eq_true rfl), (Nat.le_of_ble_eq_true rfl)⟩) g hK (by decide) (by decide) (fx' := [(7, 13, q1_, .int x_6), (5, 2, a_1, .int x_2), (2, 1, a0_, .ref a_1), (2, 0, a0_, .ref q0_), (2, 3, a0_, .ref q1_), (2, 4, a0_, .ref q2_)]) rfl (fun fr_46 H locs hp hMr_46 g => ?_)
              obtain ⟨x_47, h_48, hF_49⟩ := hp
              have g := g.more hF_49
              refine lv_goto (tgt := 123) hx hb dX2_readOnly_104 (by decide) ?_
              refine lv_aload_n hx hb dX2_readOnly_123 rfl (lv_at hl 4 rfl) ?_
              refine g_getk (C := RX2) (T := TX2) (N := 16) hx hb hts (mc_ inX2) hown hK g rfl 0 (by decide) rfl (hts _ (List.mem_cons_of_mem _ t_416)) (fun _ h9 => h9) 5 rfl dX2_readOnly_124 ?_
              have kb_1201 : bd 1201 1201 (1201 : Int32) := ⟨by decide, by decide⟩
              refine g_callv (va_runV (As := []) (rest := []) ⟨hx, hb, hml, hown, hts⟩ (r_X8_next_2 l dC dI L kd tys fr_46 H.size g.2.2.2.1 q0_ mq0_ kq0_ 1201 kb_1201 (g.fcts [0] rfl)) (cwV 0 hts (gV_ t_1131 t_1103 t_1104 t_184 t_1105) rfl rfl rfl (by decide +kernel) ⟨(Nat.le_of_ble_eq_true rfl), (Nat.le_of_ble_eq_true rfl)⟩) (pre3V g hK mq0_ kq0_ (by decide) (q := (RX8, TX8, 10)) rfl) rfl rfl hl.1 rfl (lv_room (Nat.le_of_ble_eq_true rfl)) dX2_readOnly_127 ⟨(Nat.le_of_ble_eq_true rfl), (Nat.le_of_ble_eq_true rfl)⟩) g hK (by decide) (by decide) (fx' := [(8, 6, q0_, .int 1201), (8, 8, q0_, .int x_47), (7, 13, q1_, .int x_6), (5, 2, a_1, .int x_2), (2, 1, a0_, .ref a_1), (2, 0, a0_, .ref q0_), (2, 3, a0_, .ref q1_), (2, 4, a0_, .ref q2_)]) rfl (fun fr_50 H locs hp hMr_50 g => ?_)
              refine lv_aload_n hx hb dX2_readOnly_130 rfl (lv_at hl 4 rfl) ?_
              refine g_getk (C := RX2) (T := TX2) (N := 16) hx hb hts (mc_ inX2) hown hK g rfl 0 (by decide) rfl (hts _ (List.mem_cons_of_mem _ t_416)) (fun _ h9 => h9) 5 rfl dX2_readOnly_131 ?_
              refine g_calli (va_runV (As := []) (rest := []) ⟨hx, hb, hml, hown, hts⟩ (r_X8_kind_2 l dC dI L kd tys fr_50 H.size g.2.2.2.1 q0_ mq0_ kq0_ 1201 kb_1201 (g.fcts [0] rfl)) (cwV 0 hts (gV_ t_1118 t_1119 t_1120 t_184 t_1121) rfl rfl rfl (by decide +kernel) ⟨(Nat.le_of_ble_eq_true rfl), (Nat.le_of_ble_eq_true rfl)⟩) (pre3V g hK mq0_ kq0_ (by decide) (q := (RX8, TX8, 10)) rfl) rfl rfl hl.1 rfl (lv_room (Nat.le_of_ble_eq_true rfl)) dX2_readOnly_134 ⟨(Nat.le_of_ble_eq_true rfl), (Nat.le_of_ble_eq_true rfl)⟩) g hK (by decide) (by decide) (fx' := [(8, 6, q0_, .int 1201), (8, 8, q0_, .int x_47), (7, 13, q1_, .int x_6), (5, 2, a_1, .int x_2), (2, 1, a0_, .ref a_1), (2, 0, a0_, .ref q0_), (2, 3, a0_, .ref q1_), (2, 4, a0_, .ref q2_)]) rfl (fun r_51 fr_51 H locs hp hMr_51 g => ?_)
              obtain ⟨h_52, -⟩ := hp
              obtain rfl : r_51 = 0 := h_52
              refine lv_bipush (v := 44) hx hb dX2_readOnly_137 (by decide) ?_
              refine lv_icmp_ne (tgt := 146) hx hb dX2_readOnly_139 (by decide) (fun c_ => ?_) (fun c_ => absurd c_ (by decide))
              refine lv_iconst (v := 0) hx hb dX2_readOnly_146 (by decide) ?_
              refine lv_istore_n (lv' := [(2, .int 0), (4, .int r_17), (3, .int v27_3), (1, .int r_4), (0, .ref a0_)]) hx hb dX2_readOnly_147 rfl hl (by decide) rfl (fun ls hl => ?_)
              refine lv_iload_n hx hb dX2_readOnly_148 rfl (lv_at hl 0 rfl) ?_
              refine lv_if_eq (tgt := 159) hx hb dX2_readOnly_149 (by decide) (fun c_ => ?_) (fun c_ => absurd (by decide) c_)
              have kb_1 : bd 1 1 (1 : Int32) := ⟨by decide, by decide⟩
              obtain ⟨y_53, ey_53⟩ : ∃ z : Int32, z = v27_3 + 1 := ⟨_, rfl⟩
              refine lv_iinc (v := y_53) (lv' := [(3, .int y_53), (2, .int 0), (4, .int r_17), (1, .int r_4), (0, .ref a0_)]) hx hb dX2_readOnly_159 hl (k := 2) rfl (by rw [ey_53]; rfl) (by decide) rfl (fun ls hl => ?_)
              have ty_53 := add_bd ey_53 b_12 kb_1 (by decide)
              have b_54 : bd 1 1201 y_53 := add_rg ty_53 b_12 kb_1 (by decide)
              refine lv_goto (tgt := 27) hx hb dX2_readOnly_162 (by decide) ?_
              refine lv_iload_n hx hb dX2_readOnly_27 rfl (lv_at hl 0 rfl) ?_
              refine lv_sipush (v := 1200) hx hb dX2_readOnly_28 (by decide) ?_
              refine lv_icmp_gt (tgt := 165) hx hb dX2_readOnly_31 (by decide) (fun c_55 => ?_) (fun c_55 => ?_)
              · have fc_55 := lt_f c_55
                have b_56 : bd 1201 1201 y_53 := ltR fc_55 kb_1200 b_54 (by decide)
                have b_57 : bd 1200 1200 v27_3 := add_inv ty_53 b_56 b_12 kb_1 (by decide)
                subst hQ
                exact W.vret hx hb hr (fun t ht hW => ⟨⟨_, rfl, Or.inr (⟨x_47, h_48, x_6, h_7, (g.fcts [0, 1, 2] rfl)⟩), q3_of g hK ht hW⟩, g.2.2.1.F ht⟩) g.2.2.1.2.2 dX2_readOnly_165
              · have fc_55 := nlt_f c_55
                have b_58 : bd 1 1200 y_53 := leL fc_55 b_54 kb_1200 (by decide)
                have b_59 : bd 0 1199 v27_3 := add_inv ty_53 b_58 b_12 kb_1 (by decide)
                refine lv_iload_n hx hb dX2_readOnly_34 rfl (lv_at hl 1 rfl) ?_
                refine lv_if_eq (tgt := 165) hx hb dX2_readOnly_35 (by decide) (fun c_ => ?_) (fun c_ => absurd (by decide) c_)
                subst hQ
                exact W.vret hx hb hr (fun t ht hW => ⟨⟨_, rfl, Or.inr (⟨x_47, h_48, x_6, h_7, (g.fcts [0, 1, 2] rfl)⟩), q3_of g hK ht hW⟩, g.2.2.1.F ht⟩) g.2.2.1.2.2 dX2_readOnly_165
          · have fc_20 := neq_f c_20
            refine lv_aload_n hx hb dX2_readOnly_65 rfl (lv_at hl 4 rfl) ?_
            refine g_getk (C := RX2) (T := TX2) (N := 16) hx hb hts (mc_ inX2) hown hK g rfl 0 (by decide) rfl (hts _ (List.mem_cons_of_mem _ t_416)) (fun _ h9 => h9) 3 rfl dX2_readOnly_66 ?_
            refine lv_iconst (v := 1) hx hb dX2_readOnly_69 (by decide) ?_
            refine lv_aload_n hx hb dX2_readOnly_70 rfl (lv_at hl 4 rfl) ?_
            refine g_getk (C := RX2) (T := TX2) (N := 16) hx hb hts (mc_ inX2) hown hK g rfl 0 (by decide) rfl (hts _ (List.mem_cons_of_mem _ t_416)) (fun _ h9 => h9) 3 rfl dX2_readOnly_71 ?_
            refine g_calli (va_runV (As := []) (rest := [.int 1, .ref q0_]) ⟨hx, hb, hml, hown, hts⟩ (r_X8_place l dC dI L kd tys fr_19 H.size g.2.2.2.1 q0_ mq0_ kq0_) (cwV 0 hts (gV_ t_1110 t_1111 t_1112 t_184 t_1113) rfl rfl rfl (by decide +kernel) ⟨(Nat.le_of_ble_eq_true rfl), (Nat.le_of_ble_eq_true rfl)⟩) (pre3V g hK mq0_ kq0_ (by decide) (q := (RX8, TX8, 10)) rfl) rfl rfl hl.1 rfl (lv_room (Nat.le_of_ble_eq_true rfl)) dX2_readOnly_74 ⟨(Nat.le_of_ble_eq_true rfl), (Nat.le_of_ble_eq_true rfl)⟩) g hK (by decide) (by decide) (fx' := [(7, 13, q1_, .int x_6), (5, 2, a_1, .int x_2), (2, 1, a0_, .ref a_1), (2, 0, a0_, .ref q0_), (2, 3, a0_, .ref q1_), (2, 4, a0_, .ref q2_), (8, 8, q0_, .int y0_)]) rfl (fun r_60 fr_60 H locs hp hMr_60 g => ?_)
            have kb_1 : bd 1 1 (1 : Int32) := ⟨by decide, by decide⟩
            refine g_callv (va_runV (As := [.int 1, .int r_60]) (rest := []) ⟨hx, hb, hml, hown, hts⟩ (r_X8_fail l dC dI L kd tys fr_60 H.size g.2.2.2.1 q0_ mq0_ kq0_ 1 (bd_sub kb_1 (by decide)) r_60 y0_ by0_ (g.fcts [6] rfl)) (cwV 2 hts (gV_ t_1122 t_1107 t_1108 t_184 t_1109) rfl rfl rfl (by decide +kernel) ⟨(Nat.le_of_ble_eq_true rfl), (Nat.le_of_ble_eq_true rfl)⟩) (pre3V g hK mq0_ kq0_ (by decide) (q := (RX8, TX8, 10)) rfl) rfl rfl hl.1 rfl (lv_room (Nat.le_of_ble_eq_true rfl)) dX2_readOnly_77 ⟨(Nat.le_of_ble_eq_true rfl), (Nat.le_of_ble_eq_true rfl)⟩) g hK (by decide) (by decide) (fx' := [(7, 13, q1_, .int x_6), (5, 2, a_1, .int x_2), (2, 1, a0_, .ref a_1), (2, 0, a0_, .ref q0_), (2, 3, a0_, .ref q1_), (2, 4, a0_, .ref q2_)]) rfl (fun fr_61 H locs hp hMr_61 g => ?_)
            obtain ⟨x_62, h_63, hF_64⟩ := hp
            have g := g.more hF_64
            refine lv_goto (tgt := 123) hx hb dX2_readOnly_80 (by decide) ?_
            refine lv_aload_n hx hb dX2_readOnly_123 rfl (lv_at hl 4 rfl) ?_
            refine g_getk (C := RX2) (T := TX2) (N := 16) hx hb hts (mc_ inX2) hown hK g rfl 0 (by decide) rfl (hts _ (List.mem_cons_of_mem _ t_416)) (fun _ h9 => h9) 5 rfl dX2_readOnly_124 ?_
            have kb_1201 : bd 1201 1201 (1201 : Int32) := ⟨by decide, by decide⟩
            refine g_callv (va_runV (As := []) (rest := []) ⟨hx, hb, hml, hown, hts⟩ (r_X8_next_2 l dC dI L kd tys fr_61 H.size g.2.2.2.1 q0_ mq0_ kq0_ 1201 kb_1201 (g.fcts [0] rfl)) (cwV 0 hts (gV_ t_1131 t_1103 t_1104 t_184 t_1105) rfl rfl rfl (by decide +kernel) ⟨(Nat.le_of_ble_eq_true rfl), (Nat.le_of_ble_eq_true rfl)⟩) (pre3V g hK mq0_ kq0_ (by decide) (q := (RX8, TX8, 10)) rfl) rfl rfl hl.1 rfl (lv_room (Nat.le_of_ble_eq_true rfl)) dX2_readOnly_127 ⟨(Nat.le_of_ble_eq_true rfl), (Nat.le_of_ble_eq_true rfl)⟩) g hK (by decide) (by decide) (fx' := [(8, 6, q0_, .int 1201), (8, 8, q0_, .int x_62), (7, 13, q1_, .int x_6), (5, 2, a_1, .int x_2), (2, 1, a0_, .ref a_1), (2, 0, a0_, .ref q0_), (2, 3, a0_, .ref q1_), (2, 4, a0_, .ref q2_)]) rfl (fun fr_65 H locs hp hMr_65 g => ?_)
            refine lv_aload_n hx hb dX2_readOnly_130 rfl (lv_at hl 4 rfl) ?_
            refine g_getk (C := RX2) (T := TX2) (N := 16) hx hb hts (mc_ inX2) hown hK g rfl 0 (by decide) rfl (hts _ (List.mem_cons_of_mem _ t_416)) (fun _ h9 => h9) 5 rfl dX2_readOnly_131 ?_
            refine g_calli (va_runV (As := []) (rest := []) ⟨hx, hb, hml, hown, hts⟩ (r_X8_kind_2 l dC dI L kd tys fr_65 H.size g.2.2.2.1 q0_ mq0_ kq0_ 1201 kb_1201 (g.fcts [0] rfl)) (cwV 0 hts (gV_ t_1118 t_1119 t_1120 t_184 t_1121) rfl rfl rfl (by decide +kernel) ⟨(Nat.le_of_ble_eq_true rfl), (Nat.le_of_ble_eq_true rfl)⟩) (pre3V g hK mq0_ kq0_ (by decide) (q := (RX8, TX8, 10)) rfl) rfl rfl hl.1 rfl (lv_room (Nat.le_of_ble_eq_true rfl)) dX2_readOnly_134 ⟨(Nat.le_of_ble_eq_true rfl), (Nat.le_of_ble_eq_true rfl)⟩) g hK (by decide) (by decide) (fx' := [(8, 6, q0_, .int 1201), (8, 8, q0_, .int x_62), (7, 13, q1_, .int x_6), (5, 2, a_1, .int x_2), (2, 1, a0_, .ref a_1), (2, 0, a0_, .ref q0_), (2, 3, a0_, .ref q1_), (2, 4, a0_, .ref q2_)]) rfl (fun r_66 fr_66 H locs hp hMr_66 g => ?_)
            obtain ⟨h_67, -⟩ := hp
            obtain rfl : r_66 = 0 := h_67
            refine lv_bipush (v := 44) hx hb dX2_readOnly_137 (by decide) ?_
            refine lv_icmp_ne (tgt := 146) hx hb dX2_readOnly_139 (by decide) (fun c_ => ?_) (fun c_ => absurd c_ (by decide))
            refine lv_iconst (v := 0) hx hb dX2_readOnly_146 (by decide) ?_
            refine lv_istore_n (lv' := [(2, .int 0), (4, .int r_17), (3, .int v27_3), (1, .int r_4), (0, .ref a0_)]) hx hb dX2_readOnly_147 rfl hl (by decide) rfl (fun ls hl => ?_)
            refine lv_iload_n hx hb dX2_readOnly_148 rfl (lv_at hl 0 rfl) ?_
            refine lv_if_eq (tgt := 159) hx hb dX2_readOnly_149 (by decide) (fun c_ => ?_) (fun c_ => absurd (by decide) c_)
            obtain ⟨y_68, ey_68⟩ : ∃ z : Int32, z = v27_3 + 1 := ⟨_, rfl⟩
            refine lv_iinc (v := y_68) (lv' := [(3, .int y_68), (2, .int 0), (4, .int r_17), (1, .int r_4), (0, .ref a0_)]) hx hb dX2_readOnly_159 hl (k := 2) rfl (by rw [ey_68]; rfl) (by decide) rfl (fun ls hl => ?_)
            have ty_68 := add_bd ey_68 b_12 kb_1 (by decide)
            have b_69 : bd 1 1201 y_68 := add_rg ty_68 b_12 kb_1 (by decide)
            refine lv_goto (tgt := 27) hx hb dX2_readOnly_162 (by decide) ?_
            refine lv_iload_n hx hb dX2_readOnly_27 rfl (lv_at hl 0 rfl) ?_
            refine lv_sipush (v := 1200) hx hb dX2_readOnly_28 (by decide) ?_
            refine lv_icmp_gt (tgt := 165) hx hb dX2_readOnly_31 (by decide) (fun c_70 => ?_) (fun c_70 => ?_)
            · have fc_70 := lt_f c_70
              have b_71 : bd 1201 1201 y_68 := ltR fc_70 kb_1200 b_69 (by decide)
              have b_72 : bd 1200 1200 v27_3 := add_inv ty_68 b_71 b_12 kb_1 (by decide)
              subst hQ
              exact W.vret hx hb hr (fun t ht hW => ⟨⟨_, rfl, Or.inr (⟨x_62, h_63, x_6, h_7, (g.fcts [0, 1, 2] rfl)⟩), q3_of g hK ht hW⟩, g.2.2.1.F ht⟩) g.2.2.1.2.2 dX2_readOnly_165
            · have fc_70 := nlt_f c_70
              have b_73 : bd 1 1200 y_68 := leL fc_70 b_69 kb_1200 (by decide)
              have b_74 : bd 0 1199 v27_3 := add_inv ty_68 b_73 b_12 kb_1 (by decide)
              refine lv_iload_n hx hb dX2_readOnly_34 rfl (lv_at hl 1 rfl) ?_
              refine lv_if_eq (tgt := 165) hx hb dX2_readOnly_35 (by decide) (fun c_ => ?_) (fun c_ => absurd (by decide) c_)
              subst hQ
              exact W.vret hx hb hr (fun t ht hW => ⟨⟨_, rfl, Or.inr (⟨x_62, h_63, x_6, h_7, (g.fcts [0, 1, 2] rfl)⟩), q3_of g hK ht hW⟩, g.2.2.1.F ht⟩) g.2.2.1.2.2 dX2_readOnly_165
  have kb_0 : bd 0 0 (0 : Int32) := ⟨by decide, by decide⟩
  have kb_1 : bd 1 1 (1 : Int32) := ⟨by decide, by decide⟩
  have hl9 := lv_sub hl [0, 1, 2, 3] (by rfl : lv_pick [(3, .int 0), (2, .int 1), (1, .int r_4), (0, .ref a0_)] [0, 1, 2, 3] = [(3, .int 0), (2, .int 1), (1, .int r_4), (0, .ref a0_)])
  have g9 := g.sub (fx' := [(7, 13, q1_, .int x_6), (5, 2, a_1, .int x_2), (2, 1, a0_, .ref a_1), (2, 0, a0_, .ref q0_), (2, 3, a0_, .ref q1_), (2, 4, a0_, .ref q2_), (8, 8, q0_, .int y0_)]) [0, 1, 2, 3, 4, 5, 6] rfl
  exact loop_9 (2405) 0 1 (bd_sub kb_0 (by decide)) (bd_sub kb_1 (by decide)) (by have h9_0 := kb_0; unfold bd at h9_0; have h9_1 := kb_1; unfold bd at h9_1; omega) _ _ _ _ g9  hl9
set_option maxHeartbeats 4000000 in
set_option maxRecDepth 100000 in
theorem r_X2_readOnly_2 (l : Launch) (dC : Nat → ClassId) (dI : Nat → Nat → Nat) (L : List Nat) (kd : Nat → Nat) (tys : List (ClassId × FieldType)) (f0 : Nat → va_E) (sz : Nat) (hWT : WT L kd tys f0) (a0_ : Nat) (ma0_ : a0_ ∈ L) (ka0_ : kd a0_ = 2) (q0_ : Nat) (mq0_ : q0_ ∈ L) (kq0_ : kd q0_ = 8) (q1_ : Nat) (mq1_ : q1_ ∈ L) (kq1_ : kd q1_ = 7) (q2_ : Nat) (mq2_ : q2_ ∈ L) (kq2_ : kd q2_ = 9) (y0_ : Int32) (by0_ : bd 1201 1201 y0_) (y1_ : Int32) (by1_ : bd 1 7 y1_) (hfx : Fs L kd f0 [(2, 0, a0_, .ref q0_), (2, 3, a0_, .ref q1_), (2, 4, a0_, .ref q2_), (8, 6, q0_, .int y0_), (8, 8, q0_, .int y1_)]) : Met l yX2_readOnly (.code yX2_readOnly cX2_readOnly 5 none :: lw_g) ({ frames := 2, cells := 0, slots := 0, locals := 37 }) (va_Pc [.ref a0_] (P3 (dC, dI) L tys f0 sz)) (va_Qv (fun (f : Nat → va_E) => (∃ z0_ : Int32, bd 1 500 z0_ ∧ ∃ z1_ : Int32, bd 1201 1201 z1_ ∧ Fs L kd f [(7, 13, q1_, .int z0_), (8, 6, q0_, .int z1_)])) (Q3 (dC, dI) L kd tys [(7, 13), (8, 6)] [140, 141, 142, 143, 144, 145] f0 sz) (pA L sz)) 0 0 (pA L sz) := by
  refine Met.ofW (cc := cX2_readOnly) (maxL := 5) (ret := none) (by decide) rfl ?_
  intro p e s m args below meth c s₁ B hml hv
  obtain ⟨rfl, hsz, hP, hK, hD0⟩ := hv
  have hx := B.exec
  have hb := B.bytes
  have hr := B.returns
  have hts := atoms_spec (ws := (.code yX2_readOnly cX2_readOnly 5 none :: lw_g)) B.pre
  have hown : s.vm.findClass RX2 = some m.cls := findClass_of_methodNamed B.named
  have hlocks := B.notSynchronized
  subst hsz
  have g : G3 (dC, dI) L kd tys s f0 [(7, 13), (8, 6)] [140, 141, 142, 143, 144, 145] f0 s.heap [] [(2, 0, a0_, .ref q0_), (2, 3, a0_, .ref q1_), (2, 4, a0_, .ref q2_), (8, 6, q0_, .int y0_), (8, 8, q0_, .int y1_)] := G3.start hP hD0 hWT hfx
  have hl := lv_entry ([.ref a0_]) (n := 5) (Nat.le_of_ble_eq_true rfl)
  rw [lg_entry_eq]
  generalize (lg_sl ([.ref a0_]) ++ List.replicate (5 - (lg_sl ([.ref a0_])).length) Slot.unset).toArray = ls at hl ⊢
  have hl : lv_has ls 5 [(0, .ref a0_)] := hl
  refine W_q (fun Q hQ => ?_)
  refine lv_aload_n hx hb dX2_readOnly_0 rfl (lv_at hl 0 rfl) ?_
  refine g_getk (C := RX2) (T := TX2) (N := 16) hx hb hts (mc_ inX2) hown hK g rfl 3 (by decide) rfl (hts _ (List.mem_cons_of_mem _ t_419)) (fun _ h9 => h9) 1 rfl dX2_readOnly_1 ?_
  refine lv_iconst (v := 5) hx hb dX2_readOnly_4 (by decide) ?_
  refine lv_aload_n hx hb dX2_readOnly_5 rfl (lv_at hl 0 rfl) ?_
  refine g_getr (K := 5) (C := RX2) (T := TX2) (N := 16) hx hb hts (mc_ inX2) hown hK g ma0_ ka0_ (by decide) rfl 1 (by decide) rfl (hts _ (List.mem_cons_of_mem _ t_417)) (fun _ h9 => h9) rfl dX2_readOnly_6 (fun a_1 ma_1 ka_1 g => ?_)
  refine g_geti (C := RX5) (T := TX5) (N := 9) hx hb hts (mc_ inX5) hown hK g ma_1 ka_1 (by decide) rfl 2 (by decide) rfl (hts _ (List.mem_cons_of_mem _ t_333)) (fun _ h9 => h9) rfl dX2_readOnly_9 (fun x_2 bx_2 g => ?_)
  refine lv_aload_n hx hb dX2_readOnly_12 rfl (lv_at hl 0 rfl) ?_
  refine g_getk (C := RX2) (T := TX2) (N := 16) hx hb hts (mc_ inX2) hown hK g rfl 0 (by decide) rfl (hts _ (List.mem_cons_of_mem _ t_416)) (fun _ h9 => h9) 2 rfl dX2_readOnly_13 ?_
  refine g_calli (va_runV (As := []) (rest := [.int x_2, .int 5, .ref q1_]) ⟨hx, hb, hml, hown, hts⟩ (r_X8_place l dC dI L kd tys f0 s.heap.size g.2.2.2.1 q0_ mq0_ kq0_) (cwV 0 hts (gV_ t_1110 t_1111 t_1112 t_184 t_1113) rfl rfl rfl (by decide +kernel) ⟨(Nat.le_of_ble_eq_true rfl), (Nat.le_of_ble_eq_true rfl)⟩) (pre3V g hK mq0_ kq0_ (by decide) (q := (RX8, TX8, 10)) rfl) rfl rfl hl.1 rfl (lv_room (Nat.le_of_ble_eq_true rfl)) dX2_readOnly_16 ⟨(Nat.le_of_ble_eq_true rfl), (Nat.le_of_ble_eq_true rfl)⟩) g hK (by decide) (by decide) (fx' := [(5, 2, a_1, .int x_2), (2, 1, a0_, .ref a_1), (2, 0, a0_, .ref q0_), (2, 3, a0_, .ref q1_), (2, 4, a0_, .ref q2_), (8, 6, q0_, .int y0_), (8, 8, q0_, .int y1_)]) rfl (fun r_3 fr_3 H locs hp hMr_3 g => ?_)
  refine g_calli (va_runV (As := [.int 5, .int x_2, .int r_3]) (rest := []) ⟨hx, hb, hml, hown, hts⟩ (r_X7_addMark l dC dI L kd tys fr_3 H.size g.2.2.2.1 q1_ mq1_ kq1_ 5 x_2 r_3) (cwV 3 hts (gV_ t_1173 t_1174 t_1175 t_191 t_1176) rfl rfl rfl (by decide +kernel) ⟨(Nat.le_of_ble_eq_true rfl), (Nat.le_of_ble_eq_true rfl)⟩) (pre3V g hK mq1_ kq1_ (by decide) (q := (RX7, TX7, 19)) rfl) rfl rfl hl.1 rfl (lv_room (Nat.le_of_ble_eq_true rfl)) dX2_readOnly_19 ⟨(Nat.le_of_ble_eq_true rfl), (Nat.le_of_ble_eq_true rfl)⟩) g hK (by decide) (by decide) (fx' := [(5, 2, a_1, .int x_2), (2, 1, a0_, .ref a_1), (2, 0, a0_, .ref q0_), (2, 3, a0_, .ref q1_), (2, 4, a0_, .ref q2_), (8, 6, q0_, .int y0_), (8, 8, q0_, .int y1_)]) rfl (fun r_4 fr_4 H locs hp hMr_4 g => ?_)
  obtain ⟨h_5, x_6, h_7, hF_8⟩ := hp
  have g := g.more hF_8
  refine lv_istore_n (lv' := [(1, .int r_4), (0, .ref a0_)]) hx hb dX2_readOnly_22 rfl hl (by decide) rfl (fun ls hl => ?_)
  refine lv_iconst (v := 1) hx hb dX2_readOnly_23 (by decide) ?_
  refine lv_istore_n (lv' := [(2, .int 1), (1, .int r_4), (0, .ref a0_)]) hx hb dX2_readOnly_24 rfl hl (by decide) rfl (fun ls hl => ?_)
  refine lv_iconst (v := 0) hx hb dX2_readOnly_25 (by decide) ?_
  refine lv_istore_n (lv' := [(3, .int 0), (2, .int 1), (1, .int r_4), (0, .ref a0_)]) hx hb dX2_readOnly_26 rfl hl (by decide) rfl (fun ls hl => ?_)
  have loop_9 : ∀ (n : Nat) (v27_3 : Int32) (v27_2 : Int32) (w27_8_6_q0_ : Int32), bd 0 1201 v27_3 → bd 0 1 v27_2 → bd 1201 1201 w27_8_6_q0_ → (1201 - v27_3.toInt < (n : Int)) → ∀ (f : Nat → va_E) (H : Heap) (locs : List Loc) (ls : Array Slot), G3 (dC, dI) L kd tys s f0 [(7, 13), (8, 6)] [140, 141, 142, 143, 144, 145] f H locs [(7, 13, q1_, .int x_6), (5, 2, a_1, .int x_2), (2, 1, a0_, .ref a_1), (2, 0, a0_, .ref q0_), (2, 3, a0_, .ref q1_), (2, 4, a0_, .ref q2_), (8, 6, q0_, .int w27_8_6_q0_), (8, 8, q0_, .int y1_)] → lv_has ls 5 [(3, .int v27_3), (2, .int v27_2), (1, .int r_4), (0, .ref a0_)] → W p l e ({ frames := 2, cells := 0, slots := 0, locals := 37 } : Room) s m [.ref a0_].toArray below meth c H locs 0 0 Q (F0 m 27 ls []) := by
    intro n27
    induction n27 with
    | zero =>
      intro v27_3 v27_2 w27_8_6_q0_ bv27_3 bv27_2 bw27_8_6_q0_ hm27 f H locs ls g  hl
      exact absurd hm27 (by have h9_v27_3 := bv27_3; unfold bd at h9_v27_3; have h9_v27_2 := bv27_2; unfold bd at h9_v27_2; have h9_w27_8_6_q0_ := bw27_8_6_q0_; unfold bd at h9_w27_8_6_q0_; omega)
    | succ n27 ih27 =>
      intro v27_3 v27_2 w27_8_6_q0_ bv27_3 bv27_2 bw27_8_6_q0_ hm27 f H locs ls g  hl
      refine lv_iload_n hx hb dX2_readOnly_27 rfl (lv_at hl 0 rfl) ?_
      refine lv_sipush (v := 1200) hx hb dX2_readOnly_28 (by decide) ?_
      have kb_1200 : bd 1200 1200 (1200 : Int32) := ⟨by decide, by decide⟩
      refine lv_icmp_gt (tgt := 165) hx hb dX2_readOnly_31 (by decide) (fun c_10 => ?_) (fun c_10 => ?_)
      · have fc_10 := lt_f c_10
        have b_11 : bd 1201 1201 v27_3 := ltR fc_10 kb_1200 bv27_3 (by decide)
        subst hQ
        exact W.vret hx hb hr (fun t ht hW => ⟨⟨_, rfl, ⟨x_6, h_7, w27_8_6_q0_, bw27_8_6_q0_, (g.fcts [0, 6] rfl)⟩, q3_of g hK ht hW⟩, g.2.2.1.F ht⟩) g.2.2.1.2.2 dX2_readOnly_165
      · have fc_10 := nlt_f c_10
        have b_12 : bd 0 1200 v27_3 := leL fc_10 bv27_3 kb_1200 (by decide)
        refine lv_iload_n hx hb dX2_readOnly_34 rfl (lv_at hl 1 rfl) ?_
        have kb_0 : bd 0 0 (0 : Int32) := ⟨by decide, by decide⟩
        refine lv_if_eq (tgt := 165) hx hb dX2_readOnly_35 (by decide) (fun c_13 => ?_) (fun c_13 => ?_)
        · have fc_13 := eq_f c_13
          have b_14 : bd 0 0 v27_2 := eqX fc_13 bv27_2 kb_0 (by decide)
          subst hQ
          exact W.vret hx hb hr (fun t ht hW => ⟨⟨_, rfl, ⟨x_6, h_7, w27_8_6_q0_, bw27_8_6_q0_, (g.fcts [0, 6] rfl)⟩, q3_of g hK ht hW⟩, g.2.2.1.F ht⟩) g.2.2.1.2.2 dX2_readOnly_165
        · have fc_13 := neq_f c_13
          have b_15 : bd 1 1 v27_2 := neX fc_13 bv27_2 kb_0 (by decide)
          refine lv_aload_n hx hb dX2_readOnly_38 rfl (lv_at hl 3 rfl) ?_
          refine g_getk (C := RX2) (T := TX2) (N := 16) hx hb hts (mc_ inX2) hown hK g rfl 4 (by decide) rfl (hts _ (List.mem_cons_of_mem _ t_420)) (fun _ h9 => h9) 5 rfl dX2_readOnly_39 ?_
          refine lv_aload_n hx hb dX2_readOnly_42 rfl (lv_at hl 3 rfl) ?_
          refine g_getk (C := RX2) (T := TX2) (N := 16) hx hb hts (mc_ inX2) hown hK g rfl 0 (by decide) rfl (hts _ (List.mem_cons_of_mem _ t_416)) (fun _ h9 => h9) 3 rfl dX2_readOnly_43 ?_
          refine g_calll (va_runV (As := []) (rest := [.ref q2_]) ⟨hx, hb, hml, hown, hts⟩ (r_X8_value l dC dI L kd tys f H.size g.2.2.2.1 q0_ mq0_ kq0_) (cwV 0 hts (gV_ t_1114 t_1115 t_1116 t_184 t_1117) rfl rfl rfl (by decide +kernel) ⟨(Nat.le_of_ble_eq_true rfl), (Nat.le_of_ble_eq_true rfl)⟩) (pre3V g hK mq0_ kq0_ (by decide) (q := (RX8, TX8, 10)) rfl) rfl rfl hl.1 rfl (lv_room (Nat.le_of_ble_eq_true rfl)) dX2_readOnly_46 ⟨(Nat.le_of_ble_eq_true rfl), (Nat.le_of_ble_eq_true rfl)⟩) g hK (by decide) (by decide) (fx' := [(7, 13, q1_, .int x_6), (5, 2, a_1, .int x_2), (2, 1, a0_, .ref a_1), (2, 0, a0_, .ref q0_), (2, 3, a0_, .ref q1_), (2, 4, a0_, .ref q2_), (8, 6, q0_, .int w27_8_6_q0_), (8, 8, q0_, .int y1_)]) rfl (fun r_16 fr_16 H locs hp hMr_16 g => ?_)
          refine g_calli (va_runV (As := [.long r_16]) (rest := []) ⟨hx, hb, hml, hown, hts⟩ (r_X9_fieldNamed l dC dI L kd tys fr_16 H.size g.2.2.2.1 q2_ mq2_ kq2_ r_16) (cwV 1 hts (gV_ t_1147 t_1148 t_1149 t_192 t_1150) rfl rfl rfl (by decide +kernel) ⟨(Nat.le_of_ble_eq_true rfl), (Nat.le_of_ble_eq_true rfl)⟩) (pre3V g hK mq2_ kq2_ (by decide) (q := (RX9, TX9, 13)) rfl) rfl rfl hl.1 rfl (lv_room (Nat.le_of_ble_eq_true rfl)) dX2_readOnly_49 ⟨(Nat.le_of_ble_eq_true rfl), (Nat.le_of_ble_eq_true rfl)⟩) g hK (by decide) (by decide) (fx' := [(7, 13, q1_, .int x_6), (5, 2, a_1, .int x_2), (2, 1, a0_, .ref a_1), (2, 0, a0_, .ref q0_), (2, 3, a0_, .ref q1_), (2, 4, a0_, .ref q2_), (8, 6, q0_, .int w27_8_6_q0_), (8, 8, q0_, .int y1_)]) rfl (fun r_17 fr_17 H locs hp hMr_17 g => ?_)
          obtain ⟨h_18, -⟩ := hp
          refine lv_istore (lv' := [(4, .int r_17), (3, .int v27_3), (2, .int v27_2), (1, .int r_4), (0, .ref a0_)]) hx hb dX2_readOnly_52 hl (by decide) rfl (fun ls hl => ?_)
          refine lv_aload_n hx hb dX2_readOnly_54 rfl (lv_at hl 4 rfl) ?_
          refine g_getk (C := RX2) (T := TX2) (N := 16) hx hb hts (mc_ inX2) hown hK g rfl 0 (by decide) rfl (hts _ (List.mem_cons_of_mem _ t_416)) (fun _ h9 => h9) 3 rfl dX2_readOnly_55 ?_
          refine g_calli (va_runV (As := []) (rest := []) ⟨hx, hb, hml, hown, hts⟩ (r_X8_kind_2 l dC dI L kd tys fr_17 H.size g.2.2.2.1 q0_ mq0_ kq0_ w27_8_6_q0_ bw27_8_6_q0_ (g.fcts [6] rfl)) (cwV 0 hts (gV_ t_1118 t_1119 t_1120 t_184 t_1121) rfl rfl rfl (by decide +kernel) ⟨(Nat.le_of_ble_eq_true rfl), (Nat.le_of_ble_eq_true rfl)⟩) (pre3V g hK mq0_ kq0_ (by decide) (q := (RX8, TX8, 10)) rfl) rfl rfl hl.1 rfl (lv_room (Nat.le_of_ble_eq_true rfl)) dX2_readOnly_58 ⟨(Nat.le_of_ble_eq_true rfl), (Nat.le_of_ble_eq_true rfl)⟩) g hK (by decide) (by decide) (fx' := [(7, 13, q1_, .int x_6), (5, 2, a_1, .int x_2), (2, 1, a0_, .ref a_1), (2, 0, a0_, .ref q0_), (2, 3, a0_, .ref q1_), (2, 4, a0_, .ref q2_), (8, 6, q0_, .int w27_8_6_q0_), (8, 8, q0_, .int y1_)]) rfl (fun r_19 fr_19 H locs hp hMr_19 g => ?_)
          obtain ⟨h_20, -⟩ := hp
          obtain rfl : r_19 = 0 := h_20
          refine lv_iconst (v := 3) hx hb dX2_readOnly_61 (by decide) ?_
          refine lv_icmp_eq (tgt := 83) hx hb dX2_readOnly_62 (by decide) (fun c_ => absurd c_ (by decide)) (fun c_ => ?_)
          refine lv_aload_n hx hb dX2_readOnly_65 rfl (lv_at hl 4 rfl) ?_
          refine g_getk (C := RX2) (T := TX2) (N := 16) hx hb hts (mc_ inX2) hown hK g rfl 0 (by decide) rfl (hts _ (List.mem_cons_of_mem _ t_416)) (fun _ h9 => h9) 3 rfl dX2_readOnly_66 ?_
          refine lv_iconst (v := 1) hx hb dX2_readOnly_69 (by decide) ?_
          refine lv_aload_n hx hb dX2_readOnly_70 rfl (lv_at hl 4 rfl) ?_
          refine g_getk (C := RX2) (T := TX2) (N := 16) hx hb hts (mc_ inX2) hown hK g rfl 0 (by decide) rfl (hts _ (List.mem_cons_of_mem _ t_416)) (fun _ h9 => h9) 3 rfl dX2_readOnly_71 ?_
          refine g_calli (va_runV (As := []) (rest := [.int 1, .ref q0_]) ⟨hx, hb, hml, hown, hts⟩ (r_X8_place l dC dI L kd tys fr_19 H.size g.2.2.2.1 q0_ mq0_ kq0_) (cwV 0 hts (gV_ t_1110 t_1111 t_1112 t_184 t_1113) rfl rfl rfl (by decide +kernel) ⟨(Nat.le_of_ble_eq_true rfl), (Nat.le_of_ble_eq_true rfl)⟩) (pre3V g hK mq0_ kq0_ (by decide) (q := (RX8, TX8, 10)) rfl) rfl rfl hl.1 rfl (lv_room (Nat.le_of_ble_eq_true rfl)) dX2_readOnly_74 ⟨(Nat.le_of_ble_eq_true rfl), (Nat.le_of_ble_eq_true rfl)⟩) g hK (by decide) (by decide) (fx' := [(7, 13, q1_, .int x_6), (5, 2, a_1, .int x_2), (2, 1, a0_, .ref a_1), (2, 0, a0_, .ref q0_), (2, 3, a0_, .ref q1_), (2, 4, a0_, .ref q2_), (8, 6, q0_, .int w27_8_6_q0_), (8, 8, q0_, .int y1_)]) rfl (fun r_21 fr_21 H locs hp hMr_21 g => ?_)
          have kb_1 : bd 1 1 (1 : Int32) := ⟨by decide, by decide⟩
          refine g_callv (va_runV (As := [.int 1, .int r_21]) (rest := []) ⟨hx, hb, hml, hown, hts⟩ (r_X8_fail_2 l dC dI L kd tys fr_21 H.size g.2.2.2.1 q0_ mq0_ kq0_ 1 (bd_sub kb_1 (by decide)) r_21 y1_ by1_ (g.fcts [7] rfl)) (cwV 2 hts (gV_ t_1122 t_1107 t_1108 t_184 t_1109) rfl rfl rfl (by decide +kernel) ⟨(Nat.le_of_ble_eq_true rfl), (Nat.le_of_ble_eq_true rfl)⟩) (pre3V g hK mq0_ kq0_ (by decide) (q := (RX8, TX8, 10)) rfl) rfl rfl hl.1 rfl (lv_room (Nat.le_of_ble_eq_true rfl)) dX2_readOnly_77 ⟨(Nat.le_of_ble_eq_true rfl), (Nat.le_of_ble_eq_true rfl)⟩) g hK (by decide) (by decide) (fx' := [(7, 13, q1_, .int x_6), (5, 2, a_1, .int x_2), (2, 1, a0_, .ref a_1), (2, 0, a0_, .ref q0_), (2, 3, a0_, .ref q1_), (2, 4, a0_, .ref q2_), (8, 8, q0_, .int y1_)]) rfl (fun fr_22 H locs hp hMr_22 g => ?_)
          have hF_23 := hp
          have g := g.more hF_23
          refine lv_goto (tgt := 123) hx hb dX2_readOnly_80 (by decide) ?_
          refine lv_aload_n hx hb dX2_readOnly_123 rfl (lv_at hl 4 rfl) ?_
          refine g_getk (C := RX2) (T := TX2) (N := 16) hx hb hts (mc_ inX2) hown hK g rfl 0 (by decide) rfl (hts _ (List.mem_cons_of_mem _ t_416)) (fun _ h9 => h9) 4 rfl dX2_readOnly_124 ?_
          have kb_1201 : bd 1201 1201 (1201 : Int32) := ⟨by decide, by decide⟩
          refine g_callv (va_runV (As := []) (rest := []) ⟨hx, hb, hml, hown, hts⟩ (r_X8_next_2 l dC dI L kd tys fr_22 H.size g.2.2.2.1 q0_ mq0_ kq0_ 1201 kb_1201 (g.fcts [0] rfl)) (cwV 0 hts (gV_ t_1131 t_1103 t_1104 t_184 t_1105) rfl rfl rfl (by decide +kernel) ⟨(Nat.le_of_ble_eq_true rfl), (Nat.le_of_ble_eq_true rfl)⟩) (pre3V g hK mq0_ kq0_ (by decide) (q := (RX8, TX8, 10)) rfl) rfl rfl hl.1 rfl (lv_room (Nat.le_of_ble_eq_true rfl)) dX2_readOnly_127 ⟨(Nat.le_of_ble_eq_true rfl), (Nat.le_of_ble_eq_true rfl)⟩) g hK (by decide) (by decide) (fx' := [(8, 6, q0_, .int 1201), (7, 13, q1_, .int x_6), (5, 2, a_1, .int x_2), (2, 1, a0_, .ref a_1), (2, 0, a0_, .ref q0_), (2, 3, a0_, .ref q1_), (2, 4, a0_, .ref q2_), (8, 8, q0_, .int y1_)]) rfl (fun fr_24 H locs hp hMr_24 g => ?_)
          refine lv_aload_n hx hb dX2_readOnly_130 rfl (lv_at hl 4 rfl) ?_
          refine g_getk (C := RX2) (T := TX2) (N := 16) hx hb hts (mc_ inX2) hown hK g rfl 0 (by decide) rfl (hts _ (List.mem_cons_of_mem _ t_416)) (fun _ h9 => h9) 4 rfl dX2_readOnly_131 ?_
          refine g_calli (va_runV (As := []) (rest := []) ⟨hx, hb, hml, hown, hts⟩ (r_X8_kind_2 l dC dI L kd tys fr_24 H.size g.2.2.2.1 q0_ mq0_ kq0_ 1201 kb_1201 (g.fcts [0] rfl)) (cwV 0 hts (gV_ t_1118 t_1119 t_1120 t_184 t_1121) rfl rfl rfl (by decide +kernel) ⟨(Nat.le_of_ble_eq_true rfl), (Nat.le_of_ble_eq_true rfl)⟩) (pre3V g hK mq0_ kq0_ (by decide) (q := (RX8, TX8, 10)) rfl) rfl rfl hl.1 rfl (lv_room (Nat.le_of_ble_eq_true rfl)) dX2_readOnly_134 ⟨(Nat.le_of_ble_eq_true rfl), (Nat.le_of_ble_eq_true rfl)⟩) g hK (by decide) (by decide) (fx' := [(8, 6, q0_, .int 1201), (7, 13, q1_, .int x_6), (5, 2, a_1, .int x_2), (2, 1, a0_, .ref a_1), (2, 0, a0_, .ref q0_), (2, 3, a0_, .ref q1_), (2, 4, a0_, .ref q2_), (8, 8, q0_, .int y1_)]) rfl (fun r_25 fr_25 H locs hp hMr_25 g => ?_)
          obtain ⟨h_26, -⟩ := hp
          obtain rfl : r_25 = 0 := h_26
          refine lv_bipush (v := 44) hx hb dX2_readOnly_137 (by decide) ?_
          refine lv_icmp_ne (tgt := 146) hx hb dX2_readOnly_139 (by decide) (fun c_ => ?_) (fun c_ => absurd c_ (by decide))
          refine lv_iconst (v := 0) hx hb dX2_readOnly_146 (by decide) ?_
          refine lv_istore_n (lv' := [(2, .int 0), (4, .int r_17), (3, .int v27_3), (1, .int r_4), (0, .ref a0_)]) hx hb dX2_readOnly_147 rfl hl (by decide) rfl (fun ls hl => ?_)
          refine lv_iload_n hx hb dX2_readOnly_148 rfl (lv_at hl 0 rfl) ?_
          refine lv_if_eq (tgt := 159) hx hb dX2_readOnly_149 (by decide) (fun c_ => ?_) (fun c_ => absurd (by decide) c_)
          obtain ⟨y_27, ey_27⟩ : ∃ z : Int32, z = v27_3 + 1 := ⟨_, rfl⟩
          refine lv_iinc (v := y_27) (lv' := [(3, .int y_27), (2, .int 0), (4, .int r_17), (1, .int r_4), (0, .ref a0_)]) hx hb dX2_readOnly_159 hl (k := 2) rfl (by rw [ey_27]; rfl) (by decide) rfl (fun ls hl => ?_)
          have ty_27 := add_bd ey_27 b_12 kb_1 (by decide)
          have b_28 : bd 1 1201 y_27 := add_rg ty_27 b_12 kb_1 (by decide)
          refine lv_goto (tgt := 27) hx hb dX2_readOnly_162 (by decide) ?_
          have hl9 := lv_sub hl [0, 1, 3, 4] (by rfl : lv_pick [(3, .int y_27), (2, .int 0), (4, .int r_17), (1, .int r_4), (0, .ref a0_)] [0, 1, 3, 4] = [(3, .int y_27), (2, .int 0), (1, .int r_4), (0, .ref a0_)])
          have g9 := g.sub (fx' := [(7, 13, q1_, .int x_6), (5, 2, a_1, .int x_2), (2, 1, a0_, .ref a_1), (2, 0, a0_, .ref q0_), (2, 3, a0_, .ref q1_), (2, 4, a0_, .ref q2_), (8, 6, q0_, .int 1201), (8, 8, q0_, .int y1_)]) [1, 2, 3, 4, 5, 6, 0, 7] rfl
          exact ih27  y_27 0 1201 (bd_sub b_28 (by decide)) (bd_sub kb_0 (by decide)) kb_1201 (by have h9_0 := b_28; unfold bd at h9_0; have h9_1 := bv27_2; unfold bd at h9_1; have h9_2 := bv27_3; unfold bd at h9_2; have h9_3 := bw27_8_6_q0_; unfold bd at h9_3; have h9_4 := kb_0; unfold bd at h9_4; have h9_5 := kb_1; unfold bd at h9_5; have h9_6 := kb_1200; unfold bd at h9_6; have h9_7 := kb_1201; unfold bd at h9_7; omega) _ _ _ _ g9  hl9
  have kb_0 : bd 0 0 (0 : Int32) := ⟨by decide, by decide⟩
  have kb_1 : bd 1 1 (1 : Int32) := ⟨by decide, by decide⟩
  have hl9 := lv_sub hl [0, 1, 2, 3] (by rfl : lv_pick [(3, .int 0), (2, .int 1), (1, .int r_4), (0, .ref a0_)] [0, 1, 2, 3] = [(3, .int 0), (2, .int 1), (1, .int r_4), (0, .ref a0_)])
  have g9 := g.sub (fx' := [(7, 13, q1_, .int x_6), (5, 2, a_1, .int x_2), (2, 1, a0_, .ref a_1), (2, 0, a0_, .ref q0_), (2, 3, a0_, .ref q1_), (2, 4, a0_, .ref q2_), (8, 6, q0_, .int y0_), (8, 8, q0_, .int y1_)]) [0, 1, 2, 3, 4, 5, 6, 7] rfl
  exact loop_9 (2405) 0 1 y0_ (bd_sub kb_0 (by decide)) (bd_sub kb_1 (by decide)) by0_ (by have h9_0 := by0_; unfold bd at h9_0; have h9_1 := kb_0; unfold bd at h9_1; have h9_2 := kb_1; unfold bd at h9_2; omega) _ _ _ _ g9  hl9
set_option maxHeartbeats 4000000 in
set_option maxRecDepth 100000 in
theorem r_X2_readThrownWord (l : Launch) (dC : Nat → ClassId) (dI : Nat → Nat → Nat) (L : List Nat) (kd : Nat → Nat) (tys : List (ClassId × FieldType)) (f0 : Nat → va_E) (sz : Nat) (hWT : WT L kd tys f0) (a0_ : Nat) (ma0_ : a0_ ∈ L) (ka0_ : kd a0_ = 2) (q0_ : Nat) (mq0_ : q0_ ∈ L) (kq0_ : kd q0_ = 8) (q1_ : Nat) (mq1_ : q1_ ∈ L) (kq1_ : kd q1_ = 7) (y0_ : Int32) (by0_ : bd 0 0 y0_) (hfx : Fs L kd f0 [(2, 0, a0_, .ref q0_), (2, 3, a0_, .ref q1_), (8, 8, q0_, .int y0_)]) : Met l yX2_readThrownWord (.code yX2_readThrownWord cX2_readThrownWord 2 (some .boolean) :: lw_g) ({ frames := 2, cells := 0, slots := 0, locals := 44 }) (va_Pc [.ref a0_] (P3 (dC, dI) L tys f0 sz)) (va_Qi (fun (r : Int32) (f : Nat → va_E) => (r = 0 ∧ ∃ z0_ : Int32, bd 1 1201 z0_ ∧ ∃ z2_ : Int32, bd 1 500 z2_ ∧ Fs L kd f [(8, 6, q0_, .int z0_), (8, 8, q0_, .int y0_), (7, 13, q1_, .int z2_)]) ∨ (r = 0 ∧ ∃ z1_ : Int32, bd 1 7 z1_ ∧ ∃ z2_ : Int32, bd 1 500 z2_ ∧ Fs L kd f [(8, 6, q0_, .int 1201), (8, 8, q0_, .int z1_), (7, 13, q1_, .int z2_)]) ∨ (r = 1 ∧ ∃ z0_ : Int32, bd 1 1201 z0_ ∧ ∃ z2_ : Int32, bd 1 500 z2_ ∧ Fs L kd f [(8, 6, q0_, .int z0_), (8, 8, q0_, .int y0_), (7, 13, q1_, .int z2_)])) (Q3 (dC, dI) L kd tys [(7, 13), (8, 6), (8, 8), (8, 9)] [140, 141, 142, 143, 144, 145] f0 sz) (pA L sz)) 0 0 (pA L sz) := by
  refine Met.ofW (cc := cX2_readThrownWord) (maxL := 2) (ret := (some .boolean)) (by decide) rfl ?_
  intro p e s m args below meth c s₁ B hml hv
  obtain ⟨rfl, hsz, hP, hK, hD0⟩ := hv
  have hx := B.exec
  have hb := B.bytes
  have hr := B.returns
  have hts := atoms_spec (ws := (.code yX2_readThrownWord cX2_readThrownWord 2 (some .boolean) :: lw_g)) B.pre
  have hown : s.vm.findClass RX2 = some m.cls := findClass_of_methodNamed B.named
  have hlocks := B.notSynchronized
  subst hsz
  have g : G3 (dC, dI) L kd tys s f0 [(7, 13), (8, 6), (8, 8), (8, 9)] [140, 141, 142, 143, 144, 145] f0 s.heap [] [(2, 0, a0_, .ref q0_), (2, 3, a0_, .ref q1_), (8, 8, q0_, .int y0_)] := G3.start hP hD0 hWT hfx
  have hl := lv_entry ([.ref a0_]) (n := 2) (Nat.le_of_ble_eq_true rfl)
  rw [lg_entry_eq]
  generalize (lg_sl ([.ref a0_]) ++ List.replicate (2 - (lg_sl ([.ref a0_])).length) Slot.unset).toArray = ls at hl ⊢
  have hl : lv_has ls 2 [(0, .ref a0_)] := hl
  refine W_q (fun Q hQ => ?_)
  refine lv_aload_n hx hb dX2_readThrownWord_0 rfl (lv_at hl 0 rfl) ?_
  refine g_getk (C := RX2) (T := TX2) (N := 16) hx hb hts (mc_ inX2) hown hK g rfl 3 (by decide) rfl (hts _ (List.mem_cons_of_mem _ t_419)) (fun _ h9 => h9) 1 rfl dX2_readThrownWord_1 ?_
  refine lv_iconst (v := 4) hx hb dX2_readThrownWord_4 (by decide) ?_
  refine lv_aload_n hx hb dX2_readThrownWord_5 rfl (lv_at hl 0 rfl) ?_
  refine g_getr (K := 5) (C := RX2) (T := TX2) (N := 16) hx hb hts (mc_ inX2) hown hK g ma0_ ka0_ (by decide) rfl 1 (by decide) rfl (hts _ (List.mem_cons_of_mem _ t_417)) (fun _ h9 => h9) rfl dX2_readThrownWord_6 (fun a_1 ma_1 ka_1 g => ?_)
  refine g_geti (C := RX5) (T := TX5) (N := 9) hx hb hts (mc_ inX5) hown hK g ma_1 ka_1 (by decide) rfl 2 (by decide) rfl (hts _ (List.mem_cons_of_mem _ t_333)) (fun _ h9 => h9) rfl dX2_readThrownWord_9 (fun x_2 bx_2 g => ?_)
  refine lv_aload_n hx hb dX2_readThrownWord_12 rfl (lv_at hl 0 rfl) ?_
  refine g_getk (C := RX2) (T := TX2) (N := 16) hx hb hts (mc_ inX2) hown hK g rfl 0 (by decide) rfl (hts _ (List.mem_cons_of_mem _ t_416)) (fun _ h9 => h9) 2 rfl dX2_readThrownWord_13 ?_
  refine g_calli (va_runV (As := []) (rest := [.int x_2, .int 4, .ref q1_]) ⟨hx, hb, hml, hown, hts⟩ (r_X8_place l dC dI L kd tys f0 s.heap.size g.2.2.2.1 q0_ mq0_ kq0_) (cwV 0 hts (gV_ t_1110 t_1111 t_1112 t_184 t_1113) rfl rfl rfl (by decide +kernel) ⟨(Nat.le_of_ble_eq_true rfl), (Nat.le_of_ble_eq_true rfl)⟩) (pre3V g hK mq0_ kq0_ (by decide) (q := (RX8, TX8, 10)) rfl) rfl rfl hl.1 rfl (lv_room (Nat.le_of_ble_eq_true rfl)) dX2_readThrownWord_16 ⟨(Nat.le_of_ble_eq_true rfl), (Nat.le_of_ble_eq_true rfl)⟩) g hK (by decide) (by decide) (fx' := [(5, 2, a_1, .int x_2), (2, 1, a0_, .ref a_1), (2, 0, a0_, .ref q0_), (2, 3, a0_, .ref q1_), (8, 8, q0_, .int y0_)]) rfl (fun r_3 fr_3 H locs hp hMr_3 g => ?_)
  refine g_calli (va_runV (As := [.int 4, .int x_2, .int r_3]) (rest := []) ⟨hx, hb, hml, hown, hts⟩ (r_X7_addMark l dC dI L kd tys fr_3 H.size g.2.2.2.1 q1_ mq1_ kq1_ 4 x_2 r_3) (cwV 3 hts (gV_ t_1173 t_1174 t_1175 t_191 t_1176) rfl rfl rfl (by decide +kernel) ⟨(Nat.le_of_ble_eq_true rfl), (Nat.le_of_ble_eq_true rfl)⟩) (pre3V g hK mq1_ kq1_ (by decide) (q := (RX7, TX7, 19)) rfl) rfl rfl hl.1 rfl (lv_room (Nat.le_of_ble_eq_true rfl)) dX2_readThrownWord_19 ⟨(Nat.le_of_ble_eq_true rfl), (Nat.le_of_ble_eq_true rfl)⟩) g hK (by decide) (by decide) (fx' := [(5, 2, a_1, .int x_2), (2, 1, a0_, .ref a_1), (2, 0, a0_, .ref q0_), (2, 3, a0_, .ref q1_), (8, 8, q0_, .int y0_)]) rfl (fun r_4 fr_4 H locs hp hMr_4 g => ?_)
  obtain ⟨h_5, x_6, h_7, hF_8⟩ := hp
  have g := g.more hF_8
  refine lv_istore_n (lv' := [(1, .int r_4), (0, .ref a0_)]) hx hb dX2_readThrownWord_22 rfl hl (by decide) rfl (fun ls hl => ?_)
  refine lv_aload_n hx hb dX2_readThrownWord_23 rfl (lv_at hl 1 rfl) ?_
  refine g_getk (C := RX2) (T := TX2) (N := 16) hx hb hts (mc_ inX2) hown hK g rfl 3 (by decide) rfl (hts _ (List.mem_cons_of_mem _ t_419)) (fun _ h9 => h9) 4 rfl dX2_readThrownWord_24 ?_
  refine g_getr (K := 145) (C := RX7) (T := TX7) (N := 19) hx hb hts (mc_ inX7) hown hK g mq1_ kq1_ (by decide) rfl 12 (by decide) rfl (hts _ (List.mem_cons_of_mem _ t_664)) (fun _ h9 => h9) rfl dX2_readThrownWord_27 (fun a_9 ma_9 ka_9 g => ?_)
  refine lv_iload_n hx hb dX2_readThrownWord_30 rfl (lv_at hl 0 rfl) ?_
  refine lv_aload_n hx hb dX2_readThrownWord_31 rfl (lv_at hl 1 rfl) ?_
  refine g_getk (C := RX2) (T := TX2) (N := 16) hx hb hts (mc_ inX2) hown hK g rfl 0 (by decide) rfl (hts _ (List.mem_cons_of_mem _ t_416)) (fun _ h9 => h9) 4 rfl dX2_readThrownWord_32 ?_
  refine g_calll (va_runV (As := []) (rest := [.int r_4, .ref a_9]) ⟨hx, hb, hml, hown, hts⟩ (r_X8_value l dC dI L kd tys fr_4 H.size g.2.2.2.1 q0_ mq0_ kq0_) (cwV 0 hts (gV_ t_1114 t_1115 t_1116 t_184 t_1117) rfl rfl rfl (by decide +kernel) ⟨(Nat.le_of_ble_eq_true rfl), (Nat.le_of_ble_eq_true rfl)⟩) (pre3V g hK mq0_ kq0_ (by decide) (q := (RX8, TX8, 10)) rfl) rfl rfl hl.1 rfl (lv_room (Nat.le_of_ble_eq_true rfl)) dX2_readThrownWord_35 ⟨(Nat.le_of_ble_eq_true rfl), (Nat.le_of_ble_eq_true rfl)⟩) g hK (by decide) (by decide) (fx' := [(7, 12, q1_, .ref a_9), (7, 13, q1_, .int x_6), (5, 2, a_1, .int x_2), (2, 1, a0_, .ref a_1), (2, 0, a0_, .ref q0_), (2, 3, a0_, .ref q1_), (8, 8, q0_, .int y0_)]) rfl (fun r_10 fr_10 H locs hp hMr_10 g => ?_)
  refine g_last hx hb hK g ma_9 ka_9 (by decide) rfl (in_bd h_5 (by decide)) (by decide) dX2_readThrownWord_38 (fun f H locs hM_11 g => ?_)
  refine lv_aload_n hx hb dX2_readThrownWord_39 rfl (lv_at hl 1 rfl) ?_
  refine g_getk (C := RX2) (T := TX2) (N := 16) hx hb hts (mc_ inX2) hown hK g rfl 0 (by decide) rfl (hts _ (List.mem_cons_of_mem _ t_416)) (fun _ h9 => h9) 4 rfl dX2_readThrownWord_40 ?_
  refine lv_iconst (v := 3) hx hb dX2_readThrownWord_43 (by decide) ?_
  refine g_callv (va_runV (As := [.int 3]) (rest := []) ⟨hx, hb, hml, hown, hts⟩ (r_X8_take l dC dI L kd tys f H.size g.2.2.2.1 q0_ mq0_ kq0_ 3 y0_ by0_ (g.fcts [6] rfl)) (cwV 1 hts (gV_ t_1098 t_1099 t_1100 t_184 t_1101) rfl rfl rfl (by decide +kernel) ⟨(Nat.le_of_ble_eq_true rfl), (Nat.le_of_ble_eq_true rfl)⟩) (pre3V g hK mq0_ kq0_ (by decide) (q := (RX8, TX8, 10)) rfl) rfl rfl hl.1 rfl (lv_room (Nat.le_of_ble_eq_true rfl)) dX2_readThrownWord_44 ⟨(Nat.le_of_ble_eq_true rfl), (Nat.le_of_ble_eq_true rfl)⟩) g hK (by decide) (by decide) (fx' := [(7, 12, q1_, .ref a_9), (7, 13, q1_, .int x_6), (5, 2, a_1, .int x_2), (2, 1, a0_, .ref a_1), (2, 0, a0_, .ref q0_), (2, 3, a0_, .ref q1_)]) rfl (fun fr_12 H locs hp hMr_12 g => ?_)
  rcases hp with ⟨x_13, h_14, hF_15⟩ | ⟨x_16, h_17, hF_18⟩
  · have g := g.more hF_15
    refine lv_aload_n hx hb dX2_readThrownWord_47 rfl (lv_at hl 1 rfl) ?_
    refine g_getk (C := RX2) (T := TX2) (N := 16) hx hb hts (mc_ inX2) hown hK g rfl 0 (by decide) rfl (hts _ (List.mem_cons_of_mem _ t_416)) (fun _ h9 => h9) 6 rfl dX2_readThrownWord_48 ?_
    refine g_calli (va_runV (As := []) (rest := []) ⟨hx, hb, hml, hown, hts⟩ (r_X8_kind l dC dI L kd tys fr_12 H.size g.2.2.2.1 q0_ mq0_ kq0_) (cwV 0 hts (gV_ t_1118 t_1119 t_1120 t_184 t_1121) rfl rfl rfl (by decide +kernel) ⟨(Nat.le_of_ble_eq_true rfl), (Nat.le_of_ble_eq_true rfl)⟩) (pre3V g hK mq0_ kq0_ (by decide) (q := (RX8, TX8, 10)) rfl) rfl rfl hl.1 rfl (lv_room (Nat.le_of_ble_eq_true rfl)) dX2_readThrownWord_51 ⟨(Nat.le_of_ble_eq_true rfl), (Nat.le_of_ble_eq_true rfl)⟩) g hK (by decide) (by decide) (fx' := [(8, 6, q0_, .int x_13), (8, 8, q0_, .int y0_), (7, 12, q1_, .ref a_9), (7, 13, q1_, .int x_6), (5, 2, a_1, .int x_2), (2, 1, a0_, .ref a_1), (2, 0, a0_, .ref q0_), (2, 3, a0_, .ref q1_)]) rfl (fun r_19 fr_19 H locs hp hMr_19 g => ?_)
    refine lv_bipush (v := 19) hx hb dX2_readThrownWord_54 (by decide) ?_
    have kb_19 : bd 19 19 (19 : Int32) := ⟨by decide, by decide⟩
    refine lv_icmp_eq (tgt := 71) hx hb dX2_readThrownWord_56 (by decide) (fun c_20 => ?_) (fun c_20 => ?_)
    · have fc_20 := eq_f c_20
      have b_21 : bd 19 19 r_19 := eqX fc_20 (bdT r_19) kb_19 (by decide)
      refine lv_aload_n hx hb dX2_readThrownWord_71 rfl (lv_at hl 1 rfl) ?_
      refine g_getk (C := RX2) (T := TX2) (N := 16) hx hb hts (mc_ inX2) hown hK g rfl 0 (by decide) rfl (hts _ (List.mem_cons_of_mem _ t_416)) (fun _ h9 => h9) 6 rfl dX2_readThrownWord_72 ?_
      refine g_callv (va_runV (As := []) (rest := []) ⟨hx, hb, hml, hown, hts⟩ (r_X8_next l dC dI L kd tys fr_19 H.size g.2.2.2.1 q0_ mq0_ kq0_) (cwV 0 hts (gV_ t_1131 t_1103 t_1104 t_184 t_1105) rfl rfl rfl (by decide +kernel) ⟨(Nat.le_of_ble_eq_true rfl), (Nat.le_of_ble_eq_true rfl)⟩) (pre3V g hK mq0_ kq0_ (by decide) (q := (RX8, TX8, 10)) rfl) rfl rfl hl.1 rfl (lv_room (Nat.le_of_ble_eq_true rfl)) dX2_readThrownWord_75 ⟨(Nat.le_of_ble_eq_true rfl), (Nat.le_of_ble_eq_true rfl)⟩) g hK (by decide) (by decide) (fx' := [(8, 8, q0_, .int y0_), (7, 12, q1_, .ref a_9), (7, 13, q1_, .int x_6), (5, 2, a_1, .int x_2), (2, 1, a0_, .ref a_1), (2, 0, a0_, .ref q0_), (2, 3, a0_, .ref q1_)]) rfl (fun fr_22 H locs hp hMr_22 g => ?_)
      obtain ⟨x_23, h_24, hF_25⟩ := hp
      have g := g.more hF_25
      refine lv_aload_n hx hb dX2_readThrownWord_78 rfl (lv_at hl 1 rfl) ?_
      refine g_getk (C := RX2) (T := TX2) (N := 16) hx hb hts (mc_ inX2) hown hK g rfl 3 (by decide) rfl (hts _ (List.mem_cons_of_mem _ t_419)) (fun _ h9 => h9) 7 rfl dX2_readThrownWord_79 ?_
      refine g_getr (K := 142) (C := RX7) (T := TX7) (N := 19) hx hb hts (mc_ inX7) hown hK g mq1_ kq1_ (by decide) rfl 9 (by decide) rfl (hts _ (List.mem_cons_of_mem _ t_657)) (fun _ h9 => h9) rfl dX2_readThrownWord_82 (fun a_26 ma_26 ka_26 g => ?_)
      refine lv_iload_n hx hb dX2_readThrownWord_85 rfl (lv_at hl 0 rfl) ?_
      refine lv_aload_n hx hb dX2_readThrownWord_86 rfl (lv_at hl 1 rfl) ?_
      refine g_getk (C := RX2) (T := TX2) (N := 16) hx hb hts (mc_ inX2) hown hK g rfl 0 (by decide) rfl (hts _ (List.mem_cons_of_mem _ t_416)) (fun _ h9 => h9) 7 rfl dX2_readThrownWord_87 ?_
      refine g_calli (va_runV (As := []) (rest := [.int r_4, .ref a_26]) ⟨hx, hb, hml, hown, hts⟩ (r_X8_place l dC dI L kd tys fr_22 H.size g.2.2.2.1 q0_ mq0_ kq0_) (cwV 0 hts (gV_ t_1110 t_1111 t_1112 t_184 t_1113) rfl rfl rfl (by decide +kernel) ⟨(Nat.le_of_ble_eq_true rfl), (Nat.le_of_ble_eq_true rfl)⟩) (pre3V g hK mq0_ kq0_ (by decide) (q := (RX8, TX8, 10)) rfl) rfl rfl hl.1 rfl (lv_room (Nat.le_of_ble_eq_true rfl)) dX2_readThrownWord_90 ⟨(Nat.le_of_ble_eq_true rfl), (Nat.le_of_ble_eq_true rfl)⟩) g hK (by decide) (by decide) (fx' := [(7, 9, q1_, .ref a_26), (8, 6, q0_, .int x_23), (8, 8, q0_, .int y0_), (7, 12, q1_, .ref a_9), (7, 13, q1_, .int x_6), (5, 2, a_1, .int x_2), (2, 1, a0_, .ref a_1), (2, 0, a0_, .ref q0_), (2, 3, a0_, .ref q1_)]) rfl (fun r_27 fr_27 H locs hp hMr_27 g => ?_)
      refine g_iast hx hb hK g ma_26 ka_26 (by decide) rfl (in_bd h_5 (by decide)) (bdT r_27) (by decide) dX2_readThrownWord_93 (fun f H locs hM_28 g => ?_)
      refine lv_iconst (v := 1) hx hb dX2_readThrownWord_94 (by decide) ?_
      subst hQ
      have kb_1 : bd 1 1 (1 : Int32) := ⟨by decide, by decide⟩
      exact W.zret (v := 1) hx hb hr (nar_z (bd_sub kb_1 (by decide) : bd 0 1 _).1 (bd_sub kb_1 (by decide) : bd 0 1 _).2) (fun t ht hW => ⟨⟨_, _, rfl, Or.inr (Or.inr (⟨rfl, x_23, h_24, x_6, h_7, (g.fcts [1, 2, 4] rfl)⟩)), q3_of g hK ht hW⟩, g.2.2.1.F ht⟩) g.2.2.1.2.2 dX2_readThrownWord_95
    · have fc_20 := neq_f c_20
      refine lv_aload_n hx hb dX2_readThrownWord_59 rfl (lv_at hl 1 rfl) ?_
      refine g_getk (C := RX2) (T := TX2) (N := 16) hx hb hts (mc_ inX2) hown hK g rfl 3 (by decide) rfl (hts _ (List.mem_cons_of_mem _ t_419)) (fun _ h9 => h9) 7 rfl dX2_readThrownWord_60 ?_
      refine g_getr (K := 141) (C := RX7) (T := TX7) (N := 19) hx hb hts (mc_ inX7) hown hK g mq1_ kq1_ (by decide) rfl 8 (by decide) rfl (hts _ (List.mem_cons_of_mem _ t_653)) (fun _ h9 => h9) rfl dX2_readThrownWord_63 (fun a_29 ma_29 ka_29 g => ?_)
      refine lv_iload_n hx hb dX2_readThrownWord_66 rfl (lv_at hl 0 rfl) ?_
      refine lv_iconst (v := (-1)) hx hb dX2_readThrownWord_67 (by decide) ?_
      have kb_m1 : bd (-1) (-1) ((-1) : Int32) := ⟨by decide, by decide⟩
      refine g_iast hx hb hK g ma_29 ka_29 (by decide) rfl (in_bd h_5 (by decide)) (bd_sub kb_m1 (by decide)) (by decide) dX2_readThrownWord_68 (fun f H locs hM_30 g => ?_)
      refine lv_iconst (v := 0) hx hb dX2_readThrownWord_69 (by decide) ?_
      subst hQ
      have kb_0 : bd 0 0 (0 : Int32) := ⟨by decide, by decide⟩
      exact W.zret (v := 0) hx hb hr (nar_z (bd_sub kb_0 (by decide) : bd 0 1 _).1 (bd_sub kb_0 (by decide) : bd 0 1 _).2) (fun t ht hW => ⟨⟨_, _, rfl, Or.inl ⟨rfl, x_13, h_14, x_6, h_7, (g.fcts [1, 2, 4] rfl)⟩, q3_of g hK ht hW⟩, g.2.2.1.F ht⟩) g.2.2.1.2.2 dX2_readThrownWord_70
  · have g := g.more hF_18
    refine lv_aload_n hx hb dX2_readThrownWord_47 rfl (lv_at hl 1 rfl) ?_
    refine g_getk (C := RX2) (T := TX2) (N := 16) hx hb hts (mc_ inX2) hown hK g rfl 0 (by decide) rfl (hts _ (List.mem_cons_of_mem _ t_416)) (fun _ h9 => h9) 6 rfl dX2_readThrownWord_48 ?_
    have kb_1201 : bd 1201 1201 (1201 : Int32) := ⟨by decide, by decide⟩
    refine g_calli (va_runV (As := []) (rest := []) ⟨hx, hb, hml, hown, hts⟩ (r_X8_kind_2 l dC dI L kd tys fr_12 H.size g.2.2.2.1 q0_ mq0_ kq0_ 1201 kb_1201 (g.fcts [0] rfl)) (cwV 0 hts (gV_ t_1118 t_1119 t_1120 t_184 t_1121) rfl rfl rfl (by decide +kernel) ⟨(Nat.le_of_ble_eq_true rfl), (Nat.le_of_ble_eq_true rfl)⟩) (pre3V g hK mq0_ kq0_ (by decide) (q := (RX8, TX8, 10)) rfl) rfl rfl hl.1 rfl (lv_room (Nat.le_of_ble_eq_true rfl)) dX2_readThrownWord_51 ⟨(Nat.le_of_ble_eq_true rfl), (Nat.le_of_ble_eq_true rfl)⟩) g hK (by decide) (by decide) (fx' := [(8, 6, q0_, .int 1201), (8, 8, q0_, .int x_16), (7, 12, q1_, .ref a_9), (7, 13, q1_, .int x_6), (5, 2, a_1, .int x_2), (2, 1, a0_, .ref a_1), (2, 0, a0_, .ref q0_), (2, 3, a0_, .ref q1_)]) rfl (fun r_31 fr_31 H locs hp hMr_31 g => ?_)
    obtain ⟨h_32, -⟩ := hp
    obtain rfl : r_31 = 0 := h_32
    refine lv_bipush (v := 19) hx hb dX2_readThrownWord_54 (by decide) ?_
    refine lv_icmp_eq (tgt := 71) hx hb dX2_readThrownWord_56 (by decide) (fun c_ => absurd c_ (by decide)) (fun c_ => ?_)
    refine lv_aload_n hx hb dX2_readThrownWord_59 rfl (lv_at hl 1 rfl) ?_
    refine g_getk (C := RX2) (T := TX2) (N := 16) hx hb hts (mc_ inX2) hown hK g rfl 3 (by decide) rfl (hts _ (List.mem_cons_of_mem _ t_419)) (fun _ h9 => h9) 7 rfl dX2_readThrownWord_60 ?_
    refine g_getr (K := 141) (C := RX7) (T := TX7) (N := 19) hx hb hts (mc_ inX7) hown hK g mq1_ kq1_ (by decide) rfl 8 (by decide) rfl (hts _ (List.mem_cons_of_mem _ t_653)) (fun _ h9 => h9) rfl dX2_readThrownWord_63 (fun a_33 ma_33 ka_33 g => ?_)
    refine lv_iload_n hx hb dX2_readThrownWord_66 rfl (lv_at hl 0 rfl) ?_
    refine lv_iconst (v := (-1)) hx hb dX2_readThrownWord_67 (by decide) ?_
    have kb_m1 : bd (-1) (-1) ((-1) : Int32) := ⟨by decide, by decide⟩
    refine g_iast hx hb hK g ma_33 ka_33 (by decide) rfl (in_bd h_5 (by decide)) (bd_sub kb_m1 (by decide)) (by decide) dX2_readThrownWord_68 (fun f H locs hM_34 g => ?_)
    refine lv_iconst (v := 0) hx hb dX2_readThrownWord_69 (by decide) ?_
    subst hQ
    have kb_0 : bd 0 0 (0 : Int32) := ⟨by decide, by decide⟩
    exact W.zret (v := 0) hx hb hr (nar_z (bd_sub kb_0 (by decide) : bd 0 1 _).1 (bd_sub kb_0 (by decide) : bd 0 1 _).2) (fun t ht hW => ⟨⟨_, _, rfl, Or.inr (Or.inl ⟨rfl, x_16, h_17, x_6, h_7, (g.fcts [1, 2, 4] rfl)⟩), q3_of g hK ht hW⟩, g.2.2.1.F ht⟩) g.2.2.1.2.2 dX2_readThrownWord_70
set_option maxHeartbeats 4000000 in
set_option maxRecDepth 100000 in
theorem r_X2_atMark_2 (l : Launch) (dC : Nat → ClassId) (dI : Nat → Nat → Nat) (L : List Nat) (kd : Nat → Nat) (tys : List (ClassId × FieldType)) (f0 : Nat → va_E) (sz : Nat) (hWT : WT L kd tys f0) (a0_ : Nat) (ma0_ : a0_ ∈ L) (ka0_ : kd a0_ = 2) (q0_ : Nat) (mq0_ : q0_ ∈ L) (kq0_ : kd q0_ = 8) (y0_ : Int32) (by0_ : bd 1201 1201 y0_) (y1_ : Int32) (by1_ : bd 1 7 y1_) (hfx : Fs L kd f0 [(2, 0, a0_, .ref q0_), (8, 6, q0_, .int y0_), (8, 8, q0_, .int y1_)]) : Met l yX2_atMark (.code yX2_atMark cX2_atMark 2 (some .boolean) :: lw_g) ({ frames := 1, cells := 0, slots := 0, locals := 20 }) (va_Pc [.ref a0_] (P3 (dC, dI) L tys f0 sz)) (va_Qi (fun (r : Int32) (f : Nat → va_E) => (r = 0 ∧ True)) (Q3 (dC, dI) L kd tys [] [] f0 sz) (pA L sz)) 0 0 (pA L sz) := by
  refine Met.ofW (cc := cX2_atMark) (maxL := 2) (ret := (some .boolean)) (by decide) rfl ?_
  intro p e s m args below meth c s₁ B hml hv
  obtain ⟨rfl, hsz, hP, hK, hD0⟩ := hv
  have hx := B.exec
  have hb := B.bytes
  have hr := B.returns
  have hts := atoms_spec (ws := (.code yX2_atMark cX2_atMark 2 (some .boolean) :: lw_g)) B.pre
  have hown : s.vm.findClass RX2 = some m.cls := findClass_of_methodNamed B.named
  have hlocks := B.notSynchronized
  subst hsz
  have g : G3 (dC, dI) L kd tys s f0 [] [] f0 s.heap [] [(2, 0, a0_, .ref q0_), (8, 6, q0_, .int y0_), (8, 8, q0_, .int y1_)] := G3.start hP hD0 hWT hfx
  have hl := lv_entry ([.ref a0_]) (n := 2) (Nat.le_of_ble_eq_true rfl)
  rw [lg_entry_eq]
  generalize (lg_sl ([.ref a0_]) ++ List.replicate (2 - (lg_sl ([.ref a0_])).length) Slot.unset).toArray = ls at hl ⊢
  have hl : lv_has ls 2 [(0, .ref a0_)] := hl
  refine W_q (fun Q hQ => ?_)
  refine lv_aload_n hx hb dX2_atMark_0 rfl (lv_at hl 0 rfl) ?_
  refine g_getk (C := RX2) (T := TX2) (N := 16) hx hb hts (mc_ inX2) hown hK g rfl 0 (by decide) rfl (hts _ (List.mem_cons_of_mem _ t_416)) (fun _ h9 => h9) 0 rfl dX2_atMark_1 ?_
  refine g_calli (va_runV (As := []) (rest := []) ⟨hx, hb, hml, hown, hts⟩ (r_X8_kind_2 l dC dI L kd tys f0 s.heap.size g.2.2.2.1 q0_ mq0_ kq0_ y0_ by0_ (g.fcts [1] rfl)) (cwV 0 hts (gV_ t_1118 t_1119 t_1120 t_184 t_1121) rfl rfl rfl (by decide +kernel) ⟨(Nat.le_of_ble_eq_true rfl), (Nat.le_of_ble_eq_true rfl)⟩) (pre3V g hK mq0_ kq0_ (by decide) (q := (RX8, TX8, 10)) rfl) rfl rfl hl.1 rfl (lv_room (Nat.le_of_ble_eq_true rfl)) dX2_atMark_4 ⟨(Nat.le_of_ble_eq_true rfl), (Nat.le_of_ble_eq_true rfl)⟩) g hK (by decide) (by decide) (fx' := [(2, 0, a0_, .ref q0_), (8, 6, q0_, .int y0_), (8, 8, q0_, .int y1_)]) rfl (fun r_1 fr_1 H locs hp hMr_1 g => ?_)
  obtain ⟨h_2, -⟩ := hp
  obtain rfl : r_1 = 0 := h_2
  refine lv_istore_n (lv' := [(1, .int 0), (0, .ref a0_)]) hx hb dX2_atMark_7 rfl hl (by decide) rfl (fun ls hl => ?_)
  refine lv_iload_n hx hb dX2_atMark_8 rfl (lv_at hl 0 rfl) ?_
  refine lv_bipush (v := 16) hx hb dX2_atMark_9 (by decide) ?_
  refine lv_icmp_eq (tgt := 38) hx hb dX2_atMark_11 (by decide) (fun c_ => absurd c_ (by decide)) (fun c_ => ?_)
  refine lv_iload_n hx hb dX2_atMark_14 rfl (lv_at hl 0 rfl) ?_
  refine lv_bipush (v := 17) hx hb dX2_atMark_15 (by decide) ?_
  refine lv_icmp_eq (tgt := 38) hx hb dX2_atMark_17 (by decide) (fun c_ => absurd c_ (by decide)) (fun c_ => ?_)
  refine lv_iload_n hx hb dX2_atMark_20 rfl (lv_at hl 0 rfl) ?_
  refine lv_bipush (v := 18) hx hb dX2_atMark_21 (by decide) ?_
  refine lv_icmp_eq (tgt := 38) hx hb dX2_atMark_23 (by decide) (fun c_ => absurd c_ (by decide)) (fun c_ => ?_)
  refine lv_iload_n hx hb dX2_atMark_26 rfl (lv_at hl 0 rfl) ?_
  refine lv_bipush (v := 20) hx hb dX2_atMark_27 (by decide) ?_
  refine lv_icmp_eq (tgt := 38) hx hb dX2_atMark_29 (by decide) (fun c_ => absurd c_ (by decide)) (fun c_ => ?_)
  refine lv_iload_n hx hb dX2_atMark_32 rfl (lv_at hl 0 rfl) ?_
  refine lv_bipush (v := 21) hx hb dX2_atMark_33 (by decide) ?_
  refine lv_icmp_ne (tgt := 42) hx hb dX2_atMark_35 (by decide) (fun c_ => ?_) (fun c_ => absurd c_ (by decide))
  refine lv_iconst (v := 0) hx hb dX2_atMark_42 (by decide) ?_
  subst hQ
  have kb_0 : bd 0 0 (0 : Int32) := ⟨by decide, by decide⟩
  exact W.zret (v := 0) hx hb hr (nar_z (bd_sub kb_0 (by decide) : bd 0 1 _).1 (bd_sub kb_0 (by decide) : bd 0 1 _).2) (fun t ht hW => ⟨⟨_, _, rfl, ⟨rfl, trivial⟩, q3_of g hK ht hW⟩, g.2.2.1.F ht⟩) g.2.2.1.2.2 dX2_atMark_43
set_option maxHeartbeats 4000000 in
set_option maxRecDepth 100000 in
theorem r_X2_readAsked_8 (l : Launch) (dC : Nat → ClassId) (dI : Nat → Nat → Nat) (L : List Nat) (kd : Nat → Nat) (tys : List (ClassId × FieldType)) (f0 : Nat → va_E) (sz : Nat) (hWT : WT L kd tys f0) (a0_ : Nat) (ma0_ : a0_ ∈ L) (ka0_ : kd a0_ = 2) (x1_ : Int32) (bx1_ : bd 0 0 x1_) (q0_ : Nat) (mq0_ : q0_ ∈ L) (kq0_ : kd q0_ = 8) (q1_ : Nat) (mq1_ : q1_ ∈ L) (kq1_ : kd q1_ = 5) (q2_ : Nat) (mq2_ : q2_ ∈ L) (kq2_ : kd q2_ = 0) (q3_ : Nat) (mq3_ : q3_ ∈ L) (kq3_ : kd q3_ = 7) (q7_ : Nat) (mq7_ : q7_ ∈ L) (kq7_ : kd q7_ = 9) (y0_ : Int32) (by0_ : bd 1 500 y0_) (y1_ : Int32) (by1_ : bd 0 0 y1_) (y2_ : Int32) (by2_ : bd 1 96 y2_) (y3_ : Int32) (by3_ : bd 0 7 y3_) (y4_ : Int32) (by4_ : bd 0 7 y4_) (T_ : Nat) (J_ : Int32 → Prop) (hGeq2_ : eOK f0 q2_) (hGcq3_ : cOK f0 q3_) (hGdq3_ : dOK L kd f0 q3_ T_) (hGsq3_ : jS f0 q3_ J_) (hfx : Fs L kd f0 [(2, 0, a0_, .ref q0_), (2, 1, a0_, .ref q1_), (2, 2, a0_, .ref q2_), (2, 3, a0_, .ref q3_), (0, 0, q2_, .ref q0_), (0, 1, q2_, .ref q1_), (5, 0, q1_, .ref q3_), (5, 1, q1_, .ref q7_), (7, 13, q3_, .int y0_), (8, 8, q0_, .int y1_), (7, 3, q3_, .int y2_), (5, 2, q1_, .int y3_), (7, 1, q3_, .int y4_)]) : Met l yX2_readAsked (.code yX2_readAsked cX2_readAsked 2 none :: lw_g) ({ frames := 4, cells := 0, slots := 0, locals := 97 }) (va_Pc [.ref a0_, .int x1_] (P3 (dC, dI) L tys f0 sz)) (va_Qv (fun (f : Nat → va_E) => (eOK f q2_ ∧ cOK f q3_ ∧ dOK L kd f q3_ T_ ∧ jS f q3_ J_ ∧ Fs L kd f [(5, 8, q1_, .int 0), (5, 7, q1_, .int 0), (0, 2, q2_, .ref q3_), (8, 8, q0_, .int y1_)]) ∨ (eOK f q2_ ∧ dOK L kd f q3_ T_ ∧ ∃ z2_ : Int32, bd 1201 1201 z2_ ∧ ∃ z3_ : Int32, bd 1 7 z3_ ∧ Fs L kd f [(5, 8, q1_, .int 0), (5, 7, q1_, .int 0), (8, 6, q0_, .int z2_), (8, 8, q0_, .int z3_), (0, 2, q2_, .ref q3_)])) (Q3 (dC, dI) L kd tys [(0, 2), (0, 8), (0, 10), (0, 11), (0, 12), (0, 13), (5, 7), (5, 8), (7, 6), (7, 18), (8, 6), (8, 8), (8, 9)] [110, 111, 112, 113, 114, 115, 138, 139] f0 sz) (pA L sz)) 0 0 (pA L sz) := by
  refine Met.ofW (cc := cX2_readAsked) (maxL := 2) (ret := none) (by decide) rfl ?_
  intro p e s m args below meth c s₁ B hml hv
  obtain ⟨rfl, hsz, hP, hK, hD0⟩ := hv
  have hx := B.exec
  have hb := B.bytes
  have hr := B.returns
  have hts := atoms_spec (ws := (.code yX2_readAsked cX2_readAsked 2 none :: lw_g)) B.pre
  have hown : s.vm.findClass RX2 = some m.cls := findClass_of_methodNamed B.named
  have hlocks := B.notSynchronized
  subst hsz
  have g : G3 (dC, dI) L kd tys s f0 [(0, 2), (0, 8), (0, 10), (0, 11), (0, 12), (0, 13), (5, 7), (5, 8), (7, 6), (7, 18), (8, 6), (8, 8), (8, 9)] [110, 111, 112, 113, 114, 115, 138, 139] f0 s.heap [] [(2, 0, a0_, .ref q0_), (2, 1, a0_, .ref q1_), (2, 2, a0_, .ref q2_), (2, 3, a0_, .ref q3_), (0, 0, q2_, .ref q0_), (0, 1, q2_, .ref q1_), (5, 0, q1_, .ref q3_), (5, 1, q1_, .ref q7_), (7, 13, q3_, .int y0_), (8, 8, q0_, .int y1_), (7, 3, q3_, .int y2_), (5, 2, q1_, .int y3_), (7, 1, q3_, .int y4_)] := G3.start hP hD0 hWT hfx
  have hl := lv_entry ([.ref a0_, .int x1_]) (n := 2) (Nat.le_of_ble_eq_true rfl)
  rw [lg_entry_eq]
  generalize (lg_sl ([.ref a0_, .int x1_]) ++ List.replicate (2 - (lg_sl ([.ref a0_, .int x1_])).length) Slot.unset).toArray = ls at hl ⊢
  have hl : lv_has ls 2 [(0, .ref a0_), (1, .int x1_)] := hl
  refine W_q (fun Q hQ => ?_)
  refine lv_aload_n hx hb dX2_readAsked_0 rfl (lv_at hl 0 rfl) ?_
  refine g_getk (C := RX2) (T := TX2) (N := 16) hx hb hts (mc_ inX2) hown hK g rfl 1 (by decide) rfl (hts _ (List.mem_cons_of_mem _ t_417)) (fun _ h9 => h9) 1 rfl dX2_readAsked_1 ?_
  refine lv_iconst (v := 1) hx hb dX2_readAsked_4 (by decide) ?_
  have kb_1 : bd 1 1 (1 : Int32) := ⟨by decide, by decide⟩
  have go_ := g
  refine g_put (C := RX5) (T := TX5) (N := 9) hx hb hts (mc_ inX5) tyX5 tyX5_ok nmX5 hown hK g mq1_ kq1_ (by decide) rfl 7 (by decide) (hts _ (List.mem_cons_of_mem _ t_344)) (fun _ h9 => h9) rfl rfl (okV_i (bd_sub kb_1 (by decide))) rfl rfl (by decide) (Or.inr (Or.inl (by decide))) (fx' := [(2, 0, a0_, .ref q0_), (2, 1, a0_, .ref q1_), (2, 2, a0_, .ref q2_), (2, 3, a0_, .ref q3_), (0, 0, q2_, .ref q0_), (0, 1, q2_, .ref q1_), (5, 0, q1_, .ref q3_), (5, 1, q1_, .ref q7_), (7, 13, q3_, .int y0_), (8, 8, q0_, .int y1_), (7, 3, q3_, .int y2_), (5, 2, q1_, .int y3_), (7, 1, q3_, .int y4_)]) rfl dX2_readAsked_5 (fun f H locs hM_1 g => ?_)
  have hG_2 := eOK.frame hM_1 go_.2.2.2.1 mq2_ kq2_ (by decide) (by decide) hGeq2_
  have hG_3 := cOK.frame hM_1 go_.2.2.2.1 mq3_ kq3_ (by decide) (by decide) hGcq3_
  have hG_4 := dOK.frame hM_1 go_.2.2.2.1 mq3_ kq3_ (by decide) (by decide) hGdq3_
  have hG_5 := jS.frame hM_1 go_.2.2.2.1 mq3_ kq3_ (by decide) (by decide) hGsq3_
  refine lv_aload_n hx hb dX2_readAsked_8 rfl (lv_at hl 0 rfl) ?_
  refine g_getk (C := RX2) (T := TX2) (N := 16) hx hb hts (mc_ inX2) hown hK g rfl 1 (by decide) rfl (hts _ (List.mem_cons_of_mem _ t_417)) (fun _ h9 => h9) 2 rfl dX2_readAsked_9 ?_
  refine lv_iload_n hx hb dX2_readAsked_12 rfl (lv_at hl 1 rfl) ?_
  have go_ := g
  refine g_put (C := RX5) (T := TX5) (N := 9) hx hb hts (mc_ inX5) tyX5 tyX5_ok nmX5 hown hK g mq1_ kq1_ (by decide) rfl 8 (by decide) (hts _ (List.mem_cons_of_mem _ t_347)) (fun _ h9 => h9) rfl rfl (okV_i (bd_sub bx1_ (by decide))) (nar_z (bd_sub bx1_ (by decide) : bd 0 1 _).1 (bd_sub bx1_ (by decide) : bd 0 1 _).2) (fit_z (bd_sub bx1_ (by decide) : bd 0 1 _)) (by decide) (Or.inr (Or.inl (by decide))) (fx' := [(5, 7, q1_, .int 1), (2, 0, a0_, .ref q0_), (2, 1, a0_, .ref q1_), (2, 2, a0_, .ref q2_), (2, 3, a0_, .ref q3_), (0, 0, q2_, .ref q0_), (0, 1, q2_, .ref q1_), (5, 0, q1_, .ref q3_), (5, 1, q1_, .ref q7_), (7, 13, q3_, .int y0_), (8, 8, q0_, .int y1_), (7, 3, q3_, .int y2_), (5, 2, q1_, .int y3_), (7, 1, q3_, .int y4_)]) rfl dX2_readAsked_13 (fun f H locs hM_6 g => ?_)
  have hG_7 := eOK.frame hM_6 go_.2.2.2.1 mq2_ kq2_ (by decide) (by decide) hG_2
  have hG_8 := cOK.frame hM_6 go_.2.2.2.1 mq3_ kq3_ (by decide) (by decide) hG_3
  have hG_9 := dOK.frame hM_6 go_.2.2.2.1 mq3_ kq3_ (by decide) (by decide) hG_4
  have hG_10 := jS.frame hM_6 go_.2.2.2.1 mq3_ kq3_ (by decide) (by decide) hG_5
  refine lv_aload_n hx hb dX2_readAsked_16 rfl (lv_at hl 0 rfl) ?_
  refine g_getk (C := RX2) (T := TX2) (N := 16) hx hb hts (mc_ inX2) hown hK g rfl 2 (by decide) rfl (hts _ (List.mem_cons_of_mem _ t_418)) (fun _ h9 => h9) 4 rfl dX2_readAsked_17 ?_
  have go_ := g
  refine g_callv (va_runV (As := []) (rest := []) ⟨hx, hb, hml, hown, hts⟩ (r_X0_read l dC dI L kd tys f H.size g.2.2.2.1 q2_ mq2_ kq2_ q0_ mq0_ kq0_ q1_ mq1_ kq1_ q3_ mq3_ kq3_ q7_ mq7_ kq7_ y1_ by1_ T_ (fun j9 => jOK f q3_ j9) hG_7 hG_8 hG_9 (fun _ h9 => h9) (g.fcts [6, 7, 8, 9, 11] rfl)) (cwV 0 hts (gV_ t_1182 t_1183 t_1184 t_190 t_1185) rfl rfl rfl (by decide +kernel) ⟨(Nat.le_of_ble_eq_true rfl), (Nat.le_of_ble_eq_true rfl)⟩) (pre3V g hK mq2_ kq2_ (by decide) (q := (RX0, TX0, 14)) rfl) rfl rfl hl.1 rfl (lv_room (Nat.le_of_ble_eq_true rfl)) dX2_readAsked_20 ⟨(Nat.le_of_ble_eq_true rfl), (Nat.le_of_ble_eq_true rfl)⟩) g hK (by decide) (by decide) (fx' := [(5, 8, q1_, .int x1_), (5, 7, q1_, .int 1), (2, 0, a0_, .ref q0_), (2, 1, a0_, .ref q1_), (2, 2, a0_, .ref q2_), (2, 3, a0_, .ref q3_), (0, 0, q2_, .ref q0_), (0, 1, q2_, .ref q1_), (5, 0, q1_, .ref q3_), (5, 1, q1_, .ref q7_), (7, 13, q3_, .int y0_), (7, 3, q3_, .int y2_), (5, 2, q1_, .int y3_), (7, 1, q3_, .int y4_)]) rfl (fun fr_11 H locs hp hMr_11 g => ?_)
  rcases hp with ⟨hG_12, hG_13, hG_14, hG_15, hF_16⟩ | ⟨hG_17, hG_18, x_19, h_20, x_21, h_22, hF_23⟩
  · have g := g.more hF_16
    have hs_24 := jS.mv hG_10 hG_15
    refine lv_aload_n hx hb dX2_readAsked_23 rfl (lv_at hl 0 rfl) ?_
    refine g_getk (C := RX2) (T := TX2) (N := 16) hx hb hts (mc_ inX2) hown hK g rfl 1 (by decide) rfl (hts _ (List.mem_cons_of_mem _ t_417)) (fun _ h9 => h9) 5 rfl dX2_readAsked_24 ?_
    refine lv_iconst (v := 0) hx hb dX2_readAsked_27 (by decide) ?_
    have kb_0 : bd 0 0 (0 : Int32) := ⟨by decide, by decide⟩
    have go_ := g
    refine g_put (C := RX5) (T := TX5) (N := 9) hx hb hts (mc_ inX5) tyX5 tyX5_ok nmX5 hown hK g mq1_ kq1_ (by decide) rfl 7 (by decide) (hts _ (List.mem_cons_of_mem _ t_344)) (fun _ h9 => h9) rfl rfl (okV_i (bd_sub kb_0 (by decide))) rfl rfl (by decide) (Or.inr (Or.inl (by decide))) (fx' := [(0, 2, q2_, .ref q3_), (8, 8, q0_, .int y1_), (5, 8, q1_, .int x1_), (2, 0, a0_, .ref q0_), (2, 1, a0_, .ref q1_), (2, 2, a0_, .ref q2_), (2, 3, a0_, .ref q3_), (0, 0, q2_, .ref q0_), (0, 1, q2_, .ref q1_), (5, 0, q1_, .ref q3_), (5, 1, q1_, .ref q7_), (7, 13, q3_, .int y0_), (7, 3, q3_, .int y2_), (5, 2, q1_, .int y3_), (7, 1, q3_, .int y4_)]) rfl dX2_readAsked_28 (fun f H locs hM_25 g => ?_)
    have hG_26 := eOK.frame hM_25 go_.2.2.2.1 mq2_ kq2_ (by decide) (by decide) hG_12
    have hG_27 := cOK.frame hM_25 go_.2.2.2.1 mq3_ kq3_ (by decide) (by decide) hG_13
    have hG_28 := dOK.frame hM_25 go_.2.2.2.1 mq3_ kq3_ (by decide) (by decide) hG_14
    have hG_29 := jS.frame hM_25 go_.2.2.2.1 mq3_ kq3_ (by decide) (by decide) hs_24
    refine lv_aload_n hx hb dX2_readAsked_31 rfl (lv_at hl 0 rfl) ?_
    refine g_getk (C := RX2) (T := TX2) (N := 16) hx hb hts (mc_ inX2) hown hK g rfl 1 (by decide) rfl (hts _ (List.mem_cons_of_mem _ t_417)) (fun _ h9 => h9) 5 rfl dX2_readAsked_32 ?_
    refine lv_iconst (v := 0) hx hb dX2_readAsked_35 (by decide) ?_
    have go_ := g
    refine g_put (C := RX5) (T := TX5) (N := 9) hx hb hts (mc_ inX5) tyX5 tyX5_ok nmX5 hown hK g mq1_ kq1_ (by decide) rfl 8 (by decide) (hts _ (List.mem_cons_of_mem _ t_347)) (fun _ h9 => h9) rfl rfl (okV_i (bd_sub kb_0 (by decide))) rfl rfl (by decide) (Or.inr (Or.inl (by decide))) (fx' := [(5, 7, q1_, .int 0), (0, 2, q2_, .ref q3_), (8, 8, q0_, .int y1_), (2, 0, a0_, .ref q0_), (2, 1, a0_, .ref q1_), (2, 2, a0_, .ref q2_), (2, 3, a0_, .ref q3_), (0, 0, q2_, .ref q0_), (0, 1, q2_, .ref q1_), (5, 0, q1_, .ref q3_), (5, 1, q1_, .ref q7_), (7, 13, q3_, .int y0_), (7, 3, q3_, .int y2_), (5, 2, q1_, .int y3_), (7, 1, q3_, .int y4_)]) rfl dX2_readAsked_36 (fun f H locs hM_30 g => ?_)
    have hG_31 := eOK.frame hM_30 go_.2.2.2.1 mq2_ kq2_ (by decide) (by decide) hG_26
    have hG_32 := cOK.frame hM_30 go_.2.2.2.1 mq3_ kq3_ (by decide) (by decide) hG_27
    have hG_33 := dOK.frame hM_30 go_.2.2.2.1 mq3_ kq3_ (by decide) (by decide) hG_28
    have hG_34 := jS.frame hM_30 go_.2.2.2.1 mq3_ kq3_ (by decide) (by decide) hG_29
    refine lv_aload_n hx hb dX2_readAsked_39 rfl (lv_at hl 0 rfl) ?_
    refine g_getk (C := RX2) (T := TX2) (N := 16) hx hb hts (mc_ inX2) hown hK g rfl 3 (by decide) rfl (hts _ (List.mem_cons_of_mem _ t_419)) (fun _ h9 => h9) 7 rfl dX2_readAsked_40 ?_
    refine lv_bipush (v := 26) hx hb dX2_readAsked_43 (by decide) ?_
    refine lv_iconst (v := 0) hx hb dX2_readAsked_45 (by decide) ?_
    obtain ⟨a_35, ma_35, ka_35, g⟩ := g_factr g mq3_ kq3_ (by decide) 4 rfl
    obtain ⟨a_36, ma_36, ka_36, g⟩ := g_factr g mq3_ kq3_ (by decide) 5 rfl
    obtain ⟨x_37, bx_37, g⟩ := g_facti g mq3_ kq3_ (by decide) 6 rfl
    have kb_26 : bd 26 26 (26 : Int32) := ⟨by decide, by decide⟩
    have go_ := g
    refine g_callv (va_runV (As := [.int 26, .int 0]) (rest := []) ⟨hx, hb, hml, hown, hts⟩ (r_X7_emitN l dC dI L kd tys f H.size g.2.2.2.1 q3_ mq3_ kq3_ a_35 ma_35 ka_35 a_36 ma_36 ka_36 x_37 bx_37 T_ hG_33 (26 : Int32) (0 : Int32) (fun j9 => jOK f q3_ j9) hG_32 (fun _ h9 => h9) ⟨(fun h9 => ⟨(by have h9_0 := bx1_; unfold bd at h9_0; have h9_1 := bx_37; unfold bd at h9_1; have h9_2 := by0_; unfold bd at h9_2; have h9_3 := by1_; unfold bd at h9_3; have h9_4 := by2_; unfold bd at h9_4; have h9_5 := by3_; unfold bd at h9_5; have h9_6 := by4_; unfold bd at h9_6; have h8_0 := kb_0; unfold bd at h8_0; have h8_1 := kb_1; unfold bd at h8_1; have h8_2 := kb_26; unfold bd at h8_2; omega), (by have h9_0 := bx1_; unfold bd at h9_0; have h9_1 := bx_37; unfold bd at h9_1; have h9_2 := by0_; unfold bd at h9_2; have h9_3 := by1_; unfold bd at h9_3; have h9_4 := by2_; unfold bd at h9_4; have h9_5 := by3_; unfold bd at h9_5; have h9_6 := by4_; unfold bd at h9_6; have h8_0 := kb_0; unfold bd at h8_0; have h8_1 := kb_1; unfold bd at h8_1; have h8_2 := kb_26; unfold bd at h8_2; omega)⟩), (fun h9 => ⟨(by have h9_0 := bx1_; unfold bd at h9_0; have h9_1 := bx_37; unfold bd at h9_1; have h9_2 := by0_; unfold bd at h9_2; have h9_3 := by1_; unfold bd at h9_3; have h9_4 := by2_; unfold bd at h9_4; have h9_5 := by3_; unfold bd at h9_5; have h9_6 := by4_; unfold bd at h9_6; have h8_0 := kb_0; unfold bd at h8_0; have h8_1 := kb_1; unfold bd at h8_1; have h8_2 := kb_26; unfold bd at h8_2; omega), (by have h9_0 := bx1_; unfold bd at h9_0; have h9_1 := bx_37; unfold bd at h9_1; have h9_2 := by0_; unfold bd at h9_2; have h9_3 := by1_; unfold bd at h9_3; have h9_4 := by2_; unfold bd at h9_4; have h9_5 := by3_; unfold bd at h9_5; have h9_6 := by4_; unfold bd at h9_6; have h8_0 := kb_0; unfold bd at h8_0; have h8_1 := kb_1; unfold bd at h8_1; have h8_2 := kb_26; unfold bd at h8_2; omega)⟩), (fun h9 => ⟨(by have h9_0 := bx1_; unfold bd at h9_0; have h9_1 := bx_37; unfold bd at h9_1; have h9_2 := by0_; unfold bd at h9_2; have h9_3 := by1_; unfold bd at h9_3; have h9_4 := by2_; unfold bd at h9_4; have h9_5 := by3_; unfold bd at h9_5; have h9_6 := by4_; unfold bd at h9_6; have h8_0 := kb_0; unfold bd at h8_0; have h8_1 := kb_1; unfold bd at h8_1; have h8_2 := kb_26; unfold bd at h8_2; omega), (by have h9_0 := bx1_; unfold bd at h9_0; have h9_1 := bx_37; unfold bd at h9_1; have h9_2 := by0_; unfold bd at h9_2; have h9_3 := by1_; unfold bd at h9_3; have h9_4 := by2_; unfold bd at h9_4; have h9_5 := by3_; unfold bd at h9_5; have h9_6 := by4_; unfold bd at h9_6; have h8_0 := kb_0; unfold bd at h8_0; have h8_1 := kb_1; unfold bd at h8_1; have h8_2 := kb_26; unfold bd at h8_2; omega)⟩)⟩ (g.fcts [2, 1, 0] rfl)) (cwV 2 hts (gV_ t_1301 t_1204 t_1205 t_191 t_1206) rfl rfl rfl (by decide +kernel) ⟨(Nat.le_of_ble_eq_true rfl), (Nat.le_of_ble_eq_true rfl)⟩) (pre3V g hK mq3_ kq3_ (by decide) (q := (RX7, TX7, 19)) rfl) rfl rfl hl.1 rfl (lv_room (Nat.le_of_ble_eq_true rfl)) dX2_readAsked_46 ⟨(Nat.le_of_ble_eq_true rfl), (Nat.le_of_ble_eq_true rfl)⟩) g hK (by decide) (by decide) (fx' := [(7, 5, q3_, .ref a_36), (7, 4, q3_, .ref a_35), (5, 8, q1_, .int 0), (5, 7, q1_, .int 0), (0, 2, q2_, .ref q3_), (8, 8, q0_, .int y1_), (2, 0, a0_, .ref q0_), (2, 1, a0_, .ref q1_), (2, 2, a0_, .ref q2_), (2, 3, a0_, .ref q3_), (0, 0, q2_, .ref q0_), (0, 1, q2_, .ref q1_), (5, 0, q1_, .ref q3_), (5, 1, q1_, .ref q7_), (7, 13, q3_, .int y0_), (7, 3, q3_, .int y2_), (5, 2, q1_, .int y3_), (7, 1, q3_, .int y4_)]) rfl (fun fr_38 H locs hp hMr_38 g => ?_)
    obtain ⟨hG_39, hG_40, hG_41, hx_42, x_43, h_44, hF_45⟩ := hp
    have hG_46 := eOK.frame hMr_38 go_.2.2.2.1 mq2_ kq2_ (by decide) (by decide) hG_31
    have g := g.more hF_45
    have hs_47 := jS.mv hG_34 hG_41
    subst hQ
    exact W.vret hx hb hr (fun t ht hW => ⟨⟨_, rfl, Or.inl ⟨hG_46, hG_40, hG_39, hs_47, (g.fcts [3, 4, 5, 6] rfl)⟩, q3_of g hK ht hW⟩, g.2.2.1.F ht⟩) g.2.2.1.2.2 dX2_readAsked_49
  · have g := g.more hF_23
    refine lv_aload_n hx hb dX2_readAsked_23 rfl (lv_at hl 0 rfl) ?_
    refine g_getk (C := RX2) (T := TX2) (N := 16) hx hb hts (mc_ inX2) hown hK g rfl 1 (by decide) rfl (hts _ (List.mem_cons_of_mem _ t_417)) (fun _ h9 => h9) 6 rfl dX2_readAsked_24 ?_
    refine lv_iconst (v := 0) hx hb dX2_readAsked_27 (by decide) ?_
    have kb_0 : bd 0 0 (0 : Int32) := ⟨by decide, by decide⟩
    have go_ := g
    refine g_put (C := RX5) (T := TX5) (N := 9) hx hb hts (mc_ inX5) tyX5 tyX5_ok nmX5 hown hK g mq1_ kq1_ (by decide) rfl 7 (by decide) (hts _ (List.mem_cons_of_mem _ t_344)) (fun _ h9 => h9) rfl rfl (okV_i (bd_sub kb_0 (by decide))) rfl rfl (by decide) (Or.inr (Or.inl (by decide))) (fx' := [(8, 6, q0_, .int x_19), (8, 8, q0_, .int x_21), (0, 2, q2_, .ref q3_), (5, 8, q1_, .int x1_), (2, 0, a0_, .ref q0_), (2, 1, a0_, .ref q1_), (2, 2, a0_, .ref q2_), (2, 3, a0_, .ref q3_), (0, 0, q2_, .ref q0_), (0, 1, q2_, .ref q1_), (5, 0, q1_, .ref q3_), (5, 1, q1_, .ref q7_), (7, 13, q3_, .int y0_), (7, 3, q3_, .int y2_), (5, 2, q1_, .int y3_), (7, 1, q3_, .int y4_)]) rfl dX2_readAsked_28 (fun f H locs hM_48 g => ?_)
    have hG_49 := eOK.frame hM_48 go_.2.2.2.1 mq2_ kq2_ (by decide) (by decide) hG_17
    have hG_50 := dOK.frame hM_48 go_.2.2.2.1 mq3_ kq3_ (by decide) (by decide) hG_18
    refine lv_aload_n hx hb dX2_readAsked_31 rfl (lv_at hl 0 rfl) ?_
    refine g_getk (C := RX2) (T := TX2) (N := 16) hx hb hts (mc_ inX2) hown hK g rfl 1 (by decide) rfl (hts _ (List.mem_cons_of_mem _ t_417)) (fun _ h9 => h9) 6 rfl dX2_readAsked_32 ?_
    refine lv_iconst (v := 0) hx hb dX2_readAsked_35 (by decide) ?_
    have go_ := g
    refine g_put (C := RX5) (T := TX5) (N := 9) hx hb hts (mc_ inX5) tyX5 tyX5_ok nmX5 hown hK g mq1_ kq1_ (by decide) rfl 8 (by decide) (hts _ (List.mem_cons_of_mem _ t_347)) (fun _ h9 => h9) rfl rfl (okV_i (bd_sub kb_0 (by decide))) rfl rfl (by decide) (Or.inr (Or.inl (by decide))) (fx' := [(5, 7, q1_, .int 0), (8, 6, q0_, .int x_19), (8, 8, q0_, .int x_21), (0, 2, q2_, .ref q3_), (2, 0, a0_, .ref q0_), (2, 1, a0_, .ref q1_), (2, 2, a0_, .ref q2_), (2, 3, a0_, .ref q3_), (0, 0, q2_, .ref q0_), (0, 1, q2_, .ref q1_), (5, 0, q1_, .ref q3_), (5, 1, q1_, .ref q7_), (7, 13, q3_, .int y0_), (7, 3, q3_, .int y2_), (5, 2, q1_, .int y3_), (7, 1, q3_, .int y4_)]) rfl dX2_readAsked_36 (fun f H locs hM_51 g => ?_)
    have hG_52 := eOK.frame hM_51 go_.2.2.2.1 mq2_ kq2_ (by decide) (by decide) hG_49
    have hG_53 := dOK.frame hM_51 go_.2.2.2.1 mq3_ kq3_ (by decide) (by decide) hG_50
    refine lv_aload_n hx hb dX2_readAsked_39 rfl (lv_at hl 0 rfl) ?_
    refine g_getk (C := RX2) (T := TX2) (N := 16) hx hb hts (mc_ inX2) hown hK g rfl 3 (by decide) rfl (hts _ (List.mem_cons_of_mem _ t_419)) (fun _ h9 => h9) 8 rfl dX2_readAsked_40 ?_
    refine lv_bipush (v := 26) hx hb dX2_readAsked_43 (by decide) ?_
    refine lv_iconst (v := 0) hx hb dX2_readAsked_45 (by decide) ?_
    obtain ⟨a_54, ma_54, ka_54, g⟩ := g_factr g mq3_ kq3_ (by decide) 4 rfl
    obtain ⟨a_55, ma_55, ka_55, g⟩ := g_factr g mq3_ kq3_ (by decide) 5 rfl
    obtain ⟨x_56, bx_56, g⟩ := g_facti g mq3_ kq3_ (by decide) 6 rfl
    have go_ := g
    refine g_callv (va_runV (As := [.int 26, .int 0]) (rest := []) ⟨hx, hb, hml, hown, hts⟩ (r_X7_emitF l dC dI L kd tys f H.size g.2.2.2.1 q3_ mq3_ kq3_ a_54 ma_54 ka_54 a_55 ma_55 ka_55 x_56 bx_56 T_ hG_53 (26 : Int32) (0 : Int32) (g.fcts [2, 1, 0] rfl)) (cwV 2 hts (gV_ t_1301 t_1204 t_1205 t_191 t_1206) rfl rfl rfl (by decide +kernel) ⟨(Nat.le_of_ble_eq_true rfl), (Nat.le_of_ble_eq_true rfl)⟩) (pre3V g hK mq3_ kq3_ (by decide) (q := (RX7, TX7, 19)) rfl) rfl rfl hl.1 rfl (lv_room (Nat.le_of_ble_eq_true rfl)) dX2_readAsked_46 ⟨(Nat.le_of_ble_eq_true rfl), (Nat.le_of_ble_eq_true rfl)⟩) g hK (by decide) (by decide) (fx' := [(7, 5, q3_, .ref a_55), (7, 4, q3_, .ref a_54), (5, 8, q1_, .int 0), (5, 7, q1_, .int 0), (8, 6, q0_, .int x_19), (8, 8, q0_, .int x_21), (0, 2, q2_, .ref q3_), (2, 0, a0_, .ref q0_), (2, 1, a0_, .ref q1_), (2, 2, a0_, .ref q2_), (2, 3, a0_, .ref q3_), (0, 0, q2_, .ref q0_), (0, 1, q2_, .ref q1_), (5, 0, q1_, .ref q3_), (5, 1, q1_, .ref q7_), (7, 13, q3_, .int y0_), (7, 3, q3_, .int y2_), (5, 2, q1_, .int y3_), (7, 1, q3_, .int y4_)]) rfl (fun fr_57 H locs hp hMr_57 g => ?_)
    obtain ⟨hG_58, x_59, h_60, hF_61⟩ := hp
    have hG_62 := eOK.frame hMr_57 go_.2.2.2.1 mq2_ kq2_ (by decide) (by decide) hG_52
    have g := g.more hF_61
    subst hQ
    exact W.vret hx hb hr (fun t ht hW => ⟨⟨_, rfl, Or.inr (⟨hG_62, hG_58, x_19, h_20, x_21, h_22, (g.fcts [3, 4, 5, 6, 7] rfl)⟩), q3_of g hK ht hW⟩, g.2.2.1.F ht⟩) g.2.2.1.2.2 dX2_readAsked_49
