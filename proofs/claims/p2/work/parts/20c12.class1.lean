set_option maxHeartbeats 4000000 in
set_option maxRecDepth 100000 in
theorem r_X4_wipe (l : Launch) (dC : Nat → ClassId) (dI : Nat → Nat → Nat) (L : List Nat) (kd : Nat → Nat) (tys : List (ClassId × FieldType)) (f0 : Nat → va_E) (sz : Nat) (hWT : WT L kd tys f0) (a0_ : Nat) (ma0_ : a0_ ∈ L) (ka0_ : kd a0_ = 4) : Met l yX4_wipe (.code yX4_wipe cX4_wipe 2 none :: lw_g) ({ frames := 1, cells := 0, slots := 0, locals := 21 }) (va_Pc [.ref a0_] (P3 (dC, dI) L tys f0 sz)) (va_Qv (fun (f : Nat → va_E) => (Fs L kd f [(4, 14, a0_, .int 0), (4, 6, a0_, .int 0), (4, 4, a0_, .int (-1)), (4, 3, a0_, .int (-1)), (4, 2, a0_, .int (-1)), (4, 1, a0_, .int (-1)), (4, 0, a0_, .int 0)])) (Q3 (dC, dI) L kd tys [(4, 0), (4, 1), (4, 2), (4, 3), (4, 4), (4, 5), (4, 6), (4, 14)] [130, 131] f0 sz) (pA L sz)) 0 0 (pA L sz) := by
  refine Met.ofW (cc := cX4_wipe) (maxL := 2) (ret := none) (by decide) rfl ?_
  intro p e s m args below meth c s₁ B hml hv
  obtain ⟨rfl, hsz, hP, hK, hD0⟩ := hv
  have hx := B.exec
  have hb := B.bytes
  have hr := B.returns
  have hts := atoms_spec (ws := (.code yX4_wipe cX4_wipe 2 none :: lw_g)) B.pre
  have hown : s.vm.findClass RX4 = some m.cls := findClass_of_methodNamed B.named
  have hlocks := B.notSynchronized
  subst hsz
  have g : G3 (dC, dI) L kd tys s f0 [(4, 0), (4, 1), (4, 2), (4, 3), (4, 4), (4, 5), (4, 6), (4, 14)] [130, 131] f0 s.heap [] [] := G3.start hP hD0 hWT Fs.nil
  have hl := lv_entry ([.ref a0_]) (n := 2) (Nat.le_of_ble_eq_true rfl)
  rw [lg_entry_eq]
  generalize (lg_sl ([.ref a0_]) ++ List.replicate (2 - (lg_sl ([.ref a0_])).length) Slot.unset).toArray = ls at hl ⊢
  have hl : lv_has ls 2 [(0, .ref a0_)] := hl
  refine W_q (fun Q hQ => ?_)
  refine lv_aload_n hx hb dX4_wipe_0 rfl (lv_at hl 0 rfl) ?_
  refine lv_iconst (v := 0) hx hb dX4_wipe_1 (by decide) ?_
  have kb_0 : bd 0 0 (0 : Int32) := ⟨by decide, by decide⟩
  refine g_put (C := RX4) (T := TX4) (N := 17) hx hb hts (mc_ inX4) tyX4 tyX4_ok nmX4 hown hK g ma0_ ka0_ (by decide) rfl 0 (by decide) (hts _ (List.mem_cons_of_mem _ t_836)) (fun _ h9 => h9) rfl rfl (okV_i (bd_sub kb_0 (by decide))) rfl rfl (by decide) (Or.inr (Or.inl (by decide))) (fx' := []) rfl dX4_wipe_2 (fun f H locs g => ?_)
  refine lv_aload_n hx hb dX4_wipe_5 rfl (lv_at hl 0 rfl) ?_
  refine lv_iconst (v := (-1)) hx hb dX4_wipe_6 (by decide) ?_
  have kb_m1 : bd (-1) (-1) ((-1) : Int32) := ⟨by decide, by decide⟩
  refine g_put (C := RX4) (T := TX4) (N := 17) hx hb hts (mc_ inX4) tyX4 tyX4_ok nmX4 hown hK g ma0_ ka0_ (by decide) rfl 1 (by decide) (hts _ (List.mem_cons_of_mem _ t_839)) (fun _ h9 => h9) rfl rfl (okV_i (bd_sub kb_m1 (by decide))) rfl rfl (by decide) (Or.inr (Or.inl (by decide))) (fx' := [(4, 0, a0_, .int 0)]) rfl dX4_wipe_7 (fun f H locs g => ?_)
  refine lv_aload_n hx hb dX4_wipe_10 rfl (lv_at hl 0 rfl) ?_
  refine lv_iconst (v := (-1)) hx hb dX4_wipe_11 (by decide) ?_
  refine g_put (C := RX4) (T := TX4) (N := 17) hx hb hts (mc_ inX4) tyX4 tyX4_ok nmX4 hown hK g ma0_ ka0_ (by decide) rfl 2 (by decide) (hts _ (List.mem_cons_of_mem _ t_841)) (fun _ h9 => h9) rfl rfl (okV_i (bd_sub kb_m1 (by decide))) rfl rfl (by decide) (Or.inr (Or.inl (by decide))) (fx' := [(4, 1, a0_, .int (-1)), (4, 0, a0_, .int 0)]) rfl dX4_wipe_12 (fun f H locs g => ?_)
  refine lv_aload_n hx hb dX4_wipe_15 rfl (lv_at hl 0 rfl) ?_
  refine lv_iconst (v := (-1)) hx hb dX4_wipe_16 (by decide) ?_
  refine g_put (C := RX4) (T := TX4) (N := 17) hx hb hts (mc_ inX4) tyX4 tyX4_ok nmX4 hown hK g ma0_ ka0_ (by decide) rfl 3 (by decide) (hts _ (List.mem_cons_of_mem _ t_843)) (fun _ h9 => h9) rfl rfl (okV_i (bd_sub kb_m1 (by decide))) rfl rfl (by decide) (Or.inr (Or.inl (by decide))) (fx' := [(4, 2, a0_, .int (-1)), (4, 1, a0_, .int (-1)), (4, 0, a0_, .int 0)]) rfl dX4_wipe_17 (fun f H locs g => ?_)
  refine lv_aload_n hx hb dX4_wipe_20 rfl (lv_at hl 0 rfl) ?_
  refine lv_iconst (v := (-1)) hx hb dX4_wipe_21 (by decide) ?_
  refine g_put (C := RX4) (T := TX4) (N := 17) hx hb hts (mc_ inX4) tyX4 tyX4_ok nmX4 hown hK g ma0_ ka0_ (by decide) rfl 4 (by decide) (hts _ (List.mem_cons_of_mem _ t_845)) (fun _ h9 => h9) rfl rfl (okV_i (bd_sub kb_m1 (by decide))) rfl rfl (by decide) (Or.inr (Or.inl (by decide))) (fx' := [(4, 3, a0_, .int (-1)), (4, 2, a0_, .int (-1)), (4, 1, a0_, .int (-1)), (4, 0, a0_, .int 0)]) rfl dX4_wipe_22 (fun f H locs g => ?_)
  refine lv_aload_n hx hb dX4_wipe_25 rfl (lv_at hl 0 rfl) ?_
  refine lv_lconst (v := 0) hx hb dX4_wipe_26 (by decide) ?_
  refine g_put (C := RX4) (T := TX4) (N := 17) hx hb hts (mc_ inX4) tyX4 tyX4_ok nmX4 hown hK g ma0_ ka0_ (by decide) rfl 5 (by decide) (hts _ (List.mem_cons_of_mem _ t_847)) (fun _ h9 => h9) rfl rfl okV_l rfl rfl (by decide) (Or.inr (Or.inl (by decide))) (fx' := [(4, 4, a0_, .int (-1)), (4, 3, a0_, .int (-1)), (4, 2, a0_, .int (-1)), (4, 1, a0_, .int (-1)), (4, 0, a0_, .int 0)]) rfl dX4_wipe_27 (fun f H locs g => ?_)
  refine lv_aload_n hx hb dX4_wipe_30 rfl (lv_at hl 0 rfl) ?_
  refine lv_iconst (v := 0) hx hb dX4_wipe_31 (by decide) ?_
  refine g_put (C := RX4) (T := TX4) (N := 17) hx hb hts (mc_ inX4) tyX4 tyX4_ok nmX4 hown hK g ma0_ ka0_ (by decide) rfl 6 (by decide) (hts _ (List.mem_cons_of_mem _ t_850)) (fun _ h9 => h9) rfl rfl (okV_i (bd_sub kb_0 (by decide))) rfl rfl (by decide) (Or.inr (Or.inl (by decide))) (fx' := [(4, 5, a0_, .long 0), (4, 4, a0_, .int (-1)), (4, 3, a0_, .int (-1)), (4, 2, a0_, .int (-1)), (4, 1, a0_, .int (-1)), (4, 0, a0_, .int 0)]) rfl dX4_wipe_32 (fun f H locs g => ?_)
  refine lv_aload_n hx hb dX4_wipe_35 rfl (lv_at hl 0 rfl) ?_
  refine lv_iconst (v := 0) hx hb dX4_wipe_36 (by decide) ?_
  refine g_put (C := RX4) (T := TX4) (N := 17) hx hb hts (mc_ inX4) tyX4 tyX4_ok nmX4 hown hK g ma0_ ka0_ (by decide) rfl 14 (by decide) (hts _ (List.mem_cons_of_mem _ t_873)) (fun _ h9 => h9) rfl rfl (okV_i (bd_sub kb_0 (by decide))) rfl rfl (by decide) (Or.inr (Or.inl (by decide))) (fx' := [(4, 6, a0_, .int 0), (4, 5, a0_, .long 0), (4, 4, a0_, .int (-1)), (4, 3, a0_, .int (-1)), (4, 2, a0_, .int (-1)), (4, 1, a0_, .int (-1)), (4, 0, a0_, .int 0)]) rfl dX4_wipe_37 (fun f H locs g => ?_)
  refine lv_iconst (v := 0) hx hb dX4_wipe_40 (by decide) ?_
  refine lv_istore_n (lv' := [(1, .int 0), (0, .ref a0_)]) hx hb dX4_wipe_41 rfl hl (by decide) rfl (fun ls hl => ?_)
  have loop_1 : ∀ (n : Nat) (v42_1 : Int32), bd 0 10 v42_1 → (10 - v42_1.toInt < (n : Int)) → ∀ (f : Nat → va_E) (H : Heap) (locs : List Loc) (ls : Array Slot), G3 (dC, dI) L kd tys s f0 [(4, 0), (4, 1), (4, 2), (4, 3), (4, 4), (4, 5), (4, 6), (4, 14)] [130, 131] f H locs [(4, 14, a0_, .int 0), (4, 6, a0_, .int 0), (4, 5, a0_, .long 0), (4, 4, a0_, .int (-1)), (4, 3, a0_, .int (-1)), (4, 2, a0_, .int (-1)), (4, 1, a0_, .int (-1)), (4, 0, a0_, .int 0)] → lv_has ls 2 [(1, .int v42_1), (0, .ref a0_)] → W p l e ({ frames := 1, cells := 0, slots := 0, locals := 21 } : Room) s m [.ref a0_].toArray below meth c H locs 0 0 Q (F0 m 42 ls []) := by
    intro n
    induction n with
    | zero =>
      intro v42_1 bv42_1 hm f H locs ls g hl
      exact absurd hm (by have h9_v42_1 := bv42_1; unfold bd at h9_v42_1; omega)
    | succ n ih =>
      intro v42_1 bv42_1 hm f H locs ls g hl
      refine lv_iload_n hx hb dX4_wipe_42 rfl (lv_at hl 0 rfl) ?_
      refine lv_bipush (v := 10) hx hb dX4_wipe_43 (by decide) ?_
      have kb_10 : bd 10 10 (10 : Int32) := ⟨by decide, by decide⟩
      refine lv_icmp_ge (tgt := 59) hx hb dX4_wipe_45 (by decide) (fun c_2 => ?_) (fun c_2 => ?_)
      · have fc_2 := le_f c_2
        have b_3 : bd 10 10 v42_1 := leR fc_2 kb_10 bv42_1 (by decide)
        subst hQ
        exact W.vret hx hb hr (fun t ht hW => ⟨⟨_, rfl, (g.fcts [0, 1, 3, 4, 5, 6, 7] rfl), q3_of g hK ht hW⟩, g.2.2.1.F ht⟩) g.2.2.1.2.2 dX4_wipe_59
      · have fc_2 := nle_f c_2
        have b_4 : bd 0 9 v42_1 := ltL fc_2 bv42_1 kb_10 (by decide)
        refine lv_aload_n hx hb dX4_wipe_48 rfl (lv_at hl 1 rfl) ?_
        refine lv_iload_n hx hb dX4_wipe_49 rfl (lv_at hl 0 rfl) ?_
        refine g_callv (va_runV (As := [.int v42_1]) (rest := []) ⟨hx, hb, hml, hown, hts⟩ (r_X4_forgetCall l dC dI L kd tys f H.size g.2.2.2.1 a0_ ma0_ ka0_ v42_1) (cwV 1 hts (gV_ t_1430 t_1431 t_1432 t_197 t_1433) rfl rfl rfl (by decide +kernel) ⟨(Nat.le_of_ble_eq_true rfl), (Nat.le_of_ble_eq_true rfl)⟩) (pre3V g hK ma0_ ka0_ (by decide) (q := (RX4, TX4, 17)) rfl) rfl rfl hl.1 rfl (lv_room (Nat.le_of_ble_eq_true rfl)) dX4_wipe_50 ⟨(Nat.le_of_ble_eq_true rfl), (Nat.le_of_ble_eq_true rfl)⟩) g hK (by decide) (by decide) (fx' := [(4, 14, a0_, .int 0), (4, 6, a0_, .int 0), (4, 5, a0_, .long 0), (4, 4, a0_, .int (-1)), (4, 3, a0_, .int (-1)), (4, 2, a0_, .int (-1)), (4, 1, a0_, .int (-1)), (4, 0, a0_, .int 0)]) rfl (fun fr_5 H locs hp hMr_5 g => ?_)
        have kb_1 : bd 1 1 (1 : Int32) := ⟨by decide, by decide⟩
        obtain ⟨y_6, ey_6⟩ : ∃ z : Int32, z = v42_1 + 1 := ⟨_, rfl⟩
        refine lv_iinc (v := y_6) (lv' := [(1, .int y_6), (0, .ref a0_)]) hx hb dX4_wipe_53 hl (k := 0) rfl (by rw [ey_6]; rfl) (by decide) rfl (fun ls hl => ?_)
        have ty_6 := add_bd ey_6 b_4 kb_1 (by decide)
        have b_7 : bd 1 10 y_6 := add_rg ty_6 b_4 kb_1 (by decide)
        refine lv_goto (tgt := 42) hx hb dX4_wipe_56 (by decide) ?_
        have hl9 := lv_sub hl [0, 1] (by rfl : lv_pick [(1, .int y_6), (0, .ref a0_)] [0, 1] = [(1, .int y_6), (0, .ref a0_)])
        have g9 := g.sub (fx' := [(4, 14, a0_, .int 0), (4, 6, a0_, .int 0), (4, 5, a0_, .long 0), (4, 4, a0_, .int (-1)), (4, 3, a0_, .int (-1)), (4, 2, a0_, .int (-1)), (4, 1, a0_, .int (-1)), (4, 0, a0_, .int 0)]) [0, 1, 2, 3, 4, 5, 6, 7] rfl
        exact ih  y_6 (bd_sub b_7 (by decide)) (by have h9_0 := b_7; unfold bd at h9_0; have h9_1 := kb_0; unfold bd at h9_1; have h9_2 := kb_1; unfold bd at h9_2; have h9_3 := kb_10; unfold bd at h9_3; have h9_4 := kb_m1; unfold bd at h9_4; omega) _ _ _ _ g9 hl9
  have hl9 := lv_sub hl [0, 1] (by rfl : lv_pick [(1, .int 0), (0, .ref a0_)] [0, 1] = [(1, .int 0), (0, .ref a0_)])
  have g9 := g.sub (fx' := [(4, 14, a0_, .int 0), (4, 6, a0_, .int 0), (4, 5, a0_, .long 0), (4, 4, a0_, .int (-1)), (4, 3, a0_, .int (-1)), (4, 2, a0_, .int (-1)), (4, 1, a0_, .int (-1)), (4, 0, a0_, .int 0)]) [0, 1, 2, 3, 4, 5, 6, 7] rfl
  exact loop_1 (23) 0 (bd_sub kb_0 (by decide)) (by have h9_0 := kb_0; unfold bd at h9_0; have h9_1 := kb_m1; unfold bd at h9_1; omega) _ _ _ _ g9 hl9
set_option maxHeartbeats 4000000 in
set_option maxRecDepth 100000 in
theorem r_X4_breakBy (l : Launch) (dC : Nat → ClassId) (dI : Nat → Nat → Nat) (L : List Nat) (kd : Nat → Nat) (tys : List (ClassId × FieldType)) (f0 : Nat → va_E) (sz : Nat) (hWT : WT L kd tys f0) (a0_ : Nat) (ma0_ : a0_ ∈ L) (ka0_ : kd a0_ = 4) (x1_ : Int32) (x2_ : Int32) (x3_ : Int32) : Met l yX4_breakBy (.code yX4_breakBy cX4_breakBy 4 none :: lw_g) ({ frames := 0, cells := 0, slots := 0, locals := 0 }) (va_Pc [.ref a0_, .int x1_, .int x2_, .int x3_] (P3 (dC, dI) L tys f0 sz)) (va_Qv (fun (f : Nat → va_E) => (True)) (Q3 (dC, dI) L kd tys [(4, 0), (4, 1), (4, 2)] [] f0 sz) (pA L sz)) 0 0 (pA L sz) := by
  refine Met.ofW (cc := cX4_breakBy) (maxL := 4) (ret := none) (by decide) rfl ?_
  intro p e s m args below meth c s₁ B hml hv
  obtain ⟨rfl, hsz, hP, hK, hD0⟩ := hv
  have hx := B.exec
  have hb := B.bytes
  have hr := B.returns
  have hts := atoms_spec (ws := (.code yX4_breakBy cX4_breakBy 4 none :: lw_g)) B.pre
  have hown : s.vm.findClass RX4 = some m.cls := findClass_of_methodNamed B.named
  have hlocks := B.notSynchronized
  subst hsz
  have g : G3 (dC, dI) L kd tys s f0 [(4, 0), (4, 1), (4, 2)] [] f0 s.heap [] [] := G3.start hP hD0 hWT Fs.nil
  have hl := lv_entry ([.ref a0_, .int x1_, .int x2_, .int x3_]) (n := 4) (Nat.le_of_ble_eq_true rfl)
  rw [lg_entry_eq]
  generalize (lg_sl ([.ref a0_, .int x1_, .int x2_, .int x3_]) ++ List.replicate (4 - (lg_sl ([.ref a0_, .int x1_, .int x2_, .int x3_])).length) Slot.unset).toArray = ls at hl ⊢
  have hl : lv_has ls 4 [(0, .ref a0_), (1, .int x1_), (2, .int x2_), (3, .int x3_)] := hl
  refine W_q (fun Q hQ => ?_)
  refine lv_aload_n hx hb dX4_breakBy_0 rfl (lv_at hl 0 rfl) ?_
  refine lv_iload_n hx hb dX4_breakBy_1 rfl (lv_at hl 1 rfl) ?_
  refine g_put (C := RX4) (T := TX4) (N := 17) hx hb hts (mc_ inX4) tyX4 tyX4_ok nmX4 hown hK g ma0_ ka0_ (by decide) rfl 0 (by decide) (hts _ (List.mem_cons_of_mem _ t_836)) (fun _ h9 => h9) rfl rfl (okV_i (bdT x1_)) rfl rfl (by decide) (Or.inr (Or.inl (by decide))) (fx' := []) rfl dX4_breakBy_2 (fun f H locs g => ?_)
  refine lv_aload_n hx hb dX4_breakBy_5 rfl (lv_at hl 0 rfl) ?_
  refine lv_iload_n hx hb dX4_breakBy_6 rfl (lv_at hl 2 rfl) ?_
  refine g_put (C := RX4) (T := TX4) (N := 17) hx hb hts (mc_ inX4) tyX4 tyX4_ok nmX4 hown hK g ma0_ ka0_ (by decide) rfl 1 (by decide) (hts _ (List.mem_cons_of_mem _ t_839)) (fun _ h9 => h9) rfl rfl (okV_i (bdT x2_)) rfl rfl (by decide) (Or.inr (Or.inl (by decide))) (fx' := [(4, 0, a0_, .int x1_)]) rfl dX4_breakBy_7 (fun f H locs g => ?_)
  refine lv_aload_n hx hb dX4_breakBy_10 rfl (lv_at hl 0 rfl) ?_
  refine lv_iload_n hx hb dX4_breakBy_11 rfl (lv_at hl 3 rfl) ?_
  refine g_put (C := RX4) (T := TX4) (N := 17) hx hb hts (mc_ inX4) tyX4 tyX4_ok nmX4 hown hK g ma0_ ka0_ (by decide) rfl 2 (by decide) (hts _ (List.mem_cons_of_mem _ t_841)) (fun _ h9 => h9) rfl rfl (okV_i (bdT x3_)) rfl rfl (by decide) (Or.inr (Or.inl (by decide))) (fx' := [(4, 1, a0_, .int x2_), (4, 0, a0_, .int x1_)]) rfl dX4_breakBy_12 (fun f H locs g => ?_)
  subst hQ
  exact W.vret hx hb hr (fun t ht hW => ⟨⟨_, rfl, trivial, q3_of g hK ht hW⟩, g.2.2.1.F ht⟩) g.2.2.1.2.2 dX4_breakBy_15
set_option maxHeartbeats 4000000 in
set_option maxRecDepth 100000 in
theorem r_X4_breakAt (l : Launch) (dC : Nat → ClassId) (dI : Nat → Nat → Nat) (L : List Nat) (kd : Nat → Nat) (tys : List (ClassId × FieldType)) (f0 : Nat → va_E) (sz : Nat) (hWT : WT L kd tys f0) (a0_ : Nat) (ma0_ : a0_ ∈ L) (ka0_ : kd a0_ = 4) (x1_ : Int32) (x2_ : Int32) (x3_ : Int32) : Met l yX4_breakAt (.code yX4_breakAt cX4_breakAt 4 none :: lw_g) ({ frames := 0, cells := 0, slots := 0, locals := 0 }) (va_Pc [.ref a0_, .int x1_, .int x2_, .int x3_] (P3 (dC, dI) L tys f0 sz)) (va_Qv (fun (f : Nat → va_E) => (True)) (Q3 (dC, dI) L kd tys [(4, 0), (4, 3), (4, 4)] [] f0 sz) (pA L sz)) 0 0 (pA L sz) := by
  refine Met.ofW (cc := cX4_breakAt) (maxL := 4) (ret := none) (by decide) rfl ?_
  intro p e s m args below meth c s₁ B hml hv
  obtain ⟨rfl, hsz, hP, hK, hD0⟩ := hv
  have hx := B.exec
  have hb := B.bytes
  have hr := B.returns
  have hts := atoms_spec (ws := (.code yX4_breakAt cX4_breakAt 4 none :: lw_g)) B.pre
  have hown : s.vm.findClass RX4 = some m.cls := findClass_of_methodNamed B.named
  have hlocks := B.notSynchronized
  subst hsz
  have g : G3 (dC, dI) L kd tys s f0 [(4, 0), (4, 3), (4, 4)] [] f0 s.heap [] [] := G3.start hP hD0 hWT Fs.nil
  have hl := lv_entry ([.ref a0_, .int x1_, .int x2_, .int x3_]) (n := 4) (Nat.le_of_ble_eq_true rfl)
  rw [lg_entry_eq]
  generalize (lg_sl ([.ref a0_, .int x1_, .int x2_, .int x3_]) ++ List.replicate (4 - (lg_sl ([.ref a0_, .int x1_, .int x2_, .int x3_])).length) Slot.unset).toArray = ls at hl ⊢
  have hl : lv_has ls 4 [(0, .ref a0_), (1, .int x1_), (2, .int x2_), (3, .int x3_)] := hl
  refine W_q (fun Q hQ => ?_)
  refine lv_aload_n hx hb dX4_breakAt_0 rfl (lv_at hl 0 rfl) ?_
  refine lv_iload_n hx hb dX4_breakAt_1 rfl (lv_at hl 1 rfl) ?_
  refine g_put (C := RX4) (T := TX4) (N := 17) hx hb hts (mc_ inX4) tyX4 tyX4_ok nmX4 hown hK g ma0_ ka0_ (by decide) rfl 0 (by decide) (hts _ (List.mem_cons_of_mem _ t_836)) (fun _ h9 => h9) rfl rfl (okV_i (bdT x1_)) rfl rfl (by decide) (Or.inr (Or.inl (by decide))) (fx' := []) rfl dX4_breakAt_2 (fun f H locs g => ?_)
  refine lv_aload_n hx hb dX4_breakAt_5 rfl (lv_at hl 0 rfl) ?_
  refine lv_iload_n hx hb dX4_breakAt_6 rfl (lv_at hl 2 rfl) ?_
  refine g_put (C := RX4) (T := TX4) (N := 17) hx hb hts (mc_ inX4) tyX4 tyX4_ok nmX4 hown hK g ma0_ ka0_ (by decide) rfl 3 (by decide) (hts _ (List.mem_cons_of_mem _ t_843)) (fun _ h9 => h9) rfl rfl (okV_i (bdT x2_)) rfl rfl (by decide) (Or.inr (Or.inl (by decide))) (fx' := [(4, 0, a0_, .int x1_)]) rfl dX4_breakAt_7 (fun f H locs g => ?_)
  refine lv_aload_n hx hb dX4_breakAt_10 rfl (lv_at hl 0 rfl) ?_
  refine lv_iload_n hx hb dX4_breakAt_11 rfl (lv_at hl 3 rfl) ?_
  refine g_put (C := RX4) (T := TX4) (N := 17) hx hb hts (mc_ inX4) tyX4 tyX4_ok nmX4 hown hK g ma0_ ka0_ (by decide) rfl 4 (by decide) (hts _ (List.mem_cons_of_mem _ t_845)) (fun _ h9 => h9) rfl rfl (okV_i (bdT x3_)) rfl rfl (by decide) (Or.inr (Or.inl (by decide))) (fx' := [(4, 3, a0_, .int x2_), (4, 0, a0_, .int x1_)]) rfl dX4_breakAt_12 (fun f H locs g => ?_)
  subst hQ
  exact W.vret hx hb hr (fun t ht hW => ⟨⟨_, rfl, trivial, q3_of g hK ht hW⟩, g.2.2.1.F ht⟩) g.2.2.1.2.2 dX4_breakAt_15
set_option maxHeartbeats 4000000 in
set_option maxRecDepth 100000 in
theorem r_X4_brokenPlace (l : Launch) (dC : Nat → ClassId) (dI : Nat → Nat → Nat) (L : List Nat) (kd : Nat → Nat) (tys : List (ClassId × FieldType)) (f0 : Nat → va_E) (sz : Nat) (hWT : WT L kd tys f0) (a0_ : Nat) (ma0_ : a0_ ∈ L) (ka0_ : kd a0_ = 4) (a1_ : Nat) (ma1_ : a1_ ∈ L) (ka1_ : kd a1_ = 7) : Met l yX4_brokenPlace (.code yX4_brokenPlace cX4_brokenPlace 2 (some .int) :: lw_g) ({ frames := 0, cells := 0, slots := 0, locals := 0 }) (va_Pc [.ref a0_, .ref a1_] (P3 (dC, dI) L tys f0 sz)) (va_Qi (fun (r : Int32) (f : Nat → va_E) => (True)) (Q3 (dC, dI) L kd tys [] [] f0 sz) (pA L sz)) 0 0 (pA L sz) := by
  refine Met.ofW (cc := cX4_brokenPlace) (maxL := 2) (ret := (some .int)) (by decide) rfl ?_
  intro p e s m args below meth c s₁ B hml hv
  obtain ⟨rfl, hsz, hP, hK, hD0⟩ := hv
  have hx := B.exec
  have hb := B.bytes
  have hr := B.returns
  have hts := atoms_spec (ws := (.code yX4_brokenPlace cX4_brokenPlace 2 (some .int) :: lw_g)) B.pre
  have hown : s.vm.findClass RX4 = some m.cls := findClass_of_methodNamed B.named
  have hlocks := B.notSynchronized
  subst hsz
  have g : G3 (dC, dI) L kd tys s f0 [] [] f0 s.heap [] [] := G3.start hP hD0 hWT Fs.nil
  have hl := lv_entry ([.ref a0_, .ref a1_]) (n := 2) (Nat.le_of_ble_eq_true rfl)
  rw [lg_entry_eq]
  generalize (lg_sl ([.ref a0_, .ref a1_]) ++ List.replicate (2 - (lg_sl ([.ref a0_, .ref a1_])).length) Slot.unset).toArray = ls at hl ⊢
  have hl : lv_has ls 2 [(0, .ref a0_), (1, .ref a1_)] := hl
  refine W_q (fun Q hQ => ?_)
  refine lv_aload_n hx hb dX4_brokenPlace_0 rfl (lv_at hl 0 rfl) ?_
  refine g_geti (C := RX4) (T := TX4) (N := 17) hx hb hts (mc_ inX4) hown hK g ma0_ ka0_ (by decide) rfl 1 (by decide) rfl (hts _ (List.mem_cons_of_mem _ t_839)) (fun _ h9 => h9) rfl dX4_brokenPlace_1 (fun x_1 bx_1 g => ?_)
  have kb_0 : bd 0 0 (0 : Int32) := ⟨by decide, by decide⟩
  refine lv_if_lt (tgt := 30) hx hb dX4_brokenPlace_4 (by decide) (fun c_2 => ?_) (fun c_2 => ?_)
  · have fc_2 := lt_f c_2
    have b_3 : bd (-2147483648) (-1) x_1 := ltL fc_2 (bdT x_1) kb_0 (by decide)
    refine lv_iconst (v := (-1)) hx hb dX4_brokenPlace_30 (by decide) ?_
    subst hQ
    exact W.iret (v := (-1)) hx hb hr (fun t ht hW => ⟨⟨_, _, rfl, trivial, q3_of g hK ht hW⟩, g.2.2.1.F ht⟩) g.2.2.1.2.2 dX4_brokenPlace_31
  · have fc_2 := nlt_f c_2
    have b_4 : bd 0 2147483647 x_1 := leR fc_2 kb_0 (bdT x_1) (by decide)
    refine lv_aload_n hx hb dX4_brokenPlace_7 rfl (lv_at hl 0 rfl) ?_
    refine g_getk (C := RX4) (T := TX4) (N := 17) hx hb hts (mc_ inX4) hown hK g rfl 1 (by decide) rfl (hts _ (List.mem_cons_of_mem _ t_839)) (fun _ h9 => h9) 0 rfl dX4_brokenPlace_8 ?_
    refine lv_aload_n hx hb dX4_brokenPlace_11 rfl (lv_at hl 1 rfl) ?_
    refine g_geti (C := RX7) (T := TX7) (N := 19) hx hb hts (mc_ inX7) hown hK g ma1_ ka1_ (by decide) rfl 13 (by decide) rfl (hts _ (List.mem_cons_of_mem _ t_667)) (fun _ h9 => h9) rfl dX4_brokenPlace_12 (fun x_5 bx_5 g => ?_)
    refine lv_icmp_ge (tgt := 30) hx hb dX4_brokenPlace_15 (by decide) (fun c_6 => ?_) (fun c_6 => ?_)
    · have fc_6 := le_f c_6
      refine lv_iconst (v := (-1)) hx hb dX4_brokenPlace_30 (by decide) ?_
      subst hQ
      exact W.iret (v := (-1)) hx hb hr (fun t ht hW => ⟨⟨_, _, rfl, trivial, q3_of g hK ht hW⟩, g.2.2.1.F ht⟩) g.2.2.1.2.2 dX4_brokenPlace_31
    · have fc_6 := nle_f c_6
      have b_7 : bd 0 499 x_1 := ltL fc_6 b_4 bx_5 (by decide)
      have b_8 : bd 1 500 x_5 := ltR fc_6 b_4 bx_5 (by decide)
      refine lv_aload_n hx hb dX4_brokenPlace_18 rfl (lv_at hl 1 rfl) ?_
      refine g_getr (K := 142) (C := RX7) (T := TX7) (N := 19) hx hb hts (mc_ inX7) hown hK g ma1_ ka1_ (by decide) rfl 9 (by decide) rfl (hts _ (List.mem_cons_of_mem _ t_655)) (fun _ h9 => h9) rfl dX4_brokenPlace_19 (fun a_9 ma_9 ka_9 g => ?_)
      refine lv_aload_n hx hb dX4_brokenPlace_22 rfl (lv_at hl 0 rfl) ?_
      refine g_getk (C := RX4) (T := TX4) (N := 17) hx hb hts (mc_ inX4) hown hK g rfl 1 (by decide) rfl (hts _ (List.mem_cons_of_mem _ t_839)) (fun _ h9 => h9) 2 rfl dX4_brokenPlace_23 ?_
      refine g_iald hx hb hK g ma_9 ka_9 (by decide) rfl (in_bd b_7 (by decide)) dX4_brokenPlace_26 (fun x_10 bx_10 => ?_)
      refine lv_goto (tgt := 31) hx hb dX4_brokenPlace_27 (by decide) ?_
      subst hQ
      exact W.iret (v := x_10) hx hb hr (fun t ht hW => ⟨⟨_, _, rfl, trivial, q3_of g hK ht hW⟩, g.2.2.1.F ht⟩) g.2.2.1.2.2 dX4_brokenPlace_31
set_option maxHeartbeats 4000000 in
set_option maxRecDepth 100000 in
theorem r_X5_leaveMember (l : Launch) (dC : Nat → ClassId) (dI : Nat → Nat → Nat) (L : List Nat) (kd : Nat → Nat) (tys : List (ClassId × FieldType)) (f0 : Nat → va_E) (sz : Nat) (hWT : WT L kd tys f0) (a0_ : Nat) (ma0_ : a0_ ∈ L) (ka0_ : kd a0_ = 5) : Met l yX5_leaveMember (.code yX5_leaveMember cX5_leaveMember 1 none :: lw_g) ({ frames := 0, cells := 0, slots := 0, locals := 0 }) (va_Pc [.ref a0_] (P3 (dC, dI) L tys f0 sz)) (va_Qv (fun (f : Nat → va_E) => (Fs L kd f [(5, 8, a0_, .int 0), (5, 7, a0_, .int 0), (5, 6, a0_, .int 0), (5, 4, a0_, .int 0)])) (Q3 (dC, dI) L kd tys [(5, 4), (5, 6), (5, 7), (5, 8)] [] f0 sz) (pA L sz)) 0 0 (pA L sz) := by
  refine Met.ofW (cc := cX5_leaveMember) (maxL := 1) (ret := none) (by decide) rfl ?_
  intro p e s m args below meth c s₁ B hml hv
  obtain ⟨rfl, hsz, hP, hK, hD0⟩ := hv
  have hx := B.exec
  have hb := B.bytes
  have hr := B.returns
  have hts := atoms_spec (ws := (.code yX5_leaveMember cX5_leaveMember 1 none :: lw_g)) B.pre
  have hown : s.vm.findClass RX5 = some m.cls := findClass_of_methodNamed B.named
  have hlocks := B.notSynchronized
  subst hsz
  have g : G3 (dC, dI) L kd tys s f0 [(5, 4), (5, 6), (5, 7), (5, 8)] [] f0 s.heap [] [] := G3.start hP hD0 hWT Fs.nil
  have hl := lv_entry ([.ref a0_]) (n := 1) (Nat.le_of_ble_eq_true rfl)
  rw [lg_entry_eq]
  generalize (lg_sl ([.ref a0_]) ++ List.replicate (1 - (lg_sl ([.ref a0_])).length) Slot.unset).toArray = ls at hl ⊢
  have hl : lv_has ls 1 [(0, .ref a0_)] := hl
  refine W_q (fun Q hQ => ?_)
  refine lv_aload_n hx hb dX5_leaveMember_0 rfl (lv_at hl 0 rfl) ?_
  refine lv_iconst (v := 0) hx hb dX5_leaveMember_1 (by decide) ?_
  have kb_0 : bd 0 0 (0 : Int32) := ⟨by decide, by decide⟩
  refine g_put (C := RX5) (T := TX5) (N := 9) hx hb hts (mc_ inX5) tyX5 tyX5_ok nmX5 hown hK g ma0_ ka0_ (by decide) rfl 4 (by decide) (hts _ (List.mem_cons_of_mem _ t_336)) (fun _ h9 => h9) rfl rfl (okV_i (bd_sub kb_0 (by decide))) rfl rfl (by decide) (Or.inr (Or.inl (by decide))) (fx' := []) rfl dX5_leaveMember_2 (fun f H locs g => ?_)
  refine lv_aload_n hx hb dX5_leaveMember_5 rfl (lv_at hl 0 rfl) ?_
  refine lv_iconst (v := 0) hx hb dX5_leaveMember_6 (by decide) ?_
  refine g_put (C := RX5) (T := TX5) (N := 9) hx hb hts (mc_ inX5) tyX5 tyX5_ok nmX5 hown hK g ma0_ ka0_ (by decide) rfl 6 (by decide) (hts _ (List.mem_cons_of_mem _ t_340)) (fun _ h9 => h9) rfl rfl (okV_i (bd_sub kb_0 (by decide))) rfl rfl (by decide) (Or.inr (Or.inl (by decide))) (fx' := [(5, 4, a0_, .int 0)]) rfl dX5_leaveMember_7 (fun f H locs g => ?_)
  refine lv_aload_n hx hb dX5_leaveMember_10 rfl (lv_at hl 0 rfl) ?_
  refine lv_iconst (v := 0) hx hb dX5_leaveMember_11 (by decide) ?_
  refine g_put (C := RX5) (T := TX5) (N := 9) hx hb hts (mc_ inX5) tyX5 tyX5_ok nmX5 hown hK g ma0_ ka0_ (by decide) rfl 7 (by decide) (hts _ (List.mem_cons_of_mem _ t_342)) (fun _ h9 => h9) rfl rfl (okV_i (bd_sub kb_0 (by decide))) rfl rfl (by decide) (Or.inr (Or.inl (by decide))) (fx' := [(5, 6, a0_, .int 0), (5, 4, a0_, .int 0)]) rfl dX5_leaveMember_12 (fun f H locs g => ?_)
  refine lv_aload_n hx hb dX5_leaveMember_15 rfl (lv_at hl 0 rfl) ?_
  refine lv_iconst (v := 0) hx hb dX5_leaveMember_16 (by decide) ?_
  refine g_put (C := RX5) (T := TX5) (N := 9) hx hb hts (mc_ inX5) tyX5 tyX5_ok nmX5 hown hK g ma0_ ka0_ (by decide) rfl 8 (by decide) (hts _ (List.mem_cons_of_mem _ t_345)) (fun _ h9 => h9) rfl rfl (okV_i (bd_sub kb_0 (by decide))) rfl rfl (by decide) (Or.inr (Or.inl (by decide))) (fx' := [(5, 7, a0_, .int 0), (5, 6, a0_, .int 0), (5, 4, a0_, .int 0)]) rfl dX5_leaveMember_17 (fun f H locs g => ?_)
  subst hQ
  exact W.vret hx hb hr (fun t ht hW => ⟨⟨_, rfl, (g.fcts [0, 1, 2, 3] rfl), q3_of g hK ht hW⟩, g.2.2.1.F ht⟩) g.2.2.1.2.2 dX5_leaveMember_20
set_option maxHeartbeats 4000000 in
set_option maxRecDepth 100000 in
theorem r_X6_firstOf (l : Launch) (dC : Nat → ClassId) (dI : Nat → Nat → Nat) (L : List Nat) (kd : Nat → Nat) (tys : List (ClassId × FieldType)) (f0 : Nat → va_E) (sz : Nat) (hWT : WT L kd tys f0) (a0_ : Nat) (ma0_ : a0_ ∈ L) (ka0_ : kd a0_ = 6) (x1_ : Int32) : Met l yX6_firstOf (.code yX6_firstOf cX6_firstOf 2 (some .int) :: lw_g) ({ frames := 0, cells := 0, slots := 0, locals := 0 }) (va_Pc [.ref a0_, .int x1_] (P3 (dC, dI) L tys f0 sz)) (va_Qi (fun (r : Int32) (f : Nat → va_E) => (True)) (Q3 (dC, dI) L kd tys [] [] f0 sz) (pA L sz)) 0 0 (pA L sz) := by
  refine Met.ofW (cc := cX6_firstOf) (maxL := 2) (ret := (some .int)) (by decide) rfl ?_
  intro p e s m args below meth c s₁ B hml hv
  obtain ⟨rfl, hsz, hP, hK, hD0⟩ := hv
  have hx := B.exec
  have hb := B.bytes
  have hr := B.returns
  have hts := atoms_spec (ws := (.code yX6_firstOf cX6_firstOf 2 (some .int) :: lw_g)) B.pre
  have hown : s.vm.findClass RX6 = some m.cls := findClass_of_methodNamed B.named
  have hlocks := B.notSynchronized
  subst hsz
  have g : G3 (dC, dI) L kd tys s f0 [] [] f0 s.heap [] [] := G3.start hP hD0 hWT Fs.nil
  have hl := lv_entry ([.ref a0_, .int x1_]) (n := 2) (Nat.le_of_ble_eq_true rfl)
  rw [lg_entry_eq]
  generalize (lg_sl ([.ref a0_, .int x1_]) ++ List.replicate (2 - (lg_sl ([.ref a0_, .int x1_])).length) Slot.unset).toArray = ls at hl ⊢
  have hl : lv_has ls 2 [(0, .ref a0_), (1, .int x1_)] := hl
  refine W_q (fun Q hQ => ?_)
  refine lv_iload_n hx hb dX6_firstOf_0 rfl (lv_at hl 1 rfl) ?_
  have kb_0 : bd 0 0 (0 : Int32) := ⟨by decide, by decide⟩
  refine lv_if_lt (tgt := 9) hx hb dX6_firstOf_1 (by decide) (fun c_1 => ?_) (fun c_1 => ?_)
  · have fc_1 := lt_f c_1
    have b_2 : bd (-2147483648) (-1) x1_ := ltL fc_1 (bdT x1_) kb_0 (by decide)
    refine lv_iconst (v := 0) hx hb dX6_firstOf_9 (by decide) ?_
    subst hQ
    exact W.iret (v := 0) hx hb hr (fun t ht hW => ⟨⟨_, _, rfl, trivial, q3_of g hK ht hW⟩, g.2.2.1.F ht⟩) g.2.2.1.2.2 dX6_firstOf_10
  · have fc_1 := nlt_f c_1
    have b_3 : bd 0 2147483647 x1_ := leR fc_1 kb_0 (bdT x1_) (by decide)
    refine lv_iload_n hx hb dX6_firstOf_4 rfl (lv_at hl 1 rfl) ?_
    refine lv_iconst (v := 3) hx hb dX6_firstOf_5 (by decide) ?_
    have kb_3 : bd 3 3 (3 : Int32) := ⟨by decide, by decide⟩
    refine lv_icmp_lt (tgt := 11) hx hb dX6_firstOf_6 (by decide) (fun c_4 => ?_) (fun c_4 => ?_)
    · have fc_4 := lt_f c_4
      have b_5 : bd 0 2 x1_ := ltL fc_4 b_3 kb_3 (by decide)
      refine lv_aload_n hx hb dX6_firstOf_11 rfl (lv_at hl 0 rfl) ?_
      refine g_getr (K := 134) (C := RX6) (T := TX6) (N := 13) hx hb hts (mc_ inX6) hown hK g ma0_ ka0_ (by decide) rfl 4 (by decide) rfl (hts _ (List.mem_cons_of_mem _ t_569)) (fun _ h9 => h9) rfl dX6_firstOf_12 (fun a_6 ma_6 ka_6 g => ?_)
      refine lv_iload_n hx hb dX6_firstOf_15 rfl (lv_at hl 1 rfl) ?_
      refine g_iald hx hb hK g ma_6 ka_6 (by decide) rfl (in_bd b_5 (by decide)) dX6_firstOf_16 (fun x_7 bx_7 => ?_)
      refine lv_if_gt (tgt := 33) hx hb dX6_firstOf_17 (by decide) (fun c_8 => ?_) (fun c_8 => ?_)
      · have fc_8 := lt_f c_8
        have b_9 : bd 1 2147483647 x_7 := ltR fc_8 kb_0 (bdT x_7) (by decide)
        refine lv_aload_n hx hb dX6_firstOf_33 rfl (lv_at hl 0 rfl) ?_
        refine g_getk (C := RX6) (T := TX6) (N := 13) hx hb hts (mc_ inX6) hown hK g rfl 4 (by decide) rfl (hts _ (List.mem_cons_of_mem _ t_569)) (fun _ h9 => h9) 0 rfl dX6_firstOf_34 ?_
        refine lv_iload_n hx hb dX6_firstOf_37 rfl (lv_at hl 1 rfl) ?_
        refine g_iald hx hb hK g ma_6 ka_6 (by decide) rfl (in_bd b_5 (by decide)) dX6_firstOf_38 (fun x_10 bx_10 => ?_)
        subst hQ
        exact W.iret (v := x_10) hx hb hr (fun t ht hW => ⟨⟨_, _, rfl, trivial, q3_of g hK ht hW⟩, g.2.2.1.F ht⟩) g.2.2.1.2.2 dX6_firstOf_39
      · have fc_8 := nlt_f c_8
        have b_11 : bd (-2147483648) 0 x_7 := leL fc_8 (bdT x_7) kb_0 (by decide)
        refine lv_aload_n hx hb dX6_firstOf_20 rfl (lv_at hl 0 rfl) ?_
        refine g_getr (K := 135) (C := RX6) (T := TX6) (N := 13) hx hb hts (mc_ inX6) hown hK g ma0_ ka0_ (by decide) rfl 5 (by decide) rfl (hts _ (List.mem_cons_of_mem _ t_573)) (fun _ h9 => h9) rfl dX6_firstOf_21 (fun a_12 ma_12 ka_12 g => ?_)
        refine lv_iload_n hx hb dX6_firstOf_24 rfl (lv_at hl 1 rfl) ?_
        refine g_iald hx hb hK g ma_12 ka_12 (by decide) rfl (in_bd b_5 (by decide)) dX6_firstOf_25 (fun x_13 bx_13 => ?_)
        refine lv_if_lt (tgt := 33) hx hb dX6_firstOf_26 (by decide) (fun c_14 => ?_) (fun c_14 => ?_)
        · have fc_14 := lt_f c_14
          have b_15 : bd (-2147483648) (-1) x_13 := ltL fc_14 (bdT x_13) kb_0 (by decide)
          refine lv_aload_n hx hb dX6_firstOf_33 rfl (lv_at hl 0 rfl) ?_
          refine g_getk (C := RX6) (T := TX6) (N := 13) hx hb hts (mc_ inX6) hown hK g rfl 4 (by decide) rfl (hts _ (List.mem_cons_of_mem _ t_569)) (fun _ h9 => h9) 1 rfl dX6_firstOf_34 ?_
          refine lv_iload_n hx hb dX6_firstOf_37 rfl (lv_at hl 1 rfl) ?_
          refine g_iald hx hb hK g ma_6 ka_6 (by decide) rfl (in_bd b_5 (by decide)) dX6_firstOf_38 (fun x_16 bx_16 => ?_)
          subst hQ
          exact W.iret (v := x_16) hx hb hr (fun t ht hW => ⟨⟨_, _, rfl, trivial, q3_of g hK ht hW⟩, g.2.2.1.F ht⟩) g.2.2.1.2.2 dX6_firstOf_39
        · have fc_14 := nlt_f c_14
          have b_17 : bd 0 2147483647 x_13 := leR fc_14 kb_0 (bdT x_13) (by decide)
          refine lv_iconst (v := 0) hx hb dX6_firstOf_29 (by decide) ?_
          refine lv_goto (tgt := 39) hx hb dX6_firstOf_30 (by decide) ?_
          subst hQ
          exact W.iret (v := 0) hx hb hr (fun t ht hW => ⟨⟨_, _, rfl, trivial, q3_of g hK ht hW⟩, g.2.2.1.F ht⟩) g.2.2.1.2.2 dX6_firstOf_39
    · have fc_4 := nlt_f c_4
      have b_18 : bd 3 2147483647 x1_ := leR fc_4 kb_3 b_3 (by decide)
      refine lv_iconst (v := 0) hx hb dX6_firstOf_9 (by decide) ?_
      subst hQ
      exact W.iret (v := 0) hx hb hr (fun t ht hW => ⟨⟨_, _, rfl, trivial, q3_of g hK ht hW⟩, g.2.2.1.F ht⟩) g.2.2.1.2.2 dX6_firstOf_10
set_option maxHeartbeats 4000000 in
set_option maxRecDepth 100000 in
theorem r_X6_numberBehind (l : Launch) (dC : Nat → ClassId) (dI : Nat → Nat → Nat) (L : List Nat) (kd : Nat → Nat) (tys : List (ClassId × FieldType)) (f0 : Nat → va_E) (sz : Nat) (hWT : WT L kd tys f0) (a0_ : Nat) (ma0_ : a0_ ∈ L) (ka0_ : kd a0_ = 6) (x1_ : Int32) (x2_ : Int32) : Met l yX6_numberBehind (.code yX6_numberBehind cX6_numberBehind 3 (some .int) :: lw_g) ({ frames := 0, cells := 0, slots := 0, locals := 0 }) (va_Pc [.ref a0_, .int x1_, .int x2_] (P3 (dC, dI) L tys f0 sz)) (va_Qi (fun (r : Int32) (f : Nat → va_E) => (True)) (Q3 (dC, dI) L kd tys [] [] f0 sz) (pA L sz)) 0 0 (pA L sz) := by
  refine Met.ofW (cc := cX6_numberBehind) (maxL := 3) (ret := (some .int)) (by decide) rfl ?_
  intro p e s m args below meth c s₁ B hml hv
  obtain ⟨rfl, hsz, hP, hK, hD0⟩ := hv
  have hx := B.exec
  have hb := B.bytes
  have hr := B.returns
  have hts := atoms_spec (ws := (.code yX6_numberBehind cX6_numberBehind 3 (some .int) :: lw_g)) B.pre
  have hown : s.vm.findClass RX6 = some m.cls := findClass_of_methodNamed B.named
  have hlocks := B.notSynchronized
  subst hsz
  have g : G3 (dC, dI) L kd tys s f0 [] [] f0 s.heap [] [] := G3.start hP hD0 hWT Fs.nil
  have hl := lv_entry ([.ref a0_, .int x1_, .int x2_]) (n := 3) (Nat.le_of_ble_eq_true rfl)
  rw [lg_entry_eq]
  generalize (lg_sl ([.ref a0_, .int x1_, .int x2_]) ++ List.replicate (3 - (lg_sl ([.ref a0_, .int x1_, .int x2_])).length) Slot.unset).toArray = ls at hl ⊢
  have hl : lv_has ls 3 [(0, .ref a0_), (1, .int x1_), (2, .int x2_)] := hl
  refine W_q (fun Q hQ => ?_)
  refine lv_iload_n hx hb dX6_numberBehind_0 rfl (lv_at hl 1 rfl) ?_
  have kb_0 : bd 0 0 (0 : Int32) := ⟨by decide, by decide⟩
  refine lv_if_lt (tgt := 9) hx hb dX6_numberBehind_1 (by decide) (fun c_1 => ?_) (fun c_1 => ?_)
  · have fc_1 := lt_f c_1
    have b_2 : bd (-2147483648) (-1) x1_ := ltL fc_1 (bdT x1_) kb_0 (by decide)
    refine lv_iload_n hx hb dX6_numberBehind_9 rfl (lv_at hl 2 rfl) ?_
    subst hQ
    exact W.iret (v := x2_) hx hb hr (fun t ht hW => ⟨⟨_, _, rfl, trivial, q3_of g hK ht hW⟩, g.2.2.1.F ht⟩) g.2.2.1.2.2 dX6_numberBehind_10
  · have fc_1 := nlt_f c_1
    have b_3 : bd 0 2147483647 x1_ := leR fc_1 kb_0 (bdT x1_) (by decide)
    refine lv_iload_n hx hb dX6_numberBehind_4 rfl (lv_at hl 1 rfl) ?_
    refine lv_iconst (v := 3) hx hb dX6_numberBehind_5 (by decide) ?_
    have kb_3 : bd 3 3 (3 : Int32) := ⟨by decide, by decide⟩
    refine lv_icmp_lt (tgt := 11) hx hb dX6_numberBehind_6 (by decide) (fun c_4 => ?_) (fun c_4 => ?_)
    · have fc_4 := lt_f c_4
      have b_5 : bd 0 2 x1_ := ltL fc_4 b_3 kb_3 (by decide)
      refine lv_iload_n hx hb dX6_numberBehind_11 rfl (lv_at hl 2 rfl) ?_
      refine lv_if_ge (tgt := 36) hx hb dX6_numberBehind_12 (by decide) (fun c_6 => ?_) (fun c_6 => ?_)
      · have fc_6 := le_f c_6
        have b_7 : bd 0 2147483647 x2_ := leR fc_6 kb_0 (bdT x2_) (by decide)
        refine lv_aload_n hx hb dX6_numberBehind_36 rfl (lv_at hl 0 rfl) ?_
        refine g_getr (K := 135) (C := RX6) (T := TX6) (N := 13) hx hb hts (mc_ inX6) hown hK g ma0_ ka0_ (by decide) rfl 5 (by decide) rfl (hts _ (List.mem_cons_of_mem _ t_573)) (fun _ h9 => h9) rfl dX6_numberBehind_37 (fun a_8 ma_8 ka_8 g => ?_)
        refine lv_iload_n hx hb dX6_numberBehind_40 rfl (lv_at hl 1 rfl) ?_
        refine g_iald hx hb hK g ma_8 ka_8 (by decide) rfl (in_bd b_5 (by decide)) dX6_numberBehind_41 (fun x_9 bx_9 => ?_)
        subst hQ
        exact W.iret (v := x_9) hx hb hr (fun t ht hW => ⟨⟨_, _, rfl, trivial, q3_of g hK ht hW⟩, g.2.2.1.F ht⟩) g.2.2.1.2.2 dX6_numberBehind_42
      · have fc_6 := nle_f c_6
        have b_10 : bd (-2147483648) (-1) x2_ := ltL fc_6 (bdT x2_) kb_0 (by decide)
        refine lv_iload_n hx hb dX6_numberBehind_15 rfl (lv_at hl 2 rfl) ?_
        refine lv_aload_n hx hb dX6_numberBehind_16 rfl (lv_at hl 0 rfl) ?_
        refine g_getr (K := 134) (C := RX6) (T := TX6) (N := 13) hx hb hts (mc_ inX6) hown hK g ma0_ ka0_ (by decide) rfl 4 (by decide) rfl (hts _ (List.mem_cons_of_mem _ t_569)) (fun _ h9 => h9) rfl dX6_numberBehind_17 (fun a_11 ma_11 ka_11 g => ?_)
        refine lv_iload_n hx hb dX6_numberBehind_20 rfl (lv_at hl 1 rfl) ?_
        refine g_iald hx hb hK g ma_11 ka_11 (by decide) rfl (in_bd b_5 (by decide)) dX6_numberBehind_21 (fun x_12 bx_12 => ?_)
        refine lv_icmp_ne (tgt := 36) hx hb dX6_numberBehind_22 (by decide) (fun c_13 => ?_) (fun c_13 => ?_)
        · have fc_13 := neq_f c_13
          refine lv_aload_n hx hb dX6_numberBehind_36 rfl (lv_at hl 0 rfl) ?_
          refine g_getr (K := 135) (C := RX6) (T := TX6) (N := 13) hx hb hts (mc_ inX6) hown hK g ma0_ ka0_ (by decide) rfl 5 (by decide) rfl (hts _ (List.mem_cons_of_mem _ t_573)) (fun _ h9 => h9) rfl dX6_numberBehind_37 (fun a_14 ma_14 ka_14 g => ?_)
          refine lv_iload_n hx hb dX6_numberBehind_40 rfl (lv_at hl 1 rfl) ?_
          refine g_iald hx hb hK g ma_14 ka_14 (by decide) rfl (in_bd b_5 (by decide)) dX6_numberBehind_41 (fun x_15 bx_15 => ?_)
          subst hQ
          exact W.iret (v := x_15) hx hb hr (fun t ht hW => ⟨⟨_, _, rfl, trivial, q3_of g hK ht hW⟩, g.2.2.1.F ht⟩) g.2.2.1.2.2 dX6_numberBehind_42
        · have fc_13 := eq_f c_13
          have b_16 : bd (-2147483648) (-1) x_12 := eqX fc_13.symm (bdT x_12) b_10 (by decide)
          refine lv_aload_n hx hb dX6_numberBehind_25 rfl (lv_at hl 0 rfl) ?_
          refine g_getr (K := 135) (C := RX6) (T := TX6) (N := 13) hx hb hts (mc_ inX6) hown hK g ma0_ ka0_ (by decide) rfl 5 (by decide) rfl (hts _ (List.mem_cons_of_mem _ t_573)) (fun _ h9 => h9) rfl dX6_numberBehind_26 (fun a_17 ma_17 ka_17 g => ?_)
          refine lv_iload_n hx hb dX6_numberBehind_29 rfl (lv_at hl 1 rfl) ?_
          refine g_iald hx hb hK g ma_17 ka_17 (by decide) rfl (in_bd b_5 (by decide)) dX6_numberBehind_30 (fun x_18 bx_18 => ?_)
          refine lv_if_le (tgt := 36) hx hb dX6_numberBehind_31 (by decide) (fun c_19 => ?_) (fun c_19 => ?_)
          · have fc_19 := le_f c_19
            have b_20 : bd (-2147483648) 0 x_18 := leL fc_19 (bdT x_18) kb_0 (by decide)
            refine lv_aload_n hx hb dX6_numberBehind_36 rfl (lv_at hl 0 rfl) ?_
            refine g_getk (C := RX6) (T := TX6) (N := 13) hx hb hts (mc_ inX6) hown hK g rfl 5 (by decide) rfl (hts _ (List.mem_cons_of_mem _ t_573)) (fun _ h9 => h9) 0 rfl dX6_numberBehind_37 ?_
            refine lv_iload_n hx hb dX6_numberBehind_40 rfl (lv_at hl 1 rfl) ?_
            refine g_iald hx hb hK g ma_17 ka_17 (by decide) rfl (in_bd b_5 (by decide)) dX6_numberBehind_41 (fun x_21 bx_21 => ?_)
            subst hQ
            exact W.iret (v := x_21) hx hb hr (fun t ht hW => ⟨⟨_, _, rfl, trivial, q3_of g hK ht hW⟩, g.2.2.1.F ht⟩) g.2.2.1.2.2 dX6_numberBehind_42
          · have fc_19 := nle_f c_19
            have b_22 : bd 1 2147483647 x_18 := ltR fc_19 kb_0 (bdT x_18) (by decide)
            refine lv_iconst (v := 0) hx hb dX6_numberBehind_34 (by decide) ?_
            subst hQ
            exact W.iret (v := 0) hx hb hr (fun t ht hW => ⟨⟨_, _, rfl, trivial, q3_of g hK ht hW⟩, g.2.2.1.F ht⟩) g.2.2.1.2.2 dX6_numberBehind_35
    · have fc_4 := nlt_f c_4
      have b_23 : bd 3 2147483647 x1_ := leR fc_4 kb_3 b_3 (by decide)
      refine lv_iload_n hx hb dX6_numberBehind_9 rfl (lv_at hl 2 rfl) ?_
      subst hQ
      exact W.iret (v := x2_) hx hb hr (fun t ht hW => ⟨⟨_, _, rfl, trivial, q3_of g hK ht hW⟩, g.2.2.1.F ht⟩) g.2.2.1.2.2 dX6_numberBehind_10
set_option maxHeartbeats 4000000 in
set_option maxRecDepth 100000 in
theorem r_X7_wipe (l : Launch) (dC : Nat → ClassId) (dI : Nat → Nat → Nat) (L : List Nat) (kd : Nat → Nat) (tys : List (ClassId × FieldType)) (f0 : Nat → va_E) (sz : Nat) (hWT : WT L kd tys f0) (a0_ : Nat) (ma0_ : a0_ ∈ L) (ka0_ : kd a0_ = 7) : Met l yX7_wipe (.code yX7_wipe cX7_wipe 1 none :: lw_g) ({ frames := 0, cells := 0, slots := 0, locals := 0 }) (va_Pc [.ref a0_] (P3 (dC, dI) L tys f0 sz)) (va_Qv (fun (f : Nat → va_E) => (Fs L kd f [(7, 18, a0_, .int 0), (7, 17, a0_, .int 0), (7, 15, a0_, .int 0), (7, 13, a0_, .int 0), (7, 6, a0_, .int 0), (7, 3, a0_, .int 0), (7, 1, a0_, .int 0)])) (Q3 (dC, dI) L kd tys [(7, 1), (7, 3), (7, 6), (7, 13), (7, 15), (7, 17), (7, 18)] [] f0 sz) (pA L sz)) 0 0 (pA L sz) := by
  refine Met.ofW (cc := cX7_wipe) (maxL := 1) (ret := none) (by decide) rfl ?_
  intro p e s m args below meth c s₁ B hml hv
  obtain ⟨rfl, hsz, hP, hK, hD0⟩ := hv
  have hx := B.exec
  have hb := B.bytes
  have hr := B.returns
  have hts := atoms_spec (ws := (.code yX7_wipe cX7_wipe 1 none :: lw_g)) B.pre
  have hown : s.vm.findClass RX7 = some m.cls := findClass_of_methodNamed B.named
  have hlocks := B.notSynchronized
  subst hsz
  have g : G3 (dC, dI) L kd tys s f0 [(7, 1), (7, 3), (7, 6), (7, 13), (7, 15), (7, 17), (7, 18)] [] f0 s.heap [] [] := G3.start hP hD0 hWT Fs.nil
  have hl := lv_entry ([.ref a0_]) (n := 1) (Nat.le_of_ble_eq_true rfl)
  rw [lg_entry_eq]
  generalize (lg_sl ([.ref a0_]) ++ List.replicate (1 - (lg_sl ([.ref a0_])).length) Slot.unset).toArray = ls at hl ⊢
  have hl : lv_has ls 1 [(0, .ref a0_)] := hl
  refine W_q (fun Q hQ => ?_)
  refine lv_aload_n hx hb dX7_wipe_0 rfl (lv_at hl 0 rfl) ?_
  refine lv_iconst (v := 0) hx hb dX7_wipe_1 (by decide) ?_
  have kb_0 : bd 0 0 (0 : Int32) := ⟨by decide, by decide⟩
  refine g_put (C := RX7) (T := TX7) (N := 19) hx hb hts (mc_ inX7) tyX7 tyX7_ok nmX7 hown hK g ma0_ ka0_ (by decide) rfl 1 (by decide) (hts _ (List.mem_cons_of_mem _ t_626)) (fun _ h9 => h9) rfl rfl (okV_i (bd_sub kb_0 (by decide))) rfl rfl (by decide) (Or.inr (Or.inl (by decide))) (fx' := []) rfl dX7_wipe_2 (fun f H locs g => ?_)
  refine lv_aload_n hx hb dX7_wipe_5 rfl (lv_at hl 0 rfl) ?_
  refine lv_iconst (v := 0) hx hb dX7_wipe_6 (by decide) ?_
  refine g_put (C := RX7) (T := TX7) (N := 19) hx hb hts (mc_ inX7) tyX7 tyX7_ok nmX7 hown hK g ma0_ ka0_ (by decide) rfl 3 (by decide) (hts _ (List.mem_cons_of_mem _ t_636)) (fun _ h9 => h9) rfl rfl (okV_i (bd_sub kb_0 (by decide))) rfl rfl (by decide) (Or.inr (Or.inl (by decide))) (fx' := [(7, 1, a0_, .int 0)]) rfl dX7_wipe_7 (fun f H locs g => ?_)
  refine lv_aload_n hx hb dX7_wipe_10 rfl (lv_at hl 0 rfl) ?_
  refine lv_iconst (v := 0) hx hb dX7_wipe_11 (by decide) ?_
  refine g_put (C := RX7) (T := TX7) (N := 19) hx hb hts (mc_ inX7) tyX7 tyX7_ok nmX7 hown hK g ma0_ ka0_ (by decide) rfl 6 (by decide) (hts _ (List.mem_cons_of_mem _ t_644)) (fun _ h9 => h9) rfl rfl (okV_i (bd_sub kb_0 (by decide))) rfl rfl (by decide) (Or.inr (Or.inl (by decide))) (fx' := [(7, 3, a0_, .int 0), (7, 1, a0_, .int 0)]) rfl dX7_wipe_12 (fun f H locs g => ?_)
  refine lv_aload_n hx hb dX7_wipe_15 rfl (lv_at hl 0 rfl) ?_
  refine lv_iconst (v := 0) hx hb dX7_wipe_16 (by decide) ?_
  refine g_put (C := RX7) (T := TX7) (N := 19) hx hb hts (mc_ inX7) tyX7 tyX7_ok nmX7 hown hK g ma0_ ka0_ (by decide) rfl 13 (by decide) (hts _ (List.mem_cons_of_mem _ t_666)) (fun _ h9 => h9) rfl rfl (okV_i (bd_sub kb_0 (by decide))) rfl rfl (by decide) (Or.inr (Or.inl (by decide))) (fx' := [(7, 6, a0_, .int 0), (7, 3, a0_, .int 0), (7, 1, a0_, .int 0)]) rfl dX7_wipe_17 (fun f H locs g => ?_)
  refine lv_aload_n hx hb dX7_wipe_20 rfl (lv_at hl 0 rfl) ?_
  refine lv_iconst (v := 0) hx hb dX7_wipe_21 (by decide) ?_
  refine g_put (C := RX7) (T := TX7) (N := 19) hx hb hts (mc_ inX7) tyX7 tyX7_ok nmX7 hown hK g ma0_ ka0_ (by decide) rfl 15 (by decide) (hts _ (List.mem_cons_of_mem _ t_673)) (fun _ h9 => h9) rfl rfl (okV_i (bd_sub kb_0 (by decide))) rfl rfl (by decide) (Or.inr (Or.inl (by decide))) (fx' := [(7, 13, a0_, .int 0), (7, 6, a0_, .int 0), (7, 3, a0_, .int 0), (7, 1, a0_, .int 0)]) rfl dX7_wipe_22 (fun f H locs g => ?_)
  refine lv_aload_n hx hb dX7_wipe_25 rfl (lv_at hl 0 rfl) ?_
  refine lv_iconst (v := 0) hx hb dX7_wipe_26 (by decide) ?_
  refine g_put (C := RX7) (T := TX7) (N := 19) hx hb hts (mc_ inX7) tyX7 tyX7_ok nmX7 hown hK g ma0_ ka0_ (by decide) rfl 17 (by decide) (hts _ (List.mem_cons_of_mem _ t_678)) (fun _ h9 => h9) rfl rfl (okV_i (bd_sub kb_0 (by decide))) rfl rfl (by decide) (Or.inr (Or.inl (by decide))) (fx' := [(7, 15, a0_, .int 0), (7, 13, a0_, .int 0), (7, 6, a0_, .int 0), (7, 3, a0_, .int 0), (7, 1, a0_, .int 0)]) rfl dX7_wipe_27 (fun f H locs g => ?_)
  refine lv_aload_n hx hb dX7_wipe_30 rfl (lv_at hl 0 rfl) ?_
  refine lv_iconst (v := 0) hx hb dX7_wipe_31 (by decide) ?_
  refine g_put (C := RX7) (T := TX7) (N := 19) hx hb hts (mc_ inX7) tyX7 tyX7_ok nmX7 hown hK g ma0_ ka0_ (by decide) rfl 18 (by decide) (hts _ (List.mem_cons_of_mem _ t_680)) (fun _ h9 => h9) rfl rfl (okV_i (bd_sub kb_0 (by decide))) rfl rfl (by decide) (Or.inr (Or.inl (by decide))) (fx' := [(7, 17, a0_, .int 0), (7, 15, a0_, .int 0), (7, 13, a0_, .int 0), (7, 6, a0_, .int 0), (7, 3, a0_, .int 0), (7, 1, a0_, .int 0)]) rfl dX7_wipe_32 (fun f H locs g => ?_)
  subst hQ
  exact W.vret hx hb hr (fun t ht hW => ⟨⟨_, rfl, (g.fcts [0, 1, 2, 3, 4, 5, 6] rfl), q3_of g hK ht hW⟩, g.2.2.1.F ht⟩) g.2.2.1.2.2 dX7_wipe_35
set_option maxHeartbeats 4000000 in
set_option maxRecDepth 100000 in
theorem r_X7_cellsOf (l : Launch) (dC : Nat → ClassId) (dI : Nat → Nat → Nat) (L : List Nat) (kd : Nat → Nat) (tys : List (ClassId × FieldType)) (f0 : Nat → va_E) (sz : Nat) (hWT : WT L kd tys f0) (a0_ : Nat) (ma0_ : a0_ ∈ L) (ka0_ : kd a0_ = 7) (x1_ : Int32) : Met l yX7_cellsOf (.code yX7_cellsOf cX7_cellsOf 2 (some .int) :: lw_g) ({ frames := 0, cells := 0, slots := 0, locals := 0 }) (va_Pc [.ref a0_, .int x1_] (P3 (dC, dI) L tys f0 sz)) (va_Qi (fun (r : Int32) (f : Nat → va_E) => (bd 0 24 r ∧ True)) (Q3 (dC, dI) L kd tys [] [] f0 sz) (pA L sz)) 0 0 (pA L sz) := by
  refine Met.ofW (cc := cX7_cellsOf) (maxL := 2) (ret := (some .int)) (by decide) rfl ?_
  intro p e s m args below meth c s₁ B hml hv
  obtain ⟨rfl, hsz, hP, hK, hD0⟩ := hv
  have hx := B.exec
  have hb := B.bytes
  have hr := B.returns
  have hts := atoms_spec (ws := (.code yX7_cellsOf cX7_cellsOf 2 (some .int) :: lw_g)) B.pre
  have hown : s.vm.findClass RX7 = some m.cls := findClass_of_methodNamed B.named
  have hlocks := B.notSynchronized
  subst hsz
  have g : G3 (dC, dI) L kd tys s f0 [] [] f0 s.heap [] [] := G3.start hP hD0 hWT Fs.nil
  have hl := lv_entry ([.ref a0_, .int x1_]) (n := 2) (Nat.le_of_ble_eq_true rfl)
  rw [lg_entry_eq]
  generalize (lg_sl ([.ref a0_, .int x1_]) ++ List.replicate (2 - (lg_sl ([.ref a0_, .int x1_])).length) Slot.unset).toArray = ls at hl ⊢
  have hl : lv_has ls 2 [(0, .ref a0_), (1, .int x1_)] := hl
  refine W_q (fun Q hQ => ?_)
  refine lv_iload_n hx hb dX7_cellsOf_0 rfl (lv_at hl 1 rfl) ?_
  have kb_0 : bd 0 0 (0 : Int32) := ⟨by decide, by decide⟩
  refine lv_if_lt (tgt := 24) hx hb dX7_cellsOf_1 (by decide) (fun c_1 => ?_) (fun c_1 => ?_)
  · have fc_1 := lt_f c_1
    have b_2 : bd (-2147483648) (-1) x1_ := ltL fc_1 (bdT x1_) kb_0 (by decide)
    refine lv_iconst (v := 0) hx hb dX7_cellsOf_24 (by decide) ?_
    subst hQ
    exact W.iret (v := 0) hx hb hr (fun t ht hW => ⟨⟨_, _, rfl, ⟨(bd_sub kb_0 (by decide)), trivial⟩, q3_of g hK ht hW⟩, g.2.2.1.F ht⟩) g.2.2.1.2.2 dX7_cellsOf_25
  · have fc_1 := nlt_f c_1
    have b_3 : bd 0 2147483647 x1_ := leR fc_1 kb_0 (bdT x1_) (by decide)
    refine lv_iload_n hx hb dX7_cellsOf_4 rfl (lv_at hl 1 rfl) ?_
    refine lv_aload_n hx hb dX7_cellsOf_5 rfl (lv_at hl 0 rfl) ?_
    refine g_geti (C := RX7) (T := TX7) (N := 19) hx hb hts (mc_ inX7) hown hK g ma0_ ka0_ (by decide) rfl 1 (by decide) rfl (hts _ (List.mem_cons_of_mem _ t_626)) (fun _ h9 => h9) rfl dX7_cellsOf_6 (fun x_4 bx_4 g => ?_)
    refine lv_icmp_ge (tgt := 24) hx hb dX7_cellsOf_9 (by decide) (fun c_5 => ?_) (fun c_5 => ?_)
    · have fc_5 := le_f c_5
      refine lv_iconst (v := 0) hx hb dX7_cellsOf_24 (by decide) ?_
      subst hQ
      exact W.iret (v := 0) hx hb hr (fun t ht hW => ⟨⟨_, _, rfl, ⟨(bd_sub kb_0 (by decide)), trivial⟩, q3_of g hK ht hW⟩, g.2.2.1.F ht⟩) g.2.2.1.2.2 dX7_cellsOf_25
    · have fc_5 := nle_f c_5
      have b_6 : bd 0 7 x1_ := ltL fc_5 b_3 bx_4 (by decide)
      have b_7 : bd 1 8 x_4 := ltR fc_5 b_3 bx_4 (by decide)
      refine lv_aload_n hx hb dX7_cellsOf_12 rfl (lv_at hl 0 rfl) ?_
      refine g_getr (K := 136) (C := RX7) (T := TX7) (N := 19) hx hb hts (mc_ inX7) hown hK g ma0_ ka0_ (by decide) rfl 0 (by decide) rfl (hts _ (List.mem_cons_of_mem _ t_620)) (fun _ h9 => h9) rfl dX7_cellsOf_13 (fun a_8 ma_8 ka_8 g => ?_)
      refine lv_iload_n hx hb dX7_cellsOf_16 rfl (lv_at hl 1 rfl) ?_
      refine g_aald hx hb hK g ma_8 ka_8 (by decide) rfl (by decide) (in_bd b_6 (by decide)) dX7_cellsOf_17 (fun a_9 ma_9 ua_9 wa_9 => ?_)
      have ka_9 : kd a_9 = 9 := by omega
      refine g_geti (C := RX9) (T := TX9) (N := 13) hx hb hts (mc_ inX9) hown hK g ma_9 ka_9 (by decide) rfl 7 (by decide) rfl (hts _ (List.mem_cons_of_mem _ t_494)) (fun _ h9 => h9) rfl dX7_cellsOf_18 (fun x_10 bx_10 g => ?_)
      refine lv_goto (tgt := 25) hx hb dX7_cellsOf_21 (by decide) ?_
      subst hQ
      exact W.iret (v := x_10) hx hb hr (fun t ht hW => ⟨⟨_, _, rfl, ⟨bx_10, trivial⟩, q3_of g hK ht hW⟩, g.2.2.1.F ht⟩) g.2.2.1.2.2 dX7_cellsOf_25
set_option maxHeartbeats 4000000 in
set_option maxRecDepth 100000 in
theorem r_X7_begunOf (l : Launch) (dC : Nat → ClassId) (dI : Nat → Nat → Nat) (L : List Nat) (kd : Nat → Nat) (tys : List (ClassId × FieldType)) (f0 : Nat → va_E) (sz : Nat) (hWT : WT L kd tys f0) (a0_ : Nat) (ma0_ : a0_ ∈ L) (ka0_ : kd a0_ = 7) (a1_ : Nat) (ma1_ : a1_ ∈ L) (ka1_ : kd a1_ = 6) : Met l yX7_begunOf (.code yX7_begunOf cX7_begunOf 4 (some .int) :: lw_g) ({ frames := 0, cells := 0, slots := 0, locals := 0 }) (va_Pc [.ref a0_, .ref a1_] (P3 (dC, dI) L tys f0 sz)) (va_Qi (fun (r : Int32) (f : Nat → va_E) => (True)) (Q3 (dC, dI) L kd tys [] [] f0 sz) (pA L sz)) 0 0 (pA L sz) := by
  refine Met.ofW (cc := cX7_begunOf) (maxL := 4) (ret := (some .int)) (by decide) rfl ?_
  intro p e s m args below meth c s₁ B hml hv
  obtain ⟨rfl, hsz, hP, hK, hD0⟩ := hv
  have hx := B.exec
  have hb := B.bytes
  have hr := B.returns
  have hts := atoms_spec (ws := (.code yX7_begunOf cX7_begunOf 4 (some .int) :: lw_g)) B.pre
  have hown : s.vm.findClass RX7 = some m.cls := findClass_of_methodNamed B.named
  have hlocks := B.notSynchronized
  subst hsz
  have g : G3 (dC, dI) L kd tys s f0 [] [] f0 s.heap [] [] := G3.start hP hD0 hWT Fs.nil
  have hl := lv_entry ([.ref a0_, .ref a1_]) (n := 4) (Nat.le_of_ble_eq_true rfl)
  rw [lg_entry_eq]
  generalize (lg_sl ([.ref a0_, .ref a1_]) ++ List.replicate (4 - (lg_sl ([.ref a0_, .ref a1_])).length) Slot.unset).toArray = ls at hl ⊢
  have hl : lv_has ls 4 [(0, .ref a0_), (1, .ref a1_)] := hl
  refine W_q (fun Q hQ => ?_)
  refine lv_iconst (v := 0) hx hb dX7_begunOf_0 (by decide) ?_
  refine lv_istore_n (lv' := [(2, .int 0), (0, .ref a0_), (1, .ref a1_)]) hx hb dX7_begunOf_1 rfl hl (by decide) rfl (fun ls hl => ?_)
  refine lv_aload_n hx hb dX7_begunOf_2 rfl (lv_at hl 2 rfl) ?_
  refine g_geti (C := RX6) (T := TX6) (N := 13) hx hb hts (mc_ inX6) hown hK g ma1_ ka1_ (by decide) rfl 9 (by decide) rfl (hts _ (List.mem_cons_of_mem _ t_584)) (fun _ h9 => h9) rfl dX7_begunOf_3 (fun x_1 bx_1 g => ?_)
  refine lv_istore_n (lv' := [(3, .int x_1), (2, .int 0), (0, .ref a0_), (1, .ref a1_)]) hx hb dX7_begunOf_6 rfl hl (by decide) rfl (fun ls hl => ?_)
  have loop_2 : ∀ (n : Nat) (v7_3 : Int32) (v7_2 : Int32), bd 0 420 v7_3 → (420 - v7_3.toInt < (n : Int)) → ∀ (f : Nat → va_E) (H : Heap) (locs : List Loc) (ls : Array Slot), G3 (dC, dI) L kd tys s f0 [] [] f H locs [(6, 9, a1_, .int x_1)] → lv_has ls 4 [(3, .int v7_3), (2, .int v7_2), (0, .ref a0_), (1, .ref a1_)] → W p l e ({ frames := 0, cells := 0, slots := 0, locals := 0 } : Room) s m [.ref a0_, .ref a1_].toArray below meth c H locs 0 0 Q (F0 m 7 ls []) := by
    intro n
    induction n with
    | zero =>
      intro v7_3 v7_2 bv7_3  hm f H locs ls g hl
      exact absurd hm (by have h9_v7_3 := bv7_3; unfold bd at h9_v7_3; omega)
    | succ n ih =>
      intro v7_3 v7_2 bv7_3  hm f H locs ls g hl
      refine lv_iload_n hx hb dX7_begunOf_7 rfl (lv_at hl 0 rfl) ?_
      refine lv_aload_n hx hb dX7_begunOf_8 rfl (lv_at hl 3 rfl) ?_
      refine g_getk (C := RX6) (T := TX6) (N := 13) hx hb hts (mc_ inX6) hown hK g rfl 9 (by decide) rfl (hts _ (List.mem_cons_of_mem _ t_584)) (fun _ h9 => h9) 0 rfl dX7_begunOf_9 ?_
      refine lv_aload_n hx hb dX7_begunOf_12 rfl (lv_at hl 3 rfl) ?_
      refine g_geti (C := RX6) (T := TX6) (N := 13) hx hb hts (mc_ inX6) hown hK g ma1_ ka1_ (by decide) rfl 10 (by decide) rfl (hts _ (List.mem_cons_of_mem _ t_586)) (fun _ h9 => h9) rfl dX7_begunOf_13 (fun x_3 bx_3 g => ?_)
      refine lv_iadd hx hb dX7_begunOf_16 ?_
      refine lv_topi (fun y_4 ey_4 => ?_)
      refine lv_icmp_ge (tgt := 51) hx hb dX7_begunOf_17 (by decide) (fun c_5 => ?_) (fun c_5 => ?_)
      · have fc_5 := le_f c_5
        have b_6 : bd (-2147483648) 420 y_4 := leL fc_5 (bdT y_4) bv7_3 (by decide)
        refine lv_iload_n hx hb dX7_begunOf_51 rfl (lv_at hl 1 rfl) ?_
        subst hQ
        exact W.iret (v := v7_2) hx hb hr (fun t ht hW => ⟨⟨_, _, rfl, trivial, q3_of g hK ht hW⟩, g.2.2.1.F ht⟩) g.2.2.1.2.2 dX7_begunOf_52
      · have fc_5 := nle_f c_5
        have b_7 : bd 1 2147483647 y_4 := ltR fc_5 bv7_3 (bdT y_4) (by decide)
        refine lv_iload_n hx hb dX7_begunOf_20 rfl (lv_at hl 0 rfl) ?_
        refine lv_aload_n hx hb dX7_begunOf_21 rfl (lv_at hl 2 rfl) ?_
        refine g_geti (C := RX7) (T := TX7) (N := 19) hx hb hts (mc_ inX7) hown hK g ma0_ ka0_ (by decide) rfl 15 (by decide) rfl (hts _ (List.mem_cons_of_mem _ t_673)) (fun _ h9 => h9) rfl dX7_begunOf_22 (fun x_8 bx_8 g => ?_)
        refine lv_icmp_ge (tgt := 51) hx hb dX7_begunOf_25 (by decide) (fun c_9 => ?_) (fun c_9 => ?_)
        · have fc_9 := le_f c_9
          refine lv_iload_n hx hb dX7_begunOf_51 rfl (lv_at hl 1 rfl) ?_
          subst hQ
          exact W.iret (v := v7_2) hx hb hr (fun t ht hW => ⟨⟨_, _, rfl, trivial, q3_of g hK ht hW⟩, g.2.2.1.F ht⟩) g.2.2.1.2.2 dX7_begunOf_52
        · have fc_9 := nle_f c_9
          have b_10 : bd 0 419 v7_3 := ltL fc_9 bv7_3 bx_8 (by decide)
          have b_11 : bd 1 420 x_8 := ltR fc_9 bv7_3 bx_8 (by decide)
          refine lv_iload_n hx hb dX7_begunOf_28 rfl (lv_at hl 1 rfl) ?_
          refine lv_aload_n hx hb dX7_begunOf_29 rfl (lv_at hl 2 rfl) ?_
          refine g_getr (K := 146) (C := RX7) (T := TX7) (N := 19) hx hb hts (mc_ inX7) hown hK g ma0_ ka0_ (by decide) rfl 14 (by decide) rfl (hts _ (List.mem_cons_of_mem _ t_671)) (fun _ h9 => h9) rfl dX7_begunOf_30 (fun a_12 ma_12 ka_12 g => ?_)
          refine lv_iload_n hx hb dX7_begunOf_33 rfl (lv_at hl 0 rfl) ?_
          refine g_zald hx hb hK g ma_12 ka_12 (by decide) rfl (in_bd b_10 (by decide)) dX7_begunOf_34 (fun x_13 bx_13 => ?_)
          have kb_0 : bd 0 0 (0 : Int32) := ⟨by decide, by decide⟩
          refine lv_if_eq (tgt := 42) hx hb dX7_begunOf_35 (by decide) (fun c_14 => ?_) (fun c_14 => ?_)
          · have fc_14 := eq_f c_14
            have b_15 : bd 0 0 x_13 := eqX fc_14 bx_13 kb_0 (by decide)
            refine lv_iconst (v := 0) hx hb dX7_begunOf_42 (by decide) ?_
            refine lv_iadd hx hb dX7_begunOf_43 ?_
            refine lv_topi (fun y_16 ey_16 => ?_)
            have ty_16 := add_bd ey_16 (bdT v7_2) kb_0 (by decide)
            have b_17 : bd (-2147483648) 2147483647 y_16 := add_rg ty_16 (bdT v7_2) kb_0 (by decide)
            refine lv_istore_n (lv' := [(2, .int y_16), (3, .int v7_3), (0, .ref a0_), (1, .ref a1_)]) hx hb dX7_begunOf_44 rfl hl (by decide) rfl (fun ls hl => ?_)
            have kb_1 : bd 1 1 (1 : Int32) := ⟨by decide, by decide⟩
            obtain ⟨y_18, ey_18⟩ : ∃ z : Int32, z = v7_3 + 1 := ⟨_, rfl⟩
            refine lv_iinc (v := y_18) (lv' := [(3, .int y_18), (2, .int y_16), (0, .ref a0_), (1, .ref a1_)]) hx hb dX7_begunOf_45 hl (k := 1) rfl (by rw [ey_18]; rfl) (by decide) rfl (fun ls hl => ?_)
            have ty_18 := add_bd ey_18 b_10 kb_1 (by decide)
            have b_19 : bd 1 420 y_18 := add_rg ty_18 b_10 kb_1 (by decide)
            refine lv_goto (tgt := 7) hx hb dX7_begunOf_48 (by decide) ?_
            have hl9 := lv_sub hl [0, 1, 2, 3] (by rfl : lv_pick [(3, .int y_18), (2, .int y_16), (0, .ref a0_), (1, .ref a1_)] [0, 1, 2, 3] = [(3, .int y_18), (2, .int y_16), (0, .ref a0_), (1, .ref a1_)])
            have g9 := g.sub (fx' := [(6, 9, a1_, .int x_1)]) [3] rfl
            exact ih  y_18 y_16 (bd_sub b_19 (by decide)) (by have h9_0 := b_17; unfold bd at h9_0; have h9_1 := b_19; unfold bd at h9_1; have h9_2 := kb_0; unfold bd at h9_2; have h9_3 := kb_1; unfold bd at h9_3; omega) _ _ _ _ g9 hl9
          · have fc_14 := neq_f c_14
            have b_20 : bd 1 1 x_13 := neX fc_14 bx_13 kb_0 (by decide)
            refine lv_iconst (v := 1) hx hb dX7_begunOf_38 (by decide) ?_
            refine lv_goto (tgt := 43) hx hb dX7_begunOf_39 (by decide) ?_
            have kb_1 : bd 1 1 (1 : Int32) := ⟨by decide, by decide⟩
            refine lv_iadd hx hb dX7_begunOf_43 ?_
            refine lv_topi (fun y_21 ey_21 => ?_)
            refine lv_istore_n (lv' := [(2, .int y_21), (3, .int v7_3), (0, .ref a0_), (1, .ref a1_)]) hx hb dX7_begunOf_44 rfl hl (by decide) rfl (fun ls hl => ?_)
            obtain ⟨y_22, ey_22⟩ : ∃ z : Int32, z = v7_3 + 1 := ⟨_, rfl⟩
            refine lv_iinc (v := y_22) (lv' := [(3, .int y_22), (2, .int y_21), (0, .ref a0_), (1, .ref a1_)]) hx hb dX7_begunOf_45 hl (k := 1) rfl (by rw [ey_22]; rfl) (by decide) rfl (fun ls hl => ?_)
            have ty_22 := add_bd ey_22 b_10 kb_1 (by decide)
            have b_23 : bd 1 420 y_22 := add_rg ty_22 b_10 kb_1 (by decide)
            refine lv_goto (tgt := 7) hx hb dX7_begunOf_48 (by decide) ?_
            have hl9 := lv_sub hl [0, 1, 2, 3] (by rfl : lv_pick [(3, .int y_22), (2, .int y_21), (0, .ref a0_), (1, .ref a1_)] [0, 1, 2, 3] = [(3, .int y_22), (2, .int y_21), (0, .ref a0_), (1, .ref a1_)])
            have g9 := g.sub (fx' := [(6, 9, a1_, .int x_1)]) [3] rfl
            exact ih  y_22 y_21 (bd_sub b_23 (by decide)) (by have h9_0 := b_23; unfold bd at h9_0; have h9_1 := kb_0; unfold bd at h9_1; have h9_2 := kb_1; unfold bd at h9_2; omega) _ _ _ _ g9 hl9
  have kb_0 : bd 0 0 (0 : Int32) := ⟨by decide, by decide⟩
  have hl9 := lv_sub hl [0, 1, 2, 3] (by rfl : lv_pick [(3, .int x_1), (2, .int 0), (0, .ref a0_), (1, .ref a1_)] [0, 1, 2, 3] = [(3, .int x_1), (2, .int 0), (0, .ref a0_), (1, .ref a1_)])
  have g9 := g.sub (fx' := [(6, 9, a1_, .int x_1)]) [0] rfl
  exact loop_2 (843) x_1 0 bx_1 (by have h9_0 := bx_1; unfold bd at h9_0; have h9_1 := kb_0; unfold bd at h9_1; omega) _ _ _ _ g9 hl9
set_option maxHeartbeats 4000000 in
set_option maxRecDepth 100000 in
theorem r_X7_addStatement (l : Launch) (dC : Nat → ClassId) (dI : Nat → Nat → Nat) (L : List Nat) (kd : Nat → Nat) (tys : List (ClassId × FieldType)) (f0 : Nat → va_E) (sz : Nat) (hWT : WT L kd tys f0) (a0_ : Nat) (ma0_ : a0_ ∈ L) (ka0_ : kd a0_ = 7) : Met l yX7_addStatement (.code yX7_addStatement cX7_addStatement 2 (some .int) :: lw_g) ({ frames := 1, cells := 0, slots := 0, locals := 13 }) (va_Pc [.ref a0_] (P3 (dC, dI) L tys f0 sz)) (va_Qi (fun (r : Int32) (f : Nat → va_E) => (bd 0 419 r ∧ ∃ z0_ : Int32, bd 1 420 z0_ ∧ Fs L kd f [(7, 15, a0_, .int z0_)])) (Q3 (dC, dI) L kd tys [(7, 15)] [146] f0 sz) (pA L sz)) 0 0 (pA L sz) := by
  refine Met.ofW (cc := cX7_addStatement) (maxL := 2) (ret := (some .int)) (by decide) rfl ?_
  intro p e s m args below meth c s₁ B hml hv
  obtain ⟨rfl, hsz, hP, hK, hD0⟩ := hv
  have hx := B.exec
  have hb := B.bytes
  have hr := B.returns
  have hts := atoms_spec (ws := (.code yX7_addStatement cX7_addStatement 2 (some .int) :: lw_g)) B.pre
  have hown : s.vm.findClass RX7 = some m.cls := findClass_of_methodNamed B.named
  have hlocks := B.notSynchronized
  subst hsz
  have g : G3 (dC, dI) L kd tys s f0 [(7, 15)] [146] f0 s.heap [] [] := G3.start hP hD0 hWT Fs.nil
  have hl := lv_entry ([.ref a0_]) (n := 2) (Nat.le_of_ble_eq_true rfl)
  rw [lg_entry_eq]
  generalize (lg_sl ([.ref a0_]) ++ List.replicate (2 - (lg_sl ([.ref a0_])).length) Slot.unset).toArray = ls at hl ⊢
  have hl : lv_has ls 2 [(0, .ref a0_)] := hl
  refine W_q (fun Q hQ => ?_)
  refine lv_aload_n hx hb dX7_addStatement_0 rfl (lv_at hl 0 rfl) ?_
  refine g_geti (C := RX7) (T := TX7) (N := 19) hx hb hts (mc_ inX7) hown hK g ma0_ ka0_ (by decide) rfl 15 (by decide) rfl (hts _ (List.mem_cons_of_mem _ t_673)) (fun _ h9 => h9) rfl dX7_addStatement_1 (fun x_1 bx_1 g => ?_)
  refine lv_sipush (v := 419) hx hb dX7_addStatement_4 (by decide) ?_
  have kb_419 : bd 419 419 (419 : Int32) := ⟨by decide, by decide⟩
  refine va_mmin hx hb (hml.trans hl.1.symm) hown (hts _ (List.mem_cons_of_mem _ t_1177)) (hts _ (List.mem_cons_of_mem _ t_998)) (hts _ (List.mem_cons_of_mem _ t_204)) (hts _ (List.mem_cons_of_mem _ t_999)) (Nat.le_of_ble_eq_true rfl) (Nat.le_of_ble_eq_true rfl) (Nat.le_of_ble_eq_true rfl) (Nat.le_of_ble_eq_true rfl) dX7_addStatement_7 ?_
  refine lv_topi (fun y_2 ey_2 => ?_)
  have ty_2 : y_2.toInt = min x_1.toInt (419 : Int32).toInt := by rw [ey_2]; exact mmin_ok _ _
  have b_3 : bd 0 419 y_2 := min_rg ty_2 bx_1 kb_419 (by decide)
  refine lv_istore_n (lv' := [(1, .int y_2), (0, .ref a0_)]) hx hb dX7_addStatement_10 rfl hl (by decide) rfl (fun ls hl => ?_)
  refine lv_aload_n hx hb dX7_addStatement_11 rfl (lv_at hl 1 rfl) ?_
  refine g_getr (K := 146) (C := RX7) (T := TX7) (N := 19) hx hb hts (mc_ inX7) hown hK g ma0_ ka0_ (by decide) rfl 14 (by decide) rfl (hts _ (List.mem_cons_of_mem _ t_671)) (fun _ h9 => h9) rfl dX7_addStatement_12 (fun a_4 ma_4 ka_4 g => ?_)
  refine lv_iload_n hx hb dX7_addStatement_15 rfl (lv_at hl 0 rfl) ?_
  refine lv_iconst (v := 0) hx hb dX7_addStatement_16 (by decide) ?_
  have kb_0 : bd 0 0 (0 : Int32) := ⟨by decide, by decide⟩
  refine g_zast hx hb hK g ma_4 ka_4 (by decide) rfl (in_bd b_3 (by decide)) (bd_sub kb_0 (by decide)) (by decide) dX7_addStatement_17 (fun f H locs g => ?_)
  refine lv_aload_n hx hb dX7_addStatement_18 rfl (lv_at hl 1 rfl) ?_
  refine lv_iload_n hx hb dX7_addStatement_19 rfl (lv_at hl 0 rfl) ?_
  refine lv_iconst (v := 1) hx hb dX7_addStatement_20 (by decide) ?_
  have kb_1 : bd 1 1 (1 : Int32) := ⟨by decide, by decide⟩
  refine lv_iadd hx hb dX7_addStatement_21 ?_
  refine lv_topi (fun y_5 ey_5 => ?_)
  have ty_5 := add_bd ey_5 b_3 kb_1 (by decide)
  have b_6 : bd 1 420 y_5 := add_rg ty_5 b_3 kb_1 (by decide)
  refine g_put (C := RX7) (T := TX7) (N := 19) hx hb hts (mc_ inX7) tyX7 tyX7_ok nmX7 hown hK g ma0_ ka0_ (by decide) rfl 15 (by decide) (hts _ (List.mem_cons_of_mem _ t_673)) (fun _ h9 => h9) rfl rfl (okV_i (bd_sub b_6 (by decide))) rfl rfl (by decide) (Or.inr (Or.inl (by decide))) (fx' := [(7, 14, a0_, .ref a_4)]) rfl dX7_addStatement_22 (fun f H locs g => ?_)
  refine lv_iload_n hx hb dX7_addStatement_25 rfl (lv_at hl 0 rfl) ?_
  subst hQ
  exact W.iret (v := y_2) hx hb hr (fun t ht hW => ⟨⟨_, _, rfl, ⟨b_3, y_5, b_6, (g.fcts [0] rfl)⟩, q3_of g hK ht hW⟩, g.2.2.1.F ht⟩) g.2.2.1.2.2 dX7_addStatement_26
set_option maxHeartbeats 4000000 in
set_option maxRecDepth 100000 in
theorem r_X8_codeOf (l : Launch) (dC : Nat → ClassId) (dI : Nat → Nat → Nat) (L : List Nat) (kd : Nat → Nat) (tys : List (ClassId × FieldType)) (f0 : Nat → va_E) (sz : Nat) (hWT : WT L kd tys f0) (x0_ : Int32) : Met l yX8_codeOf (.code yX8_codeOf cX8_codeOf 1 (some .int) :: lw_g) ({ frames := 0, cells := 0, slots := 0, locals := 0 }) (va_Pc [.int x0_] (P3 (dC, dI) L tys f0 sz)) (va_Qi (fun (r : Int32) (f : Nat → va_E) => (bd 0 37 r ∧ True)) (Q3 (dC, dI) L kd tys [] [] f0 sz) (pA L sz)) 0 0 (pA L sz) := by
  refine Met.ofW (cc := cX8_codeOf) (maxL := 1) (ret := (some .int)) (by decide) rfl ?_
  intro p e s m args below meth c s₁ B hml hv
  obtain ⟨rfl, hsz, hP, hK, hD0⟩ := hv
  have hx := B.exec
  have hb := B.bytes
  have hr := B.returns
  have hts := atoms_spec (ws := (.code yX8_codeOf cX8_codeOf 1 (some .int) :: lw_g)) B.pre
  have hown : s.vm.findClass RX8 = some m.cls := findClass_of_methodNamed B.named
  have hlocks := B.notSynchronized
  subst hsz
  have g : G3 (dC, dI) L kd tys s f0 [] [] f0 s.heap [] [] := G3.start hP hD0 hWT Fs.nil
  have hl := lv_entry ([.int x0_]) (n := 1) (Nat.le_of_ble_eq_true rfl)
  rw [lg_entry_eq]
  generalize (lg_sl ([.int x0_]) ++ List.replicate (1 - (lg_sl ([.int x0_])).length) Slot.unset).toArray = ls at hl ⊢
  have hl : lv_has ls 1 [(0, .int x0_)] := hl
  refine W_q (fun Q hQ => ?_)
  refine lv_iload_n hx hb dX8_codeOf_0 rfl (lv_at hl 0 rfl) ?_
  refine lv_bipush (v := 97) hx hb dX8_codeOf_1 (by decide) ?_
  have kb_97 : bd 97 97 (97 : Int32) := ⟨by decide, by decide⟩
  refine lv_icmp_lt (tgt := 19) hx hb dX8_codeOf_3 (by decide) (fun c_1 => ?_) (fun c_1 => ?_)
  · have fc_1 := lt_f c_1
    have b_2 : bd (-2147483648) 96 x0_ := ltL fc_1 (bdT x0_) kb_97 (by decide)
    refine lv_iload_n hx hb dX8_codeOf_19 rfl (lv_at hl 0 rfl) ?_
    refine lv_bipush (v := 48) hx hb dX8_codeOf_20 (by decide) ?_
    have kb_48 : bd 48 48 (48 : Int32) := ⟨by decide, by decide⟩
    refine lv_icmp_lt (tgt := 39) hx hb dX8_codeOf_22 (by decide) (fun c_3 => ?_) (fun c_3 => ?_)
    · have fc_3 := lt_f c_3
      have b_4 : bd (-2147483648) 47 x0_ := ltL fc_3 b_2 kb_48 (by decide)
      refine lv_iload_n hx hb dX8_codeOf_39 rfl (lv_at hl 0 rfl) ?_
      refine lv_bipush (v := 95) hx hb dX8_codeOf_40 (by decide) ?_
      have kb_95 : bd 95 95 (95 : Int32) := ⟨by decide, by decide⟩
      refine lv_icmp_ne (tgt := 50) hx hb dX8_codeOf_42 (by decide) (fun c_5 => ?_) (fun c_5 => ?_)
      · have fc_5 := neq_f c_5
        refine lv_iconst (v := 0) hx hb dX8_codeOf_50 (by decide) ?_
        have kb_0 : bd 0 0 (0 : Int32) := ⟨by decide, by decide⟩
        subst hQ
        exact W.iret (v := 0) hx hb hr (fun t ht hW => ⟨⟨_, _, rfl, ⟨(bd_sub kb_0 (by decide)), trivial⟩, q3_of g hK ht hW⟩, g.2.2.1.F ht⟩) g.2.2.1.2.2 dX8_codeOf_51
      · have fc_5 := eq_f c_5
        have b_6 : bd 95 47 x0_ := eqX fc_5 b_4 kb_95 (by decide)
        exact bd_no b_6 (by decide)
    · have fc_3 := nlt_f c_3
      have b_7 : bd 48 96 x0_ := leR fc_3 kb_48 b_2 (by decide)
      refine lv_iload_n hx hb dX8_codeOf_25 rfl (lv_at hl 0 rfl) ?_
      refine lv_bipush (v := 57) hx hb dX8_codeOf_26 (by decide) ?_
      have kb_57 : bd 57 57 (57 : Int32) := ⟨by decide, by decide⟩
      refine lv_icmp_gt (tgt := 39) hx hb dX8_codeOf_28 (by decide) (fun c_8 => ?_) (fun c_8 => ?_)
      · have fc_8 := lt_f c_8
        have b_9 : bd 58 96 x0_ := ltR fc_8 kb_57 b_7 (by decide)
        refine lv_iload_n hx hb dX8_codeOf_39 rfl (lv_at hl 0 rfl) ?_
        refine lv_bipush (v := 95) hx hb dX8_codeOf_40 (by decide) ?_
        have kb_95 : bd 95 95 (95 : Int32) := ⟨by decide, by decide⟩
        refine lv_icmp_ne (tgt := 50) hx hb dX8_codeOf_42 (by decide) (fun c_10 => ?_) (fun c_10 => ?_)
        · have fc_10 := neq_f c_10
          refine lv_iconst (v := 0) hx hb dX8_codeOf_50 (by decide) ?_
          have kb_0 : bd 0 0 (0 : Int32) := ⟨by decide, by decide⟩
          subst hQ
          exact W.iret (v := 0) hx hb hr (fun t ht hW => ⟨⟨_, _, rfl, ⟨(bd_sub kb_0 (by decide)), trivial⟩, q3_of g hK ht hW⟩, g.2.2.1.F ht⟩) g.2.2.1.2.2 dX8_codeOf_51
        · have fc_10 := eq_f c_10
          have b_11 : bd 95 95 x0_ := eqX fc_10 b_9 kb_95 (by decide)
          refine lv_bipush (v := 37) hx hb dX8_codeOf_45 (by decide) ?_
          refine lv_goto (tgt := 51) hx hb dX8_codeOf_47 (by decide) ?_
          have kb_37 : bd 37 37 (37 : Int32) := ⟨by decide, by decide⟩
          subst hQ
          exact W.iret (v := 37) hx hb hr (fun t ht hW => ⟨⟨_, _, rfl, ⟨(bd_sub kb_37 (by decide)), trivial⟩, q3_of g hK ht hW⟩, g.2.2.1.F ht⟩) g.2.2.1.2.2 dX8_codeOf_51
      · have fc_8 := nlt_f c_8
        have b_12 : bd 48 57 x0_ := leL fc_8 b_7 kb_57 (by decide)
        refine lv_iload_n hx hb dX8_codeOf_31 rfl (lv_at hl 0 rfl) ?_
        refine lv_bipush (v := 48) hx hb dX8_codeOf_32 (by decide) ?_
        refine lv_isub hx hb dX8_codeOf_34 ?_
        refine lv_topi (fun y_13 ey_13 => ?_)
        have ty_13 := sub_bd ey_13 b_12 kb_48 (by decide)
        have b_14 : bd 0 9 y_13 := sub_rg ty_13 b_12 kb_48 (by decide)
        refine lv_bipush (v := 27) hx hb dX8_codeOf_35 (by decide) ?_
        have kb_27 : bd 27 27 (27 : Int32) := ⟨by decide, by decide⟩
        refine lv_iadd hx hb dX8_codeOf_37 ?_
        refine lv_topi (fun y_15 ey_15 => ?_)
        have ty_15 := add_bd ey_15 b_14 kb_27 (by decide)
        have b_16 : bd 27 36 y_15 := add_rg ty_15 b_14 kb_27 (by decide)
        subst hQ
        exact W.iret (v := y_15) hx hb hr (fun t ht hW => ⟨⟨_, _, rfl, ⟨(bd_sub b_16 (by decide)), trivial⟩, q3_of g hK ht hW⟩, g.2.2.1.F ht⟩) g.2.2.1.2.2 dX8_codeOf_38
  · have fc_1 := nlt_f c_1
    have b_17 : bd 97 2147483647 x0_ := leR fc_1 kb_97 (bdT x0_) (by decide)
    refine lv_iload_n hx hb dX8_codeOf_6 rfl (lv_at hl 0 rfl) ?_
    refine lv_bipush (v := 122) hx hb dX8_codeOf_7 (by decide) ?_
    have kb_122 : bd 122 122 (122 : Int32) := ⟨by decide, by decide⟩
    refine lv_icmp_gt (tgt := 19) hx hb dX8_codeOf_9 (by decide) (fun c_18 => ?_) (fun c_18 => ?_)
    · have fc_18 := lt_f c_18
      have b_19 : bd 123 2147483647 x0_ := ltR fc_18 kb_122 b_17 (by decide)
      refine lv_iload_n hx hb dX8_codeOf_19 rfl (lv_at hl 0 rfl) ?_
      refine lv_bipush (v := 48) hx hb dX8_codeOf_20 (by decide) ?_
      have kb_48 : bd 48 48 (48 : Int32) := ⟨by decide, by decide⟩
      refine lv_icmp_lt (tgt := 39) hx hb dX8_codeOf_22 (by decide) (fun c_20 => ?_) (fun c_20 => ?_)
      · have fc_20 := lt_f c_20
        have b_21 : bd 123 47 x0_ := ltL fc_20 b_19 kb_48 (by decide)
        exact bd_no b_21 (by decide)
      · have fc_20 := nlt_f c_20
        refine lv_iload_n hx hb dX8_codeOf_25 rfl (lv_at hl 0 rfl) ?_
        refine lv_bipush (v := 57) hx hb dX8_codeOf_26 (by decide) ?_
        have kb_57 : bd 57 57 (57 : Int32) := ⟨by decide, by decide⟩
        refine lv_icmp_gt (tgt := 39) hx hb dX8_codeOf_28 (by decide) (fun c_22 => ?_) (fun c_22 => ?_)
        · have fc_22 := lt_f c_22
          refine lv_iload_n hx hb dX8_codeOf_39 rfl (lv_at hl 0 rfl) ?_
          refine lv_bipush (v := 95) hx hb dX8_codeOf_40 (by decide) ?_
          have kb_95 : bd 95 95 (95 : Int32) := ⟨by decide, by decide⟩
          refine lv_icmp_ne (tgt := 50) hx hb dX8_codeOf_42 (by decide) (fun c_23 => ?_) (fun c_23 => ?_)
          · have fc_23 := neq_f c_23
            refine lv_iconst (v := 0) hx hb dX8_codeOf_50 (by decide) ?_
            have kb_0 : bd 0 0 (0 : Int32) := ⟨by decide, by decide⟩
            subst hQ
            exact W.iret (v := 0) hx hb hr (fun t ht hW => ⟨⟨_, _, rfl, ⟨(bd_sub kb_0 (by decide)), trivial⟩, q3_of g hK ht hW⟩, g.2.2.1.F ht⟩) g.2.2.1.2.2 dX8_codeOf_51
          · have fc_23 := eq_f c_23
            have b_24 : bd 123 95 x0_ := eqX fc_23 b_19 kb_95 (by decide)
            exact bd_no b_24 (by decide)
        · have fc_22 := nlt_f c_22
          have b_25 : bd 123 57 x0_ := leL fc_22 b_19 kb_57 (by decide)
          exact bd_no b_25 (by decide)
    · have fc_18 := nlt_f c_18
      have b_26 : bd 97 122 x0_ := leL fc_18 b_17 kb_122 (by decide)
      refine lv_iload_n hx hb dX8_codeOf_12 rfl (lv_at hl 0 rfl) ?_
      refine lv_bipush (v := 97) hx hb dX8_codeOf_13 (by decide) ?_
      refine lv_isub hx hb dX8_codeOf_15 ?_
      refine lv_topi (fun y_27 ey_27 => ?_)
      have ty_27 := sub_bd ey_27 b_26 kb_97 (by decide)
      have b_28 : bd 0 25 y_27 := sub_rg ty_27 b_26 kb_97 (by decide)
      refine lv_iconst (v := 1) hx hb dX8_codeOf_16 (by decide) ?_
      have kb_1 : bd 1 1 (1 : Int32) := ⟨by decide, by decide⟩
      refine lv_iadd hx hb dX8_codeOf_17 ?_
      refine lv_topi (fun y_29 ey_29 => ?_)
      have ty_29 := add_bd ey_29 b_28 kb_1 (by decide)
      have b_30 : bd 1 26 y_29 := add_rg ty_29 b_28 kb_1 (by decide)
      subst hQ
      exact W.iret (v := y_29) hx hb hr (fun t ht hW => ⟨⟨_, _, rfl, ⟨(bd_sub b_30 (by decide)), trivial⟩, q3_of g hK ht hW⟩, g.2.2.1.F ht⟩) g.2.2.1.2.2 dX8_codeOf_18
set_option maxHeartbeats 4000000 in
set_option maxRecDepth 100000 in
theorem r_X8_byteAt (l : Launch) (dC : Nat → ClassId) (dI : Nat → Nat → Nat) (L : List Nat) (kd : Nat → Nat) (tys : List (ClassId × FieldType)) (f0 : Nat → va_E) (sz : Nat) (hWT : WT L kd tys f0) (a0_ : Nat) (ma0_ : a0_ ∈ L) (ka0_ : kd a0_ = 8) (x1_ : Int32) (q0_ : Nat) (mq0_ : q0_ ∈ L) (kq0_ : kd q0_ = 104) (hfx : Fs L kd f0 [(8, 4, a0_, .ref q0_)]) : Met l yX8_byteAt (.code yX8_byteAt cX8_byteAt 2 (some .int) :: lw_g) ({ frames := 0, cells := 0, slots := 0, locals := 0 }) (va_Pc [.ref a0_, .int x1_] (P3 (dC, dI) L tys f0 sz)) (va_Qi (fun (r : Int32) (f : Nat → va_E) => (bd 0 255 r ∧ True)) (Q3 (dC, dI) L kd tys [] [] f0 sz) (pA L sz)) 0 0 (pA L sz) := by
  refine Met.ofW (cc := cX8_byteAt) (maxL := 2) (ret := (some .int)) (by decide) rfl ?_
  intro p e s m args below meth c s₁ B hml hv
  obtain ⟨rfl, hsz, hP, hK, hD0⟩ := hv
  have hx := B.exec
  have hb := B.bytes
  have hr := B.returns
  have hts := atoms_spec (ws := (.code yX8_byteAt cX8_byteAt 2 (some .int) :: lw_g)) B.pre
  have hown : s.vm.findClass RX8 = some m.cls := findClass_of_methodNamed B.named
  have hlocks := B.notSynchronized
  subst hsz
  have g : G3 (dC, dI) L kd tys s f0 [] [] f0 s.heap [] [(8, 4, a0_, .ref q0_)] := G3.start hP hD0 hWT hfx
  have hl := lv_entry ([.ref a0_, .int x1_]) (n := 2) (Nat.le_of_ble_eq_true rfl)
  rw [lg_entry_eq]
  generalize (lg_sl ([.ref a0_, .int x1_]) ++ List.replicate (2 - (lg_sl ([.ref a0_, .int x1_])).length) Slot.unset).toArray = ls at hl ⊢
  have hl : lv_has ls 2 [(0, .ref a0_), (1, .int x1_)] := hl
  refine W_q (fun Q hQ => ?_)
  refine lv_iload_n hx hb dX8_byteAt_0 rfl (lv_at hl 1 rfl) ?_
  have kb_0 : bd 0 0 (0 : Int32) := ⟨by decide, by decide⟩
  refine lv_if_lt (tgt := 25) hx hb dX8_byteAt_1 (by decide) (fun c_1 => ?_) (fun c_1 => ?_)
  · have fc_1 := lt_f c_1
    have b_2 : bd (-2147483648) (-1) x1_ := ltL fc_1 (bdT x1_) kb_0 (by decide)
    refine lv_iconst (v := 0) hx hb dX8_byteAt_25 (by decide) ?_
    subst hQ
    exact W.iret (v := 0) hx hb hr (fun t ht hW => ⟨⟨_, _, rfl, ⟨(bd_sub kb_0 (by decide)), trivial⟩, q3_of g hK ht hW⟩, g.2.2.1.F ht⟩) g.2.2.1.2.2 dX8_byteAt_26
  · have fc_1 := nlt_f c_1
    have b_3 : bd 0 2147483647 x1_ := leR fc_1 kb_0 (bdT x1_) (by decide)
    refine lv_iload_n hx hb dX8_byteAt_4 rfl (lv_at hl 1 rfl) ?_
    refine lv_aload_n hx hb dX8_byteAt_5 rfl (lv_at hl 0 rfl) ?_
    refine g_geti (C := RX8) (T := TX8) (N := 10) hx hb hts (mc_ inX8) hown hK g ma0_ ka0_ (by decide) rfl 5 (by decide) rfl (hts _ (List.mem_cons_of_mem _ t_290)) (fun _ h9 => h9) rfl dX8_byteAt_6 (fun x_4 bx_4 g => ?_)
    refine lv_icmp_ge (tgt := 25) hx hb dX8_byteAt_9 (by decide) (fun c_5 => ?_) (fun c_5 => ?_)
    · have fc_5 := le_f c_5
      refine lv_iconst (v := 0) hx hb dX8_byteAt_25 (by decide) ?_
      subst hQ
      exact W.iret (v := 0) hx hb hr (fun t ht hW => ⟨⟨_, _, rfl, ⟨(bd_sub kb_0 (by decide)), trivial⟩, q3_of g hK ht hW⟩, g.2.2.1.F ht⟩) g.2.2.1.2.2 dX8_byteAt_26
    · have fc_5 := nle_f c_5
      have b_6 : bd 0 3999 x1_ := ltL fc_5 b_3 bx_4 (by decide)
      have b_7 : bd 1 4000 x_4 := ltR fc_5 b_3 bx_4 (by decide)
      refine lv_aload_n hx hb dX8_byteAt_12 rfl (lv_at hl 0 rfl) ?_
      refine g_getk (C := RX8) (T := TX8) (N := 10) hx hb hts (mc_ inX8) hown hK g rfl 4 (by decide) rfl (hts _ (List.mem_cons_of_mem _ t_289)) (fun _ h9 => h9) 1 rfl dX8_byteAt_13 ?_
      refine lv_iload_n hx hb dX8_byteAt_16 rfl (lv_at hl 1 rfl) ?_
      refine g_bald hx hb hK g mq0_ kq0_ (by decide) rfl (in_bd b_6 (by decide)) dX8_byteAt_17 (fun x_8 bx_8 => ?_)
      refine lv_sipush (v := 255) hx hb dX8_byteAt_18 (by decide) ?_
      have kb_255 : bd 255 255 (255 : Int32) := ⟨by decide, by decide⟩
      refine lv_iand hx hb dX8_byteAt_21 ?_
      refine lv_topi (fun y_9 ey_9 => ?_)
      have b_10 : bd 0 255 y_9 := and_rg ey_9 bx_8 kb_255 (by decide)
      refine lv_goto (tgt := 26) hx hb dX8_byteAt_22 (by decide) ?_
      subst hQ
      exact W.iret (v := y_9) hx hb hr (fun t ht hW => ⟨⟨_, _, rfl, ⟨b_10, trivial⟩, q3_of g hK ht hW⟩, g.2.2.1.F ht⟩) g.2.2.1.2.2 dX8_byteAt_26
set_option maxHeartbeats 4000000 in
set_option maxRecDepth 100000 in
theorem r_X8_behindBlanks (l : Launch) (dC : Nat → ClassId) (dI : Nat → Nat → Nat) (L : List Nat) (kd : Nat → Nat) (tys : List (ClassId × FieldType)) (f0 : Nat → va_E) (sz : Nat) (hWT : WT L kd tys f0) (a0_ : Nat) (ma0_ : a0_ ∈ L) (ka0_ : kd a0_ = 8) (x1_ : Int32) (q0_ : Nat) (mq0_ : q0_ ∈ L) (kq0_ : kd q0_ = 104) (hfx : Fs L kd f0 [(8, 4, a0_, .ref q0_)]) : Met l yX8_behindBlanks (.code yX8_behindBlanks cX8_behindBlanks 3 (some .int) :: lw_g) ({ frames := 1, cells := 0, slots := 0, locals := 21 }) (va_Pc [.ref a0_, .int x1_] (P3 (dC, dI) L tys f0 sz)) (va_Qi (fun (r : Int32) (f : Nat → va_E) => (True)) (Q3 (dC, dI) L kd tys [] [] f0 sz) (pA L sz)) 0 0 (pA L sz) := by
  refine Met.ofW (cc := cX8_behindBlanks) (maxL := 3) (ret := (some .int)) (by decide) rfl ?_
  intro p e s m args below meth c s₁ B hml hv
  obtain ⟨rfl, hsz, hP, hK, hD0⟩ := hv
  have hx := B.exec
  have hb := B.bytes
  have hr := B.returns
  have hts := atoms_spec (ws := (.code yX8_behindBlanks cX8_behindBlanks 3 (some .int) :: lw_g)) B.pre
  have hown : s.vm.findClass RX8 = some m.cls := findClass_of_methodNamed B.named
  have hlocks := B.notSynchronized
  subst hsz
  have g : G3 (dC, dI) L kd tys s f0 [] [] f0 s.heap [] [(8, 4, a0_, .ref q0_)] := G3.start hP hD0 hWT hfx
  have hl := lv_entry ([.ref a0_, .int x1_]) (n := 3) (Nat.le_of_ble_eq_true rfl)
  rw [lg_entry_eq]
  generalize (lg_sl ([.ref a0_, .int x1_]) ++ List.replicate (3 - (lg_sl ([.ref a0_, .int x1_])).length) Slot.unset).toArray = ls at hl ⊢
  have hl : lv_has ls 3 [(0, .ref a0_), (1, .int x1_)] := hl
  refine W_q (fun Q hQ => ?_)
  refine lv_iload_n hx hb dX8_behindBlanks_0 rfl (lv_at hl 1 rfl) ?_
  refine lv_istore_n (lv' := [(2, .int x1_), (0, .ref a0_), (1, .int x1_)]) hx hb dX8_behindBlanks_1 rfl hl (by decide) rfl (fun ls hl => ?_)
  have loop_1 : ∀ (n : Nat) (v2_2 : Int32), (2147483647 - v2_2.toInt < (n : Int)) → ∀ (f : Nat → va_E) (H : Heap) (locs : List Loc) (ls : Array Slot), G3 (dC, dI) L kd tys s f0 [] [] f H locs [(8, 4, a0_, .ref q0_)] → lv_has ls 3 [(2, .int v2_2), (0, .ref a0_), (1, .int x1_)] → W p l e ({ frames := 1, cells := 0, slots := 0, locals := 21 } : Room) s m [.ref a0_, .int x1_].toArray below meth c H locs 0 0 Q (F0 m 2 ls []) := by
    intro n
    induction n with
    | zero =>
      intro v2_2  hm f H locs ls g hl
      exact absurd hm (by omega)
    | succ n ih =>
      intro v2_2  hm f H locs ls g hl
      refine lv_iload_n hx hb dX8_behindBlanks_2 rfl (lv_at hl 0 rfl) ?_
      refine lv_aload_n hx hb dX8_behindBlanks_3 rfl (lv_at hl 1 rfl) ?_
      refine g_geti (C := RX8) (T := TX8) (N := 10) hx hb hts (mc_ inX8) hown hK g ma0_ ka0_ (by decide) rfl 5 (by decide) rfl (hts _ (List.mem_cons_of_mem _ t_290)) (fun _ h9 => h9) rfl dX8_behindBlanks_4 (fun x_2 bx_2 g => ?_)
      refine lv_icmp_ge (tgt := 36) hx hb dX8_behindBlanks_7 (by decide) (fun c_3 => ?_) (fun c_3 => ?_)
      · have fc_3 := le_f c_3
        have b_4 : bd 0 2147483647 v2_2 := leR fc_3 bx_2 (bdT v2_2) (by decide)
        refine lv_iload_n hx hb dX8_behindBlanks_36 rfl (lv_at hl 0 rfl) ?_
        subst hQ
        exact W.iret (v := v2_2) hx hb hr (fun t ht hW => ⟨⟨_, _, rfl, trivial, q3_of g hK ht hW⟩, g.2.2.1.F ht⟩) g.2.2.1.2.2 dX8_behindBlanks_37
      · have fc_3 := nle_f c_3
        have b_5 : bd (-2147483648) 3999 v2_2 := ltL fc_3 (bdT v2_2) bx_2 (by decide)
        refine lv_aload_n hx hb dX8_behindBlanks_10 rfl (lv_at hl 1 rfl) ?_
        refine lv_iload_n hx hb dX8_behindBlanks_11 rfl (lv_at hl 0 rfl) ?_
        refine g_calli (va_runV (As := [.int v2_2]) (rest := []) ⟨hx, hb, hml, hown, hts⟩ (r_X8_byteAt l dC dI L kd tys f H.size g.2.2.2.1 a0_ ma0_ ka0_ v2_2 q0_ mq0_ kq0_ (g.fcts [1] rfl)) (cwV 1 hts (gV_ t_1004 t_1006 t_3 t_184 t_1007) rfl rfl rfl (by decide +kernel) ⟨(Nat.le_of_ble_eq_true rfl), (Nat.le_of_ble_eq_true rfl)⟩) (pre3V g hK ma0_ ka0_ (by decide) (q := (RX8, TX8, 10)) rfl) rfl rfl hl.1 rfl (lv_room (Nat.le_of_ble_eq_true rfl)) dX8_behindBlanks_12 ⟨(Nat.le_of_ble_eq_true rfl), (Nat.le_of_ble_eq_true rfl)⟩) g hK (by decide) (by decide) (fx' := [(8, 5, a0_, .int x_2), (8, 4, a0_, .ref q0_)]) rfl (fun r_6 fr_6 H locs hp hMr_6 g => ?_)
        obtain ⟨h_7, -⟩ := hp
        refine lv_bipush (v := 32) hx hb dX8_behindBlanks_15 (by decide) ?_
        have kb_32 : bd 32 32 (32 : Int32) := ⟨by decide, by decide⟩
        refine lv_icmp_eq (tgt := 30) hx hb dX8_behindBlanks_17 (by decide) (fun c_8 => ?_) (fun c_8 => ?_)
        · have fc_8 := eq_f c_8
          have b_9 : bd 32 32 r_6 := eqX fc_8 h_7 kb_32 (by decide)
          have kb_1 : bd 1 1 (1 : Int32) := ⟨by decide, by decide⟩
          obtain ⟨y_10, ey_10⟩ : ∃ z : Int32, z = v2_2 + 1 := ⟨_, rfl⟩
          refine lv_iinc (v := y_10) (lv' := [(2, .int y_10), (0, .ref a0_), (1, .int x1_)]) hx hb dX8_behindBlanks_30 hl (k := 0) rfl (by rw [ey_10]; rfl) (by decide) rfl (fun ls hl => ?_)
          have ty_10 := add_bd ey_10 b_5 kb_1 (by decide)
          have b_11 : bd (-2147483647) 4000 y_10 := add_rg ty_10 b_5 kb_1 (by decide)
          refine lv_goto (tgt := 2) hx hb dX8_behindBlanks_33 (by decide) ?_
          have hl9 := lv_sub hl [0, 1, 2] (by rfl : lv_pick [(2, .int y_10), (0, .ref a0_), (1, .int x1_)] [0, 1, 2] = [(2, .int y_10), (0, .ref a0_), (1, .int x1_)])
          have g9 := g.sub (fx' := [(8, 4, a0_, .ref q0_)]) [1] rfl
          exact ih  y_10  (by have h9_0 := b_11; unfold bd at h9_0; have h9_1 := kb_1; unfold bd at h9_1; have h9_2 := kb_32; unfold bd at h9_2; omega) _ _ _ _ g9 hl9
        · have fc_8 := neq_f c_8
          refine lv_aload_n hx hb dX8_behindBlanks_20 rfl (lv_at hl 1 rfl) ?_
          refine lv_iload_n hx hb dX8_behindBlanks_21 rfl (lv_at hl 0 rfl) ?_
          refine g_calli (va_runV (As := [.int v2_2]) (rest := []) ⟨hx, hb, hml, hown, hts⟩ (r_X8_byteAt l dC dI L kd tys fr_6 H.size g.2.2.2.1 a0_ ma0_ ka0_ v2_2 q0_ mq0_ kq0_ (g.fcts [1] rfl)) (cwV 1 hts (gV_ t_1004 t_1006 t_3 t_184 t_1007) rfl rfl rfl (by decide +kernel) ⟨(Nat.le_of_ble_eq_true rfl), (Nat.le_of_ble_eq_true rfl)⟩) (pre3V g hK ma0_ ka0_ (by decide) (q := (RX8, TX8, 10)) rfl) rfl rfl hl.1 rfl (lv_room (Nat.le_of_ble_eq_true rfl)) dX8_behindBlanks_22 ⟨(Nat.le_of_ble_eq_true rfl), (Nat.le_of_ble_eq_true rfl)⟩) g hK (by decide) (by decide) (fx' := [(8, 5, a0_, .int x_2), (8, 4, a0_, .ref q0_)]) rfl (fun r_12 fr_12 H locs hp hMr_12 g => ?_)
          obtain ⟨h_13, -⟩ := hp
          refine lv_bipush (v := 10) hx hb dX8_behindBlanks_25 (by decide) ?_
          have kb_10 : bd 10 10 (10 : Int32) := ⟨by decide, by decide⟩
          refine lv_icmp_ne (tgt := 36) hx hb dX8_behindBlanks_27 (by decide) (fun c_14 => ?_) (fun c_14 => ?_)
          · have fc_14 := neq_f c_14
            refine lv_iload_n hx hb dX8_behindBlanks_36 rfl (lv_at hl 0 rfl) ?_
            subst hQ
            exact W.iret (v := v2_2) hx hb hr (fun t ht hW => ⟨⟨_, _, rfl, trivial, q3_of g hK ht hW⟩, g.2.2.1.F ht⟩) g.2.2.1.2.2 dX8_behindBlanks_37
          · have fc_14 := eq_f c_14
            have b_15 : bd 10 10 r_12 := eqX fc_14 h_13 kb_10 (by decide)
            have kb_1 : bd 1 1 (1 : Int32) := ⟨by decide, by decide⟩
            obtain ⟨y_16, ey_16⟩ : ∃ z : Int32, z = v2_2 + 1 := ⟨_, rfl⟩
            refine lv_iinc (v := y_16) (lv' := [(2, .int y_16), (0, .ref a0_), (1, .int x1_)]) hx hb dX8_behindBlanks_30 hl (k := 0) rfl (by rw [ey_16]; rfl) (by decide) rfl (fun ls hl => ?_)
            have ty_16 := add_bd ey_16 b_5 kb_1 (by decide)
            have b_17 : bd (-2147483647) 4000 y_16 := add_rg ty_16 b_5 kb_1 (by decide)
            refine lv_goto (tgt := 2) hx hb dX8_behindBlanks_33 (by decide) ?_
            have hl9 := lv_sub hl [0, 1, 2] (by rfl : lv_pick [(2, .int y_16), (0, .ref a0_), (1, .int x1_)] [0, 1, 2] = [(2, .int y_16), (0, .ref a0_), (1, .int x1_)])
            have g9 := g.sub (fx' := [(8, 4, a0_, .ref q0_)]) [1] rfl
            exact ih  y_16  (by have h9_0 := b_17; unfold bd at h9_0; have h9_1 := kb_1; unfold bd at h9_1; have h9_2 := kb_10; unfold bd at h9_2; have h9_3 := kb_32; unfold bd at h9_3; omega) _ _ _ _ g9 hl9
  have hl9 := lv_sub hl [0, 1, 2] (by rfl : lv_pick [(2, .int x1_), (0, .ref a0_), (1, .int x1_)] [0, 1, 2] = [(2, .int x1_), (0, .ref a0_), (1, .int x1_)])
  have g9 := g.sub (fx' := [(8, 4, a0_, .ref q0_)]) [0] rfl
  exact loop_1 (8589934593) x1_  (by omega) _ _ _ _ g9 hl9
set_option maxHeartbeats 4000000 in
set_option maxRecDepth 100000 in
theorem r_X8_pairKind (l : Launch) (dC : Nat → ClassId) (dI : Nat → Nat → Nat) (L : List Nat) (kd : Nat → Nat) (tys : List (ClassId × FieldType)) (f0 : Nat → va_E) (sz : Nat) (hWT : WT L kd tys f0) (x0_ : Int32) (x1_ : Int32) : Met l yX8_pairKind (.code yX8_pairKind cX8_pairKind 2 (some .int) :: lw_g) ({ frames := 0, cells := 0, slots := 0, locals := 0 }) (va_Pc [.int x0_, .int x1_] (P3 (dC, dI) L tys f0 sz)) (va_Qi (fun (r : Int32) (f : Nat → va_E) => (bd 2 206 r ∧ True)) (Q3 (dC, dI) L kd tys [] [] f0 sz) (pA L sz)) 0 0 (pA L sz) := by
  refine Met.ofW (cc := cX8_pairKind) (maxL := 2) (ret := (some .int)) (by decide) rfl ?_
  intro p e s m args below meth c s₁ B hml hv
  obtain ⟨rfl, hsz, hP, hK, hD0⟩ := hv
  have hx := B.exec
  have hb := B.bytes
  have hr := B.returns
  have hts := atoms_spec (ws := (.code yX8_pairKind cX8_pairKind 2 (some .int) :: lw_g)) B.pre
  have hown : s.vm.findClass RX8 = some m.cls := findClass_of_methodNamed B.named
  have hlocks := B.notSynchronized
  subst hsz
  have g : G3 (dC, dI) L kd tys s f0 [] [] f0 s.heap [] [] := G3.start hP hD0 hWT Fs.nil
  have hl := lv_entry ([.int x0_, .int x1_]) (n := 2) (Nat.le_of_ble_eq_true rfl)
  rw [lg_entry_eq]
  generalize (lg_sl ([.int x0_, .int x1_]) ++ List.replicate (2 - (lg_sl ([.int x0_, .int x1_])).length) Slot.unset).toArray = ls at hl ⊢
  have hl : lv_has ls 2 [(0, .int x0_), (1, .int x1_)] := hl
  refine W_q (fun Q hQ => ?_)
  refine lv_iload_n hx hb dX8_pairKind_0 rfl (lv_at hl 1 rfl) ?_
  refine lv_bipush (v := 61) hx hb dX8_pairKind_1 (by decide) ?_
  have kb_61 : bd 61 61 (61 : Int32) := ⟨by decide, by decide⟩
  refine lv_icmp_ne (tgt := 66) hx hb dX8_pairKind_3 (by decide) (fun c_1 => ?_) (fun c_1 => ?_)
  · have fc_1 := neq_f c_1
    refine lv_iload_n hx hb dX8_pairKind_66 rfl (lv_at hl 0 rfl) ?_
    refine lv_iload_n hx hb dX8_pairKind_67 rfl (lv_at hl 1 rfl) ?_
    refine lv_icmp_eq (tgt := 73) hx hb dX8_pairKind_68 (by decide) (fun c_2 => ?_) (fun c_2 => ?_)
    · have fc_2 := eq_f c_2
      refine lv_iload_n hx hb dX8_pairKind_73 rfl (lv_at hl 0 rfl) ?_
      by_cases e_3 : x0_ = 38
      · refine lv_topi (fun z_4 ez_4 => ?_)
        obtain rfl : z_4 = 38 := ez_4.trans e_3
        have kb_38 : bd 38 38 (38 : Int32) := ⟨by decide, by decide⟩
        have b_5 : bd 38 38 x0_ := eqX (eq_f e_3) (bdT x0_) kb_38 (by decide)
        refine lv_lookup (off := 38) (tgt := 112) hx hb dX8_pairKind_74 (by decide) (by decide) (by decide) ?_
        refine lv_sipush (v := 205) hx hb dX8_pairKind_112 (by decide) ?_
        have kb_205 : bd 205 205 (205 : Int32) := ⟨by decide, by decide⟩
        subst hQ
        exact W.iret (v := 205) hx hb hr (fun t ht hW => ⟨⟨_, _, rfl, ⟨(bd_sub kb_205 (by decide)), trivial⟩, q3_of g hK ht hW⟩, g.2.2.1.F ht⟩) g.2.2.1.2.2 dX8_pairKind_115
      by_cases e_6 : x0_ = 46
      · refine lv_topi (fun z_7 ez_7 => ?_)
        obtain rfl : z_7 = 46 := ez_7.trans e_6
        have kb_46 : bd 46 46 (46 : Int32) := ⟨by decide, by decide⟩
        have b_8 : bd 46 46 x0_ := eqX (eq_f e_6) (bdT x0_) kb_46 (by decide)
        refine lv_lookup (off := 34) (tgt := 108) hx hb dX8_pairKind_74 (by decide) (by decide) (by decide) ?_
        refine lv_sipush (v := 200) hx hb dX8_pairKind_108 (by decide) ?_
        have kb_200 : bd 200 200 (200 : Int32) := ⟨by decide, by decide⟩
        subst hQ
        exact W.iret (v := 200) hx hb hr (fun t ht hW => ⟨⟨_, _, rfl, ⟨(bd_sub kb_200 (by decide)), trivial⟩, q3_of g hK ht hW⟩, g.2.2.1.F ht⟩) g.2.2.1.2.2 dX8_pairKind_111
      by_cases e_9 : x0_ = 124
      · refine lv_topi (fun z_10 ez_10 => ?_)
        obtain rfl : z_10 = 124 := ez_10.trans e_9
        have kb_124 : bd 124 124 (124 : Int32) := ⟨by decide, by decide⟩
        have b_11 : bd 124 124 x0_ := eqX (eq_f e_9) (bdT x0_) kb_124 (by decide)
        refine lv_lookup (off := 42) (tgt := 116) hx hb dX8_pairKind_74 (by decide) (by decide) (by decide) ?_
        refine lv_sipush (v := 206) hx hb dX8_pairKind_116 (by decide) ?_
        have kb_206 : bd 206 206 (206 : Int32) := ⟨by decide, by decide⟩
        subst hQ
        exact W.iret (v := 206) hx hb hr (fun t ht hW => ⟨⟨_, _, rfl, ⟨(bd_sub kb_206 (by decide)), trivial⟩, q3_of g hK ht hW⟩, g.2.2.1.F ht⟩) g.2.2.1.2.2 dX8_pairKind_119
      refine lv_lookup (off := 46) (tgt := 120) hx hb dX8_pairKind_74 (by decide) (by have a0 : x0_.toInt ≠ 38 := fun h => e_3 (Int32.toInt_inj.mp (h.trans (by decide))); have a1 : x0_.toInt ≠ 46 := fun h => e_6 (Int32.toInt_inj.mp (h.trans (by decide))); have a2 : x0_.toInt ≠ 124 := fun h => e_9 (Int32.toInt_inj.mp (h.trans (by decide))); simp [Op.lookupswitch.offset, a0, a1, a2, Ne.symm]) (by decide) ?_
      refine lv_iconst (v := 2) hx hb dX8_pairKind_120 (by decide) ?_
      have kb_2 : bd 2 2 (2 : Int32) := ⟨by decide, by decide⟩
      subst hQ
      exact W.iret (v := 2) hx hb hr (fun t ht hW => ⟨⟨_, _, rfl, ⟨(bd_sub kb_2 (by decide)), trivial⟩, q3_of g hK ht hW⟩, g.2.2.1.F ht⟩) g.2.2.1.2.2 dX8_pairKind_121
    · have fc_2 := neq_f c_2
      refine lv_iconst (v := 2) hx hb dX8_pairKind_71 (by decide) ?_
      have kb_2 : bd 2 2 (2 : Int32) := ⟨by decide, by decide⟩
      subst hQ
      exact W.iret (v := 2) hx hb hr (fun t ht hW => ⟨⟨_, _, rfl, ⟨(bd_sub kb_2 (by decide)), trivial⟩, q3_of g hK ht hW⟩, g.2.2.1.F ht⟩) g.2.2.1.2.2 dX8_pairKind_72
  · have fc_1 := eq_f c_1
    have b_12 : bd 61 61 x1_ := eqX fc_1 (bdT x1_) kb_61 (by decide)
    refine lv_iload_n hx hb dX8_pairKind_6 rfl (lv_at hl 0 rfl) ?_
    by_cases e_13 : x0_ = 33
    · refine lv_topi (fun z_14 ez_14 => ?_)
      obtain rfl : z_14 = 33 := ez_14.trans e_13
      have kb_33 : bd 33 33 (33 : Int32) := ⟨by decide, by decide⟩
      have b_15 : bd 33 33 x0_ := eqX (eq_f e_13) (bdT x0_) kb_33 (by decide)
      refine lv_lookup (off := 45) (tgt := 52) hx hb dX8_pairKind_7 (by decide) (by decide) (by decide) ?_
      refine lv_sipush (v := 202) hx hb dX8_pairKind_52 (by decide) ?_
      have kb_202 : bd 202 202 (202 : Int32) := ⟨by decide, by decide⟩
      subst hQ
      exact W.iret (v := 202) hx hb hr (fun t ht hW => ⟨⟨_, _, rfl, ⟨(bd_sub kb_202 (by decide)), trivial⟩, q3_of g hK ht hW⟩, g.2.2.1.F ht⟩) g.2.2.1.2.2 dX8_pairKind_55
    by_cases e_16 : x0_ = 60
    · refine lv_topi (fun z_17 ez_17 => ?_)
      obtain rfl : z_17 = 60 := ez_17.trans e_16
      have kb_60 : bd 60 60 (60 : Int32) := ⟨by decide, by decide⟩
      have b_18 : bd 60 60 x0_ := eqX (eq_f e_16) (bdT x0_) kb_60 (by decide)
      refine lv_lookup (off := 49) (tgt := 56) hx hb dX8_pairKind_7 (by decide) (by decide) (by decide) ?_
      refine lv_sipush (v := 203) hx hb dX8_pairKind_56 (by decide) ?_
      have kb_203 : bd 203 203 (203 : Int32) := ⟨by decide, by decide⟩
      subst hQ
      exact W.iret (v := 203) hx hb hr (fun t ht hW => ⟨⟨_, _, rfl, ⟨(bd_sub kb_203 (by decide)), trivial⟩, q3_of g hK ht hW⟩, g.2.2.1.F ht⟩) g.2.2.1.2.2 dX8_pairKind_59
    by_cases e_19 : x0_ = 61
    · refine lv_topi (fun z_20 ez_20 => ?_)
      obtain rfl : z_20 = 61 := ez_20.trans e_19
      have b_21 : bd 61 61 x0_ := eqX (eq_f e_19) (bdT x0_) kb_61 (by decide)
      refine lv_lookup (off := 41) (tgt := 48) hx hb dX8_pairKind_7 (by decide) (by decide) (by decide) ?_
      refine lv_sipush (v := 201) hx hb dX8_pairKind_48 (by decide) ?_
      have kb_201 : bd 201 201 (201 : Int32) := ⟨by decide, by decide⟩
      subst hQ
      exact W.iret (v := 201) hx hb hr (fun t ht hW => ⟨⟨_, _, rfl, ⟨(bd_sub kb_201 (by decide)), trivial⟩, q3_of g hK ht hW⟩, g.2.2.1.F ht⟩) g.2.2.1.2.2 dX8_pairKind_51
    by_cases e_22 : x0_ = 62
    · refine lv_topi (fun z_23 ez_23 => ?_)
      obtain rfl : z_23 = 62 := ez_23.trans e_22
      have kb_62 : bd 62 62 (62 : Int32) := ⟨by decide, by decide⟩
      have b_24 : bd 62 62 x0_ := eqX (eq_f e_22) (bdT x0_) kb_62 (by decide)
      refine lv_lookup (off := 53) (tgt := 60) hx hb dX8_pairKind_7 (by decide) (by decide) (by decide) ?_
      refine lv_sipush (v := 204) hx hb dX8_pairKind_60 (by decide) ?_
      have kb_204 : bd 204 204 (204 : Int32) := ⟨by decide, by decide⟩
      subst hQ
      exact W.iret (v := 204) hx hb hr (fun t ht hW => ⟨⟨_, _, rfl, ⟨(bd_sub kb_204 (by decide)), trivial⟩, q3_of g hK ht hW⟩, g.2.2.1.F ht⟩) g.2.2.1.2.2 dX8_pairKind_63
    refine lv_lookup (off := 57) (tgt := 64) hx hb dX8_pairKind_7 (by decide) (by have a0 : x0_.toInt ≠ 33 := fun h => e_13 (Int32.toInt_inj.mp (h.trans (by decide))); have a1 : x0_.toInt ≠ 60 := fun h => e_16 (Int32.toInt_inj.mp (h.trans (by decide))); have a2 : x0_.toInt ≠ 61 := fun h => e_19 (Int32.toInt_inj.mp (h.trans (by decide))); have a3 : x0_.toInt ≠ 62 := fun h => e_22 (Int32.toInt_inj.mp (h.trans (by decide))); simp [Op.lookupswitch.offset, a0, a1, a2, a3, Ne.symm]) (by decide) ?_
    refine lv_iconst (v := 2) hx hb dX8_pairKind_64 (by decide) ?_
    have kb_2 : bd 2 2 (2 : Int32) := ⟨by decide, by decide⟩
    subst hQ
    exact W.iret (v := 2) hx hb hr (fun t ht hW => ⟨⟨_, _, rfl, ⟨(bd_sub kb_2 (by decide)), trivial⟩, q3_of g hK ht hW⟩, g.2.2.1.F ht⟩) g.2.2.1.2.2 dX8_pairKind_65
set_option maxHeartbeats 4000000 in
set_option maxRecDepth 100000 in
theorem r_X9_beginAs (l : Launch) (dC : Nat → ClassId) (dI : Nat → Nat → Nat) (L : List Nat) (kd : Nat → Nat) (tys : List (ClassId × FieldType)) (f0 : Nat → va_E) (sz : Nat) (hWT : WT L kd tys f0) (a0_ : Nat) (ma0_ : a0_ ∈ L) (ka0_ : kd a0_ = 9) (x1_ : Int64) : Met l yX9_beginAs (.code yX9_beginAs cX9_beginAs 3 none :: lw_g) ({ frames := 0, cells := 0, slots := 0, locals := 0 }) (va_Pc [.ref a0_, .long x1_] (P3 (dC, dI) L tys f0 sz)) (va_Qv (fun (f : Nat → va_E) => (Fs L kd f [(9, 12, a0_, .int (-1)), (9, 11, a0_, .int 0), (9, 10, a0_, .int 0), (9, 8, a0_, .int 0), (9, 7, a0_, .int 0), (9, 2, a0_, .int 0), (9, 1, a0_, .int (-1))])) (Q3 (dC, dI) L kd tys [(9, 0), (9, 1), (9, 2), (9, 7), (9, 8), (9, 10), (9, 11), (9, 12)] [] f0 sz) (pA L sz)) 0 0 (pA L sz) := by
  refine Met.ofW (cc := cX9_beginAs) (maxL := 3) (ret := none) (by decide) rfl ?_
  intro p e s m args below meth c s₁ B hml hv
  obtain ⟨rfl, hsz, hP, hK, hD0⟩ := hv
  have hx := B.exec
  have hb := B.bytes
  have hr := B.returns
  have hts := atoms_spec (ws := (.code yX9_beginAs cX9_beginAs 3 none :: lw_g)) B.pre
  have hown : s.vm.findClass RX9 = some m.cls := findClass_of_methodNamed B.named
  have hlocks := B.notSynchronized
  subst hsz
  have g : G3 (dC, dI) L kd tys s f0 [(9, 0), (9, 1), (9, 2), (9, 7), (9, 8), (9, 10), (9, 11), (9, 12)] [] f0 s.heap [] [] := G3.start hP hD0 hWT Fs.nil
  have hl := lv_entry ([.ref a0_, .long x1_]) (n := 3) (Nat.le_of_ble_eq_true rfl)
  rw [lg_entry_eq]
  generalize (lg_sl ([.ref a0_, .long x1_]) ++ List.replicate (3 - (lg_sl ([.ref a0_, .long x1_])).length) Slot.unset).toArray = ls at hl ⊢
  have hl : lv_has ls 3 [(0, .ref a0_), (1, .long x1_)] := hl
  refine W_q (fun Q hQ => ?_)
  refine lv_aload_n hx hb dX9_beginAs_0 rfl (lv_at hl 0 rfl) ?_
  refine lv_lload_n hx hb dX9_beginAs_1 rfl (lv_at hl 1 rfl) ?_
  refine g_put (C := RX9) (T := TX9) (N := 13) hx hb hts (mc_ inX9) tyX9 tyX9_ok nmX9 hown hK g ma0_ ka0_ (by decide) rfl 0 (by decide) (hts _ (List.mem_cons_of_mem _ t_478)) (fun _ h9 => h9) rfl rfl okV_l rfl rfl (by decide) (Or.inr (Or.inl (by decide))) (fx' := []) rfl dX9_beginAs_2 (fun f H locs g => ?_)
  refine lv_aload_n hx hb dX9_beginAs_5 rfl (lv_at hl 0 rfl) ?_
  refine lv_iconst (v := (-1)) hx hb dX9_beginAs_6 (by decide) ?_
  have kb_m1 : bd (-1) (-1) ((-1) : Int32) := ⟨by decide, by decide⟩
  refine g_put (C := RX9) (T := TX9) (N := 13) hx hb hts (mc_ inX9) tyX9 tyX9_ok nmX9 hown hK g ma0_ ka0_ (by decide) rfl 1 (by decide) (hts _ (List.mem_cons_of_mem _ t_480)) (fun _ h9 => h9) rfl rfl (okV_i (bd_sub kb_m1 (by decide))) rfl rfl (by decide) (Or.inr (Or.inl (by decide))) (fx' := [(9, 0, a0_, .long x1_)]) rfl dX9_beginAs_7 (fun f H locs g => ?_)
  refine lv_aload_n hx hb dX9_beginAs_10 rfl (lv_at hl 0 rfl) ?_
  refine lv_iconst (v := 0) hx hb dX9_beginAs_11 (by decide) ?_
  have kb_0 : bd 0 0 (0 : Int32) := ⟨by decide, by decide⟩
  refine g_put (C := RX9) (T := TX9) (N := 13) hx hb hts (mc_ inX9) tyX9 tyX9_ok nmX9 hown hK g ma0_ ka0_ (by decide) rfl 2 (by decide) (hts _ (List.mem_cons_of_mem _ t_485)) (fun _ h9 => h9) rfl rfl (okV_i (bd_sub kb_0 (by decide))) rfl rfl (by decide) (Or.inr (Or.inl (by decide))) (fx' := [(9, 1, a0_, .int (-1)), (9, 0, a0_, .long x1_)]) rfl dX9_beginAs_12 (fun f H locs g => ?_)
  refine lv_aload_n hx hb dX9_beginAs_15 rfl (lv_at hl 0 rfl) ?_
  refine lv_iconst (v := 0) hx hb dX9_beginAs_16 (by decide) ?_
  refine g_put (C := RX9) (T := TX9) (N := 13) hx hb hts (mc_ inX9) tyX9 tyX9_ok nmX9 hown hK g ma0_ ka0_ (by decide) rfl 7 (by decide) (hts _ (List.mem_cons_of_mem _ t_493)) (fun _ h9 => h9) rfl rfl (okV_i (bd_sub kb_0 (by decide))) rfl rfl (by decide) (Or.inr (Or.inl (by decide))) (fx' := [(9, 2, a0_, .int 0), (9, 1, a0_, .int (-1)), (9, 0, a0_, .long x1_)]) rfl dX9_beginAs_17 (fun f H locs g => ?_)
  refine lv_aload_n hx hb dX9_beginAs_20 rfl (lv_at hl 0 rfl) ?_
  refine lv_iconst (v := 0) hx hb dX9_beginAs_21 (by decide) ?_
  refine g_put (C := RX9) (T := TX9) (N := 13) hx hb hts (mc_ inX9) tyX9 tyX9_ok nmX9 hown hK g ma0_ ka0_ (by decide) rfl 8 (by decide) (hts _ (List.mem_cons_of_mem _ t_497)) (fun _ h9 => h9) rfl rfl (okV_i (bd_sub kb_0 (by decide))) rfl rfl (by decide) (Or.inr (Or.inl (by decide))) (fx' := [(9, 7, a0_, .int 0), (9, 2, a0_, .int 0), (9, 1, a0_, .int (-1)), (9, 0, a0_, .long x1_)]) rfl dX9_beginAs_22 (fun f H locs g => ?_)
  refine lv_aload_n hx hb dX9_beginAs_25 rfl (lv_at hl 0 rfl) ?_
  refine lv_iconst (v := 0) hx hb dX9_beginAs_26 (by decide) ?_
  refine g_put (C := RX9) (T := TX9) (N := 13) hx hb hts (mc_ inX9) tyX9 tyX9_ok nmX9 hown hK g ma0_ ka0_ (by decide) rfl 10 (by decide) (hts _ (List.mem_cons_of_mem _ t_511)) (fun _ h9 => h9) rfl rfl (okV_i (bd_sub kb_0 (by decide))) rfl rfl (by decide) (Or.inr (Or.inl (by decide))) (fx' := [(9, 8, a0_, .int 0), (9, 7, a0_, .int 0), (9, 2, a0_, .int 0), (9, 1, a0_, .int (-1)), (9, 0, a0_, .long x1_)]) rfl dX9_beginAs_27 (fun f H locs g => ?_)
  refine lv_aload_n hx hb dX9_beginAs_30 rfl (lv_at hl 0 rfl) ?_
  refine lv_iconst (v := 0) hx hb dX9_beginAs_31 (by decide) ?_
  refine g_put (C := RX9) (T := TX9) (N := 13) hx hb hts (mc_ inX9) tyX9 tyX9_ok nmX9 hown hK g ma0_ ka0_ (by decide) rfl 11 (by decide) (hts _ (List.mem_cons_of_mem _ t_514)) (fun _ h9 => h9) rfl rfl (okV_i (bd_sub kb_0 (by decide))) rfl rfl (by decide) (Or.inr (Or.inl (by decide))) (fx' := [(9, 10, a0_, .int 0), (9, 8, a0_, .int 0), (9, 7, a0_, .int 0), (9, 2, a0_, .int 0), (9, 1, a0_, .int (-1)), (9, 0, a0_, .long x1_)]) rfl dX9_beginAs_32 (fun f H locs g => ?_)
  refine lv_aload_n hx hb dX9_beginAs_35 rfl (lv_at hl 0 rfl) ?_
  refine lv_iconst (v := (-1)) hx hb dX9_beginAs_36 (by decide) ?_
  refine g_put (C := RX9) (T := TX9) (N := 13) hx hb hts (mc_ inX9) tyX9 tyX9_ok nmX9 hown hK g ma0_ ka0_ (by decide) rfl 12 (by decide) (hts _ (List.mem_cons_of_mem _ t_518)) (fun _ h9 => h9) rfl rfl (okV_i (bd_sub kb_m1 (by decide))) rfl rfl (by decide) (Or.inr (Or.inl (by decide))) (fx' := [(9, 11, a0_, .int 0), (9, 10, a0_, .int 0), (9, 8, a0_, .int 0), (9, 7, a0_, .int 0), (9, 2, a0_, .int 0), (9, 1, a0_, .int (-1)), (9, 0, a0_, .long x1_)]) rfl dX9_beginAs_37 (fun f H locs g => ?_)
  subst hQ
  exact W.vret hx hb hr (fun t ht hW => ⟨⟨_, rfl, (g.fcts [0, 1, 2, 3, 4, 5, 6] rfl), q3_of g hK ht hW⟩, g.2.2.1.F ht⟩) g.2.2.1.2.2 dX9_beginAs_40
set_option maxHeartbeats 4000000 in
set_option maxRecDepth 100000 in
theorem r_X10_useText (l : Launch) (dC : Nat → ClassId) (dI : Nat → Nat → Nat) (L : List Nat) (kd : Nat → Nat) (tys : List (ClassId × FieldType)) (f0 : Nat → va_E) (sz : Nat) (hWT : WT L kd tys f0) (a0_ : Nat) (ma0_ : a0_ ∈ L) (ka0_ : kd a0_ = 10) (a1_ : Nat) (ma1_ : a1_ ∈ L) (ka1_ : kd a1_ = 7) (q0_ : Nat) (mq0_ : q0_ ∈ L) (kq0_ : kd q0_ = 3) (q1_ : Nat) (mq1_ : q1_ ∈ L) (kq1_ : kd q1_ = 4) (hfx : Fs L kd f0 [(10, 2, a0_, .ref q0_), (10, 4, a0_, .ref q1_)]) : Met l yX10_useText (.code yX10_useText cX10_useText 2 none :: lw_g) ({ frames := 2, cells := 0, slots := 0, locals := 42 }) (va_Pc [.ref a0_, .ref a1_] (P3 (dC, dI) L tys f0 sz)) (va_Qv (fun (f : Nat → va_E) => (Fs L kd f [(10, 8, a0_, .int 0), (10, 7, a0_, .int 0), (10, 6, a0_, .int 0), (4, 14, q1_, .int 0), (4, 6, q1_, .int 0), (4, 4, q1_, .int (-1)), (4, 3, q1_, .int (-1)), (4, 2, q1_, .int (-1)), (4, 1, q1_, .int (-1)), (4, 0, q1_, .int 0), (3, 4, q0_, .int 0), (3, 0, q0_, .int 0), (10, 0, a0_, .ref a1_)])) (Q3 (dC, dI) L kd tys [(3, 0), (3, 4), (4, 0), (4, 1), (4, 2), (4, 3), (4, 4), (4, 5), (4, 6), (4, 14), (10, 0), (10, 6), (10, 7), (10, 8)] [130, 131] f0 sz) (pA L sz)) 0 0 (pA L sz) := by
  refine Met.ofW (cc := cX10_useText) (maxL := 2) (ret := none) (by decide) rfl ?_
  intro p e s m args below meth c s₁ B hml hv
  obtain ⟨rfl, hsz, hP, hK, hD0⟩ := hv
  have hx := B.exec
  have hb := B.bytes
  have hr := B.returns
  have hts := atoms_spec (ws := (.code yX10_useText cX10_useText 2 none :: lw_g)) B.pre
  have hown : s.vm.findClass RX10 = some m.cls := findClass_of_methodNamed B.named
  have hlocks := B.notSynchronized
  subst hsz
  have g : G3 (dC, dI) L kd tys s f0 [(3, 0), (3, 4), (4, 0), (4, 1), (4, 2), (4, 3), (4, 4), (4, 5), (4, 6), (4, 14), (10, 0), (10, 6), (10, 7), (10, 8)] [130, 131] f0 s.heap [] [(10, 2, a0_, .ref q0_), (10, 4, a0_, .ref q1_)] := G3.start hP hD0 hWT hfx
  have hl := lv_entry ([.ref a0_, .ref a1_]) (n := 2) (Nat.le_of_ble_eq_true rfl)
  rw [lg_entry_eq]
  generalize (lg_sl ([.ref a0_, .ref a1_]) ++ List.replicate (2 - (lg_sl ([.ref a0_, .ref a1_])).length) Slot.unset).toArray = ls at hl ⊢
  have hl : lv_has ls 2 [(0, .ref a0_), (1, .ref a1_)] := hl
  refine W_q (fun Q hQ => ?_)
  refine lv_aload_n hx hb dX10_useText_0 rfl (lv_at hl 0 rfl) ?_
  refine lv_aload_n hx hb dX10_useText_1 rfl (lv_at hl 1 rfl) ?_
  refine g_put (C := RX10) (T := TX10) (N := 10) hx hb hts (mc_ inX10) tyX10 tyX10_ok nmX10 hown hK g ma0_ ka0_ (by decide) rfl 0 (by decide) (hts _ (List.mem_cons_of_mem _ t_912)) (fun _ h9 => h9) rfl rfl (okV_r ma1_ ka1_ (by decide)) rfl rfl (by decide) (Or.inr (Or.inl (by decide))) (fx' := [(10, 2, a0_, .ref q0_), (10, 4, a0_, .ref q1_)]) rfl dX10_useText_2 (fun f H locs g => ?_)
  refine lv_aload_n hx hb dX10_useText_5 rfl (lv_at hl 0 rfl) ?_
  refine g_getk (C := RX10) (T := TX10) (N := 10) hx hb hts (mc_ inX10) hown hK g rfl 2 (by decide) rfl (hts _ (List.mem_cons_of_mem _ t_914)) (fun _ h9 => h9) 1 rfl dX10_useText_6 ?_
  refine g_callv (va_runV (As := []) (rest := []) ⟨hx, hb, hml, hown, hts⟩ (r_X3_wipe l dC dI L kd tys f H.size g.2.2.2.1 q0_ mq0_ kq0_) (cwV 0 hts (gV_ t_1422 t_1423 t_1424 t_196 t_1425) rfl rfl rfl (by decide +kernel) ⟨(Nat.le_of_ble_eq_true rfl), (Nat.le_of_ble_eq_true rfl)⟩) (pre3V g hK mq0_ kq0_ (by decide) (q := (RX3, TX3, 6)) rfl) rfl rfl hl.1 rfl (lv_room (Nat.le_of_ble_eq_true rfl)) dX10_useText_9 ⟨(Nat.le_of_ble_eq_true rfl), (Nat.le_of_ble_eq_true rfl)⟩) g hK (by decide) (by decide) (fx' := [(10, 0, a0_, .ref a1_), (10, 2, a0_, .ref q0_), (10, 4, a0_, .ref q1_)]) rfl (fun fr_1 H locs hp hMr_1 g => ?_)
  have hF_2 := hp
  have g := g.more hF_2
  refine lv_aload_n hx hb dX10_useText_12 rfl (lv_at hl 0 rfl) ?_
  refine g_getk (C := RX10) (T := TX10) (N := 10) hx hb hts (mc_ inX10) hown hK g rfl 4 (by decide) rfl (hts _ (List.mem_cons_of_mem _ t_917)) (fun _ h9 => h9) 4 rfl dX10_useText_13 ?_
  refine g_callv (va_runV (As := []) (rest := []) ⟨hx, hb, hml, hown, hts⟩ (r_X4_wipe l dC dI L kd tys fr_1 H.size g.2.2.2.1 q1_ mq1_ kq1_) (cwV 0 hts (gV_ t_1426 t_1427 t_1428 t_197 t_1429) rfl rfl rfl (by decide +kernel) ⟨(Nat.le_of_ble_eq_true rfl), (Nat.le_of_ble_eq_true rfl)⟩) (pre3V g hK mq1_ kq1_ (by decide) (q := (RX4, TX4, 17)) rfl) rfl rfl hl.1 rfl (lv_room (Nat.le_of_ble_eq_true rfl)) dX10_useText_16 ⟨(Nat.le_of_ble_eq_true rfl), (Nat.le_of_ble_eq_true rfl)⟩) g hK (by decide) (by decide) (fx' := [(3, 4, q0_, .int 0), (3, 0, q0_, .int 0), (10, 0, a0_, .ref a1_), (10, 2, a0_, .ref q0_), (10, 4, a0_, .ref q1_)]) rfl (fun fr_3 H locs hp hMr_3 g => ?_)
  have hF_4 := hp
  have g := g.more hF_4
  refine lv_aload_n hx hb dX10_useText_19 rfl (lv_at hl 0 rfl) ?_
  refine lv_iconst (v := 0) hx hb dX10_useText_20 (by decide) ?_
  have kb_0 : bd 0 0 (0 : Int32) := ⟨by decide, by decide⟩
  refine g_put (C := RX10) (T := TX10) (N := 10) hx hb hts (mc_ inX10) tyX10 tyX10_ok nmX10 hown hK g ma0_ ka0_ (by decide) rfl 6 (by decide) (hts _ (List.mem_cons_of_mem _ t_920)) (fun _ h9 => h9) rfl rfl (okV_i (bd_sub kb_0 (by decide))) rfl rfl (by decide) (Or.inr (Or.inl (by decide))) (fx' := [(4, 14, q1_, .int 0), (4, 6, q1_, .int 0), (4, 4, q1_, .int (-1)), (4, 3, q1_, .int (-1)), (4, 2, q1_, .int (-1)), (4, 1, q1_, .int (-1)), (4, 0, q1_, .int 0), (3, 4, q0_, .int 0), (3, 0, q0_, .int 0), (10, 0, a0_, .ref a1_), (10, 2, a0_, .ref q0_), (10, 4, a0_, .ref q1_)]) rfl dX10_useText_21 (fun f H locs g => ?_)
  refine lv_aload_n hx hb dX10_useText_24 rfl (lv_at hl 0 rfl) ?_
  refine lv_iconst (v := 0) hx hb dX10_useText_25 (by decide) ?_
  refine g_put (C := RX10) (T := TX10) (N := 10) hx hb hts (mc_ inX10) tyX10 tyX10_ok nmX10 hown hK g ma0_ ka0_ (by decide) rfl 7 (by decide) (hts _ (List.mem_cons_of_mem _ t_922)) (fun _ h9 => h9) rfl rfl (okV_i (bd_sub kb_0 (by decide))) rfl rfl (by decide) (Or.inr (Or.inl (by decide))) (fx' := [(10, 6, a0_, .int 0), (4, 14, q1_, .int 0), (4, 6, q1_, .int 0), (4, 4, q1_, .int (-1)), (4, 3, q1_, .int (-1)), (4, 2, q1_, .int (-1)), (4, 1, q1_, .int (-1)), (4, 0, q1_, .int 0), (3, 4, q0_, .int 0), (3, 0, q0_, .int 0), (10, 0, a0_, .ref a1_), (10, 2, a0_, .ref q0_), (10, 4, a0_, .ref q1_)]) rfl dX10_useText_26 (fun f H locs g => ?_)
  refine lv_aload_n hx hb dX10_useText_29 rfl (lv_at hl 0 rfl) ?_
  refine lv_iconst (v := 0) hx hb dX10_useText_30 (by decide) ?_
  refine g_put (C := RX10) (T := TX10) (N := 10) hx hb hts (mc_ inX10) tyX10 tyX10_ok nmX10 hown hK g ma0_ ka0_ (by decide) rfl 8 (by decide) (hts _ (List.mem_cons_of_mem _ t_924)) (fun _ h9 => h9) rfl rfl (okV_i (bd_sub kb_0 (by decide))) rfl rfl (by decide) (Or.inr (Or.inl (by decide))) (fx' := [(10, 7, a0_, .int 0), (10, 6, a0_, .int 0), (4, 14, q1_, .int 0), (4, 6, q1_, .int 0), (4, 4, q1_, .int (-1)), (4, 3, q1_, .int (-1)), (4, 2, q1_, .int (-1)), (4, 1, q1_, .int (-1)), (4, 0, q1_, .int 0), (3, 4, q0_, .int 0), (3, 0, q0_, .int 0), (10, 0, a0_, .ref a1_), (10, 2, a0_, .ref q0_), (10, 4, a0_, .ref q1_)]) rfl dX10_useText_31 (fun f H locs g => ?_)
  subst hQ
  exact W.vret hx hb hr (fun t ht hW => ⟨⟨_, rfl, (g.fcts [0, 1, 2, 3, 4, 5, 6, 7, 8, 9, 10, 11, 12] rfl), q3_of g hK ht hW⟩, g.2.2.1.F ht⟩) g.2.2.1.2.2 dX10_useText_34
set_option maxHeartbeats 4000000 in
set_option maxRecDepth 100000 in
theorem r_X10_emptyRow (l : Launch) (dC : Nat → ClassId) (dI : Nat → Nat → Nat) (L : List Nat) (kd : Nat → Nat) (tys : List (ClassId × FieldType)) (f0 : Nat → va_E) (sz : Nat) (hWT : WT L kd tys f0) (a0_ : Nat) (ma0_ : a0_ ∈ L) (ka0_ : kd a0_ = 10) (q0_ : Nat) (mq0_ : q0_ ∈ L) (kq0_ : kd q0_ = 3) (hfx : Fs L kd f0 [(10, 2, a0_, .ref q0_)]) : Met l yX10_emptyRow (.code yX10_emptyRow cX10_emptyRow 1 none :: lw_g) ({ frames := 1, cells := 0, slots := 0, locals := 20 }) (va_Pc [.ref a0_] (P3 (dC, dI) L tys f0 sz)) (va_Qv (fun (f : Nat → va_E) => (Fs L kd f [(10, 8, a0_, .int 0), (3, 4, q0_, .int 0), (3, 0, q0_, .int 0)])) (Q3 (dC, dI) L kd tys [(3, 0), (3, 4), (10, 8)] [] f0 sz) (pA L sz)) 0 0 (pA L sz) := by
  refine Met.ofW (cc := cX10_emptyRow) (maxL := 1) (ret := none) (by decide) rfl ?_
  intro p e s m args below meth c s₁ B hml hv
  obtain ⟨rfl, hsz, hP, hK, hD0⟩ := hv
  have hx := B.exec
  have hb := B.bytes
  have hr := B.returns
  have hts := atoms_spec (ws := (.code yX10_emptyRow cX10_emptyRow 1 none :: lw_g)) B.pre
  have hown : s.vm.findClass RX10 = some m.cls := findClass_of_methodNamed B.named
  have hlocks := B.notSynchronized
  subst hsz
  have g : G3 (dC, dI) L kd tys s f0 [(3, 0), (3, 4), (10, 8)] [] f0 s.heap [] [(10, 2, a0_, .ref q0_)] := G3.start hP hD0 hWT hfx
  have hl := lv_entry ([.ref a0_]) (n := 1) (Nat.le_of_ble_eq_true rfl)
  rw [lg_entry_eq]
  generalize (lg_sl ([.ref a0_]) ++ List.replicate (1 - (lg_sl ([.ref a0_])).length) Slot.unset).toArray = ls at hl ⊢
  have hl : lv_has ls 1 [(0, .ref a0_)] := hl
  refine W_q (fun Q hQ => ?_)
  refine lv_aload_n hx hb dX10_emptyRow_0 rfl (lv_at hl 0 rfl) ?_
  refine g_getk (C := RX10) (T := TX10) (N := 10) hx hb hts (mc_ inX10) hown hK g rfl 2 (by decide) rfl (hts _ (List.mem_cons_of_mem _ t_914)) (fun _ h9 => h9) 0 rfl dX10_emptyRow_1 ?_
  refine g_callv (va_runV (As := []) (rest := []) ⟨hx, hb, hml, hown, hts⟩ (r_X3_wipe l dC dI L kd tys f0 s.heap.size g.2.2.2.1 q0_ mq0_ kq0_) (cwV 0 hts (gV_ t_1422 t_1423 t_1424 t_196 t_1425) rfl rfl rfl (by decide +kernel) ⟨(Nat.le_of_ble_eq_true rfl), (Nat.le_of_ble_eq_true rfl)⟩) (pre3V g hK mq0_ kq0_ (by decide) (q := (RX3, TX3, 6)) rfl) rfl rfl hl.1 rfl (lv_room (Nat.le_of_ble_eq_true rfl)) dX10_emptyRow_4 ⟨(Nat.le_of_ble_eq_true rfl), (Nat.le_of_ble_eq_true rfl)⟩) g hK (by decide) (by decide) (fx' := [(10, 2, a0_, .ref q0_)]) rfl (fun fr_1 H locs hp hMr_1 g => ?_)
  have hF_2 := hp
  have g := g.more hF_2
  refine lv_aload_n hx hb dX10_emptyRow_7 rfl (lv_at hl 0 rfl) ?_
  refine lv_iconst (v := 0) hx hb dX10_emptyRow_8 (by decide) ?_
  have kb_0 : bd 0 0 (0 : Int32) := ⟨by decide, by decide⟩
  refine g_put (C := RX10) (T := TX10) (N := 10) hx hb hts (mc_ inX10) tyX10 tyX10_ok nmX10 hown hK g ma0_ ka0_ (by decide) rfl 8 (by decide) (hts _ (List.mem_cons_of_mem _ t_924)) (fun _ h9 => h9) rfl rfl (okV_i (bd_sub kb_0 (by decide))) rfl rfl (by decide) (Or.inr (Or.inl (by decide))) (fx' := [(3, 4, q0_, .int 0), (3, 0, q0_, .int 0), (10, 2, a0_, .ref q0_)]) rfl dX10_emptyRow_9 (fun f H locs g => ?_)
  subst hQ
  exact W.vret hx hb hr (fun t ht hW => ⟨⟨_, rfl, (g.fcts [0, 1, 2] rfl), q3_of g hK ht hW⟩, g.2.2.1.F ht⟩) g.2.2.1.2.2 dX10_emptyRow_12
set_option maxHeartbeats 4000000 in
set_option maxRecDepth 100000 in
theorem r_X10_tellOfSpare (l : Launch) (dC : Nat → ClassId) (dI : Nat → Nat → Nat) (L : List Nat) (kd : Nat → Nat) (tys : List (ClassId × FieldType)) (f0 : Nat → va_E) (sz : Nat) (hWT : WT L kd tys f0) (a0_ : Nat) (ma0_ : a0_ ∈ L) (ka0_ : kd a0_ = 10) : Met l yX10_tellOfSpare (.code yX10_tellOfSpare cX10_tellOfSpare 3 none :: lw_g) ({ frames := 0, cells := 0, slots := 0, locals := 0 }) (va_Pc [.ref a0_] (P3 (dC, dI) L tys f0 sz)) (va_Qv (fun (f : Nat → va_E) => (Fs L kd f [(10, 8, a0_, .int 1)])) (Q3 (dC, dI) L kd tys [(10, 2), (10, 3), (10, 4), (10, 5), (10, 8)] [] f0 sz) (pA L sz)) 0 0 (pA L sz) := by
  refine Met.ofW (cc := cX10_tellOfSpare) (maxL := 3) (ret := none) (by decide) rfl ?_
  intro p e s m args below meth c s₁ B hml hv
  obtain ⟨rfl, hsz, hP, hK, hD0⟩ := hv
  have hx := B.exec
  have hb := B.bytes
  have hr := B.returns
  have hts := atoms_spec (ws := (.code yX10_tellOfSpare cX10_tellOfSpare 3 none :: lw_g)) B.pre
  have hown : s.vm.findClass RX10 = some m.cls := findClass_of_methodNamed B.named
  have hlocks := B.notSynchronized
  subst hsz
  have g : G3 (dC, dI) L kd tys s f0 [(10, 2), (10, 3), (10, 4), (10, 5), (10, 8)] [] f0 s.heap [] [] := G3.start hP hD0 hWT Fs.nil
  have hl := lv_entry ([.ref a0_]) (n := 3) (Nat.le_of_ble_eq_true rfl)
  rw [lg_entry_eq]
  generalize (lg_sl ([.ref a0_]) ++ List.replicate (3 - (lg_sl ([.ref a0_])).length) Slot.unset).toArray = ls at hl ⊢
  have hl : lv_has ls 3 [(0, .ref a0_)] := hl
  refine W_q (fun Q hQ => ?_)
  refine lv_aload_n hx hb dX10_tellOfSpare_0 rfl (lv_at hl 0 rfl) ?_
  refine g_getr (K := 3) (C := RX10) (T := TX10) (N := 10) hx hb hts (mc_ inX10) hown hK g ma0_ ka0_ (by decide) rfl 2 (by decide) rfl (hts _ (List.mem_cons_of_mem _ t_914)) (fun _ h9 => h9) rfl dX10_tellOfSpare_1 (fun a_1 ma_1 ka_1 g => ?_)
  refine lv_astore_n (lv' := [(1, .ref a_1), (0, .ref a0_)]) hx hb dX10_tellOfSpare_4 rfl hl (by decide) rfl (fun ls hl => ?_)
  refine lv_aload_n hx hb dX10_tellOfSpare_5 rfl (lv_at hl 1 rfl) ?_
  refine lv_aload_n hx hb dX10_tellOfSpare_6 rfl (lv_at hl 1 rfl) ?_
  refine g_getr (K := 3) (C := RX10) (T := TX10) (N := 10) hx hb hts (mc_ inX10) hown hK g ma0_ ka0_ (by decide) rfl 3 (by decide) rfl (hts _ (List.mem_cons_of_mem _ t_916)) (fun _ h9 => h9) rfl dX10_tellOfSpare_7 (fun a_2 ma_2 ka_2 g => ?_)
  refine g_put (C := RX10) (T := TX10) (N := 10) hx hb hts (mc_ inX10) tyX10 tyX10_ok nmX10 hown hK g ma0_ ka0_ (by decide) rfl 2 (by decide) (hts _ (List.mem_cons_of_mem _ t_914)) (fun _ h9 => h9) rfl rfl (okV_r ma_2 ka_2 (by decide)) rfl rfl (by decide) (Or.inr (Or.inl (by decide))) (fx' := [(10, 3, a0_, .ref a_2)]) rfl dX10_tellOfSpare_10 (fun f H locs g => ?_)
  refine lv_aload_n hx hb dX10_tellOfSpare_13 rfl (lv_at hl 1 rfl) ?_
  refine lv_aload_n hx hb dX10_tellOfSpare_14 rfl (lv_at hl 0 rfl) ?_
  refine g_put (C := RX10) (T := TX10) (N := 10) hx hb hts (mc_ inX10) tyX10 tyX10_ok nmX10 hown hK g ma0_ ka0_ (by decide) rfl 3 (by decide) (hts _ (List.mem_cons_of_mem _ t_916)) (fun _ h9 => h9) rfl rfl (okV_r ma_1 ka_1 (by decide)) rfl rfl (by decide) (Or.inr (Or.inl (by decide))) (fx' := [(10, 2, a0_, .ref a_2)]) rfl dX10_tellOfSpare_15 (fun f H locs g => ?_)
  refine lv_aload_n hx hb dX10_tellOfSpare_18 rfl (lv_at hl 1 rfl) ?_
  refine g_getr (K := 4) (C := RX10) (T := TX10) (N := 10) hx hb hts (mc_ inX10) hown hK g ma0_ ka0_ (by decide) rfl 4 (by decide) rfl (hts _ (List.mem_cons_of_mem _ t_917)) (fun _ h9 => h9) rfl dX10_tellOfSpare_19 (fun a_3 ma_3 ka_3 g => ?_)
  refine lv_astore_n (lv' := [(2, .ref a_3), (1, .ref a_1), (0, .ref a0_)]) hx hb dX10_tellOfSpare_22 rfl hl (by decide) rfl (fun ls hl => ?_)
  refine lv_aload_n hx hb dX10_tellOfSpare_23 rfl (lv_at hl 2 rfl) ?_
  refine lv_aload_n hx hb dX10_tellOfSpare_24 rfl (lv_at hl 2 rfl) ?_
  refine g_getr (K := 4) (C := RX10) (T := TX10) (N := 10) hx hb hts (mc_ inX10) hown hK g ma0_ ka0_ (by decide) rfl 5 (by decide) rfl (hts _ (List.mem_cons_of_mem _ t_919)) (fun _ h9 => h9) rfl dX10_tellOfSpare_25 (fun a_4 ma_4 ka_4 g => ?_)
  refine g_put (C := RX10) (T := TX10) (N := 10) hx hb hts (mc_ inX10) tyX10 tyX10_ok nmX10 hown hK g ma0_ ka0_ (by decide) rfl 4 (by decide) (hts _ (List.mem_cons_of_mem _ t_917)) (fun _ h9 => h9) rfl rfl (okV_r ma_4 ka_4 (by decide)) rfl rfl (by decide) (Or.inr (Or.inl (by decide))) (fx' := [(10, 5, a0_, .ref a_4), (10, 3, a0_, .ref a_1), (10, 2, a0_, .ref a_2)]) rfl dX10_tellOfSpare_28 (fun f H locs g => ?_)
  refine lv_aload_n hx hb dX10_tellOfSpare_31 rfl (lv_at hl 2 rfl) ?_
  refine lv_aload_n hx hb dX10_tellOfSpare_32 rfl (lv_at hl 0 rfl) ?_
  refine g_put (C := RX10) (T := TX10) (N := 10) hx hb hts (mc_ inX10) tyX10 tyX10_ok nmX10 hown hK g ma0_ ka0_ (by decide) rfl 5 (by decide) (hts _ (List.mem_cons_of_mem _ t_919)) (fun _ h9 => h9) rfl rfl (okV_r ma_3 ka_3 (by decide)) rfl rfl (by decide) (Or.inr (Or.inl (by decide))) (fx' := [(10, 4, a0_, .ref a_4), (10, 3, a0_, .ref a_1), (10, 2, a0_, .ref a_2)]) rfl dX10_tellOfSpare_33 (fun f H locs g => ?_)
  refine lv_aload_n hx hb dX10_tellOfSpare_36 rfl (lv_at hl 2 rfl) ?_
  refine lv_iconst (v := 1) hx hb dX10_tellOfSpare_37 (by decide) ?_
  have kb_1 : bd 1 1 (1 : Int32) := ⟨by decide, by decide⟩
  refine g_put (C := RX10) (T := TX10) (N := 10) hx hb hts (mc_ inX10) tyX10 tyX10_ok nmX10 hown hK g ma0_ ka0_ (by decide) rfl 8 (by decide) (hts _ (List.mem_cons_of_mem _ t_924)) (fun _ h9 => h9) rfl rfl (okV_i (bd_sub kb_1 (by decide))) rfl rfl (by decide) (Or.inr (Or.inl (by decide))) (fx' := [(10, 5, a0_, .ref a_3), (10, 4, a0_, .ref a_4), (10, 3, a0_, .ref a_1), (10, 2, a0_, .ref a_2)]) rfl dX10_tellOfSpare_38 (fun f H locs g => ?_)
  subst hQ
  exact W.vret hx hb hr (fun t ht hW => ⟨⟨_, rfl, (g.fcts [0] rfl), q3_of g hK ht hW⟩, g.2.2.1.F ht⟩) g.2.2.1.2.2 dX10_tellOfSpare_41
