set_option maxHeartbeats 4000000 in
set_option maxRecDepth 100000 in
theorem r_X11_count (l : Launch) (dC : Nat → ClassId) (dI : Nat → Nat → Nat) (L : List Nat) (kd : Nat → Nat) (tys : List (ClassId × FieldType)) (f0 : Nat → va_E) (sz : Nat) (hWT : WT L kd tys f0) (a0_ : Nat) (ma0_ : a0_ ∈ L) (ka0_ : kd a0_ = 11) (x1_ : Int32) : Met l yX11_count (.code yX11_count cX11_count 2 (some .int) :: lw_g) ({ frames := 0, cells := 0, slots := 0, locals := 0 }) (va_Pc [.ref a0_, .int x1_] (P3 (dC, dI) L tys f0 sz)) (va_Qi (fun (r : Int32) (f : Nat → va_E) => (True)) (Q3 (dC, dI) L kd tys [] [] f0 sz) (pA L sz)) 0 0 (pA L sz) := by
  refine Met.ofW (cc := cX11_count) (maxL := 2) (ret := (some .int)) (by decide) rfl ?_
  intro p e s m args below meth c s₁ B hml hv
  obtain ⟨rfl, hsz, hP, hK, hD0⟩ := hv
  have hx := B.exec
  have hb := B.bytes
  have hr := B.returns
  have hts := atoms_spec (ws := (.code yX11_count cX11_count 2 (some .int) :: lw_g)) B.pre
  have hown : s.vm.findClass RX11 = some m.cls := findClass_of_methodNamed B.named
  have hlocks := B.notSynchronized
  subst hsz
  have g : G3 (dC, dI) L kd tys s f0 [] [] f0 s.heap [] [] := G3.start hP hD0 hWT Fs.nil
  have hl := lv_entry ([.ref a0_, .int x1_]) (n := 2) (Nat.le_of_ble_eq_true rfl)
  rw [lg_entry_eq]
  generalize (lg_sl ([.ref a0_, .int x1_]) ++ List.replicate (2 - (lg_sl ([.ref a0_, .int x1_])).length) Slot.unset).toArray = ls at hl ⊢
  have hl : lv_has ls 2 [(0, .ref a0_), (1, .int x1_)] := hl
  refine W_q (fun Q hQ => ?_)
  refine lv_iload_n hx hb dX11_count_0 rfl (lv_at hl 1 rfl) ?_
  by_cases e_1 : x1_ = 0
  · refine lv_topi (fun z_2 ez_2 => ?_)
    obtain rfl : z_2 = 0 := ez_2.trans e_1
    have kb_0 : bd 0 0 (0 : Int32) := ⟨by decide, by decide⟩
    have b_3 : bd 0 0 x1_ := eqX (eq_f e_1) (bdT x1_) kb_0 (by decide)
    refine lv_tableIn (off := 31) (tgt := 32) hx hb dX11_count_1 (by decide) (by decide) rfl (by decide) ?_
    refine lv_aload_n hx hb dX11_count_32 rfl (lv_at hl 0 rfl) ?_
    refine g_getr (K := 7) (C := RX11) (T := TX11) (N := 8) hx hb hts (mc_ inX11) hown hK g ma0_ ka0_ (by decide) rfl 4 (by decide) rfl (hts _ (List.mem_cons_of_mem _ t_952)) (fun _ h9 => h9) rfl dX11_count_33 (fun a_4 ma_4 ka_4 g => ?_)
    refine g_geti (C := RX7) (T := TX7) (N := 19) hx hb hts (mc_ inX7) hown hK g ma_4 ka_4 (by decide) rfl 1 (by decide) rfl (hts _ (List.mem_cons_of_mem _ t_627)) (fun _ h9 => h9) rfl dX11_count_36 (fun x_5 bx_5 g => ?_)
    subst hQ
    exact W.iret (v := x_5) hx hb hr (fun t ht hW => ⟨⟨_, _, rfl, trivial, q3_of g hK ht hW⟩, g.2.2.1.F ht⟩) g.2.2.1.2.2 dX11_count_39
  by_cases e_6 : x1_ = 1
  · refine lv_topi (fun z_7 ez_7 => ?_)
    obtain rfl : z_7 = 1 := ez_7.trans e_6
    have kb_1 : bd 1 1 (1 : Int32) := ⟨by decide, by decide⟩
    have b_8 : bd 1 1 x1_ := eqX (eq_f e_6) (bdT x1_) kb_1 (by decide)
    refine lv_tableIn (off := 39) (tgt := 40) hx hb dX11_count_1 (by decide) (by decide) rfl (by decide) ?_
    refine lv_aload_n hx hb dX11_count_40 rfl (lv_at hl 0 rfl) ?_
    refine g_geti (C := RX11) (T := TX11) (N := 8) hx hb hts (mc_ inX11) hown hK g ma0_ ka0_ (by decide) rfl 1 (by decide) rfl (hts _ (List.mem_cons_of_mem _ t_949)) (fun _ h9 => h9) rfl dX11_count_41 (fun x_9 bx_9 g => ?_)
    subst hQ
    exact W.iret (v := x_9) hx hb hr (fun t ht hW => ⟨⟨_, _, rfl, trivial, q3_of g hK ht hW⟩, g.2.2.1.F ht⟩) g.2.2.1.2.2 dX11_count_44
  by_cases e_10 : x1_ = 2
  · refine lv_topi (fun z_11 ez_11 => ?_)
    obtain rfl : z_11 = 2 := ez_11.trans e_10
    have kb_2 : bd 2 2 (2 : Int32) := ⟨by decide, by decide⟩
    have b_12 : bd 2 2 x1_ := eqX (eq_f e_10) (bdT x1_) kb_2 (by decide)
    refine lv_tableIn (off := 44) (tgt := 45) hx hb dX11_count_1 (by decide) (by decide) rfl (by decide) ?_
    refine lv_aload_n hx hb dX11_count_45 rfl (lv_at hl 0 rfl) ?_
    refine g_getr (K := 7) (C := RX11) (T := TX11) (N := 8) hx hb hts (mc_ inX11) hown hK g ma0_ ka0_ (by decide) rfl 4 (by decide) rfl (hts _ (List.mem_cons_of_mem _ t_952)) (fun _ h9 => h9) rfl dX11_count_46 (fun a_13 ma_13 ka_13 g => ?_)
    refine g_geti (C := RX7) (T := TX7) (N := 19) hx hb hts (mc_ inX7) hown hK g ma_13 ka_13 (by decide) rfl 18 (by decide) rfl (hts _ (List.mem_cons_of_mem _ t_682)) (fun _ h9 => h9) rfl dX11_count_49 (fun x_14 bx_14 g => ?_)
    subst hQ
    exact W.iret (v := x_14) hx hb hr (fun t ht hW => ⟨⟨_, _, rfl, trivial, q3_of g hK ht hW⟩, g.2.2.1.F ht⟩) g.2.2.1.2.2 dX11_count_52
  by_cases e_15 : x1_ = 3
  · refine lv_topi (fun z_16 ez_16 => ?_)
    obtain rfl : z_16 = 3 := ez_16.trans e_15
    have kb_3 : bd 3 3 (3 : Int32) := ⟨by decide, by decide⟩
    have b_17 : bd 3 3 x1_ := eqX (eq_f e_15) (bdT x1_) kb_3 (by decide)
    refine lv_tableIn (off := 52) (tgt := 53) hx hb dX11_count_1 (by decide) (by decide) rfl (by decide) ?_
    refine lv_aload_n hx hb dX11_count_53 rfl (lv_at hl 0 rfl) ?_
    refine g_getr (K := 10) (C := RX11) (T := TX11) (N := 8) hx hb hts (mc_ inX11) hown hK g ma0_ ka0_ (by decide) rfl 3 (by decide) rfl (hts _ (List.mem_cons_of_mem _ t_951)) (fun _ h9 => h9) rfl dX11_count_54 (fun a_18 ma_18 ka_18 g => ?_)
    refine g_getr (K := 4) (C := RX10) (T := TX10) (N := 10) hx hb hts (mc_ inX10) hown hK g ma_18 ka_18 (by decide) rfl 4 (by decide) rfl (hts _ (List.mem_cons_of_mem _ t_918)) (fun _ h9 => h9) rfl dX11_count_57 (fun a_19 ma_19 ka_19 g => ?_)
    refine g_geti (C := RX4) (T := TX4) (N := 17) hx hb hts (mc_ inX4) hown hK g ma_19 ka_19 (by decide) rfl 6 (by decide) rfl (hts _ (List.mem_cons_of_mem _ t_852)) (fun _ h9 => h9) rfl dX11_count_60 (fun x_20 bx_20 g => ?_)
    subst hQ
    exact W.iret (v := x_20) hx hb hr (fun t ht hW => ⟨⟨_, _, rfl, trivial, q3_of g hK ht hW⟩, g.2.2.1.F ht⟩) g.2.2.1.2.2 dX11_count_63
  refine lv_tableOut (tgt := 64) hx hb dX11_count_1 (by have a0 : x1_.toInt ≠ 0 := fun h => e_1 (Int32.toInt_inj.mp (h.trans (by decide))); have a1 : x1_.toInt ≠ 1 := fun h => e_6 (Int32.toInt_inj.mp (h.trans (by decide))); have a2 : x1_.toInt ≠ 2 := fun h => e_10 (Int32.toInt_inj.mp (h.trans (by decide))); have a3 : x1_.toInt ≠ 3 := fun h => e_15 (Int32.toInt_inj.mp (h.trans (by decide))); omega) (by decide) ?_
  refine lv_iconst (v := (-1)) hx hb dX11_count_64 (by decide) ?_
  subst hQ
  exact W.iret (v := (-1)) hx hb hr (fun t ht hW => ⟨⟨_, _, rfl, trivial, q3_of g hK ht hW⟩, g.2.2.1.F ht⟩) g.2.2.1.2.2 dX11_count_65
