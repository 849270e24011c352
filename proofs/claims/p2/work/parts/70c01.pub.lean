set_option maxHeartbeats 4000000 in
set_option maxRecDepth 100000 in
theorem r_X11_make (l : Launch) (dC : Nat → ClassId) (dI : Nat → Nat → Nat) (L : List Nat) (kd : Nat → Nat) (tys : List (ClassId × FieldType)) (f0 : Nat → va_E) (sz : Nat) (hWT : WT L kd tys f0) (a0_ : Nat) (ma0_ : a0_ ∈ L) (ka0_ : kd a0_ = 11) (x1_ : Int32) : Met l yX11_make (.code yX11_make cX11_make 2 (some .int) :: lw_g) ({ frames := 3, cells := 0, slots := 0, locals := 68 }) (va_Pc [.ref a0_, .int x1_] (P3 (dC, dI) L tys f0 sz)) (va_Qi (fun (r : Int32) (f : Nat → va_E) => (bd (-3) 2 r ∧ True)) (Q3 (dC, dI) L kd tys [(3, 0), (3, 4), (10, 8)] [103, 122, 123, 125, 130, 131] f0 sz) (pA L sz)) 0 0 (pA L sz) := by
  refine Met.ofW (cc := cX11_make) (maxL := 2) (ret := (some .int)) (by decide) rfl ?_
  intro p e s m args below meth c s₁ B hml hv
  obtain ⟨rfl, hsz, hP, hK, hD0⟩ := hv
  have hx := B.exec
  have hb := B.bytes
  have hr := B.returns
  have hts := atoms_spec (ws := (.code yX11_make cX11_make 2 (some .int) :: lw_g)) B.pre
  have hown : s.vm.findClass RX11 = some m.cls := findClass_of_methodNamed B.named
  have hlocks := B.notSynchronized
  subst hsz
  have g : G3 (dC, dI) L kd tys s f0 [(3, 0), (3, 4), (10, 8)] [103, 122, 123, 125, 130, 131] f0 s.heap [] [] := G3.start hP hD0 hWT Fs.nil
  have hl := lv_entry ([.ref a0_, .int x1_]) (n := 2) (Nat.le_of_ble_eq_true rfl)
  rw [lg_entry_eq]
  generalize (lg_sl ([.ref a0_, .int x1_]) ++ List.replicate (2 - (lg_sl ([.ref a0_, .int x1_])).length) Slot.unset).toArray = ls at hl ⊢
  have hl : lv_has ls 2 [(0, .ref a0_), (1, .int x1_)] := hl
  refine W_q (fun Q hQ => ?_)
  refine lv_aload_n hx hb dX11_make_0 rfl (lv_at hl 0 rfl) ?_
  refine g_getr (K := 7) (C := RX11) (T := TX11) (N := 8) hx hb hts (mc_ inX11) hown hK g ma0_ ka0_ (by decide) rfl 4 (by decide) rfl (hts _ (List.mem_cons_of_mem _ t_952)) (fun _ h9 => h9) rfl dX11_make_1 (fun a_1 ma_1 ka_1 g => ?_)
  refine lv_iload_n hx hb dX11_make_4 rfl (lv_at hl 1 rfl) ?_
  refine g_calli (va_runV (As := [.int x1_]) (rest := []) ⟨hx, hb, hml, hown, hts⟩ (r_X7_hasClass l dC dI L kd tys f0 s.heap.size g.2.2.2.1 a_1 ma_1 ka_1 x1_) (cwV 1 hts (gV_ t_1442 t_1281 t_1282 t_191 t_1283) rfl rfl rfl (by decide +kernel) ⟨(Nat.le_of_ble_eq_true rfl), (Nat.le_of_ble_eq_true rfl)⟩) (pre3V g hK ma_1 ka_1 (by decide) (q := (RX7, TX7, 19)) rfl) rfl rfl hl.1 rfl (lv_room (Nat.le_of_ble_eq_true rfl)) dX11_make_5 ⟨(Nat.le_of_ble_eq_true rfl), (Nat.le_of_ble_eq_true rfl)⟩) g hK (by decide) (by decide) (fx' := [(11, 4, a0_, .ref a_1)]) rfl (fun r_2 fr_2 H locs hp hMr_2 g => ?_)
  rcases hp with ⟨h_3, -⟩ | ⟨h_4, h_5, x_6, h_7, hF_8⟩
  · obtain rfl : r_2 = 0 := h_3
    refine lv_if_ne (tgt := 14) hx hb dX11_make_8 (by decide) (fun c_ => absurd c_ (by decide)) (fun c_ => ?_)
    refine lv_bipush (v := (-2)) hx hb dX11_make_11 (by decide) ?_
    have kb_m2 : bd (-2) (-2) ((-2) : Int32) := ⟨by decide, by decide⟩
    subst hQ
    exact W.iret (v := (-2)) hx hb hr (fun t ht hW => ⟨⟨_, _, rfl, ⟨(bd_sub kb_m2 (by decide)), trivial⟩, q3_of g hK ht hW⟩, g.2.2.1.F ht⟩) g.2.2.1.2.2 dX11_make_13
  · obtain rfl : r_2 = 1 := h_4
    have b_9 : bd 0 7 x1_ := eqX rfl (bdT x1_) h_5 (by decide)
    have g := g.more hF_8
    refine lv_if_ne (tgt := 14) hx hb dX11_make_8 (by decide) (fun c_ => ?_) (fun c_ => absurd c_ (by decide))
    refine lv_aload_n hx hb dX11_make_14 rfl (lv_at hl 0 rfl) ?_
    refine g_getr (K := 10) (C := RX11) (T := TX11) (N := 8) hx hb hts (mc_ inX11) hown hK g ma0_ ka0_ (by decide) rfl 3 (by decide) rfl (hts _ (List.mem_cons_of_mem _ t_951)) (fun _ h9 => h9) rfl dX11_make_15 (fun a_10 ma_10 ka_10 g => ?_)
    refine g_getr (K := 3) (C := RX10) (T := TX10) (N := 10) hx hb hts (mc_ inX10) hown hK g ma_10 ka_10 (by decide) rfl 2 (by decide) rfl (hts _ (List.mem_cons_of_mem _ t_915)) (fun _ h9 => h9) rfl dX11_make_18 (fun a_11 ma_11 ka_11 g => ?_)
    refine g_calli (va_runV (As := []) (rest := []) ⟨hx, hb, hml, hown, hts⟩ (r_X3_roomForMake l dC dI L kd tys fr_2 H.size g.2.2.2.1 a_11 ma_11 ka_11) (cwV 0 hts (gV_ t_1472 t_1473 t_1474 t_196 t_1475) rfl rfl rfl (by decide +kernel) ⟨(Nat.le_of_ble_eq_true rfl), (Nat.le_of_ble_eq_true rfl)⟩) (pre3V g hK ma_11 ka_11 (by decide) (q := (RX3, TX3, 6)) rfl) rfl rfl hl.1 rfl (lv_room (Nat.le_of_ble_eq_true rfl)) dX11_make_21 ⟨(Nat.le_of_ble_eq_true rfl), (Nat.le_of_ble_eq_true rfl)⟩) g hK (by decide) (by decide) (fx' := [(10, 2, a_10, .ref a_11), (11, 3, a0_, .ref a_10), (7, 1, a_1, .int x_6), (11, 4, a0_, .ref a_1)]) rfl (fun r_12 fr_12 H locs hp hMr_12 g => ?_)
    rcases hp with ⟨h_13, -⟩ | ⟨h_14, x_15, h_16, x_17, h_18, hF_19⟩
    · obtain rfl : r_12 = 0 := h_13
      refine lv_if_ne (tgt := 30) hx hb dX11_make_24 (by decide) (fun c_ => absurd c_ (by decide)) (fun c_ => ?_)
      refine lv_bipush (v := (-3)) hx hb dX11_make_27 (by decide) ?_
      have kb_m3 : bd (-3) (-3) ((-3) : Int32) := ⟨by decide, by decide⟩
      subst hQ
      exact W.iret (v := (-3)) hx hb hr (fun t ht hW => ⟨⟨_, _, rfl, ⟨(bd_sub kb_m3 (by decide)), trivial⟩, q3_of g hK ht hW⟩, g.2.2.1.F ht⟩) g.2.2.1.2.2 dX11_make_29
    · obtain rfl : r_12 = 1 := h_14
      have g := g.more hF_19
      refine lv_if_ne (tgt := 30) hx hb dX11_make_24 (by decide) (fun c_ => ?_) (fun c_ => absurd c_ (by decide))
      refine lv_aload_n hx hb dX11_make_30 rfl (lv_at hl 0 rfl) ?_
      refine g_getk (C := RX11) (T := TX11) (N := 8) hx hb hts (mc_ inX11) hown hK g rfl 3 (by decide) rfl (hts _ (List.mem_cons_of_mem _ t_951)) (fun _ h9 => h9) 3 rfl dX11_make_31 ?_
      refine lv_iload_n hx hb dX11_make_34 rfl (lv_at hl 1 rfl) ?_
      refine g_calli (va_runV (As := [.int x1_]) (rest := []) ⟨hx, hb, hml, hown, hts⟩ (r_X10_appendMake l dC dI L kd tys fr_12 H.size g.2.2.2.1 a_10 ma_10 ka_10 x1_ b_9) (cwV 1 hts (gV_ t_1476 t_1477 t_1478 t_194 t_1479) rfl rfl rfl (by decide +kernel) ⟨(Nat.le_of_ble_eq_true rfl), (Nat.le_of_ble_eq_true rfl)⟩) (pre3V g hK ma_10 ka_10 (by decide) (q := (RX10, TX10, 10)) rfl) rfl rfl hl.1 rfl (lv_room (Nat.le_of_ble_eq_true rfl)) dX11_make_35 ⟨(Nat.le_of_ble_eq_true rfl), (Nat.le_of_ble_eq_true rfl)⟩) g hK (by decide) (by decide) (fx' := [(10, 2, a_10, .ref a_11), (11, 3, a0_, .ref a_10), (7, 1, a_1, .int x_6), (11, 4, a0_, .ref a_1)]) rfl (fun r_20 fr_20 H locs hp hMr_20 g => ?_)
      obtain ⟨h_21, hF_22⟩ := hp
      have g := g.more hF_22
      subst hQ
      exact W.iret (v := r_20) hx hb hr (fun t ht hW => ⟨⟨_, _, rfl, ⟨(bd_sub h_21 (by decide)), trivial⟩, q3_of g hK ht hW⟩, g.2.2.1.F ht⟩) g.2.2.1.2.2 dX11_make_38
set_option maxHeartbeats 4000000 in
set_option maxRecDepth 100000 in
theorem r_X3_tellingOf (l : Launch) (dC : Nat → ClassId) (dI : Nat → Nat → Nat) (L : List Nat) (kd : Nat → Nat) (tys : List (ClassId × FieldType)) (f0 : Nat → va_E) (sz : Nat) (hWT : WT L kd tys f0) (a0_ : Nat) (ma0_ : a0_ ∈ L) (ka0_ : kd a0_ = 3) (a1_ : Nat) (ma1_ : a1_ ∈ L) (ka1_ : kd a1_ = 7) (x2_ : Int32) (bx2_ : bd 0 2 x2_) (x3_ : Int32) (bx3_ : bd 0 11 x3_) (y0_ : Int32) (by0_ : bd 1 8 y0_) (y1_ : Int32) (by1_ : bd 1 3 y1_) (hfx : Fs L kd f0 [(7, 1, a1_, .int y0_), (3, 4, a0_, .int y1_)]) : Met l yX3_tellingOf (.code yX3_tellingOf cX3_tellingOf 4 (some (.object "TrialGarden$Telling")) :: lw_g) ({ frames := 0, cells := 0, slots := 0, locals := 0 }) (va_Pc [.ref a0_, .ref a1_, .int x2_, .int x3_] (P3 (dC, dI) L tys f0 sz)) (va_Qr (fun (_ : Nat → va_E) => True) (fun u b t => (b ∈ L ∧ kd b = 6) ∧ Q3 (dC, dI) L kd tys [] [] f0 sz u t) (pA L sz)) 0 0 (pA L sz) := by
  refine Met.ofW (cc := cX3_tellingOf) (maxL := 4) (ret := (some (.object "TrialGarden$Telling"))) (by decide) rfl ?_
  intro p e s m args below meth c s₁ B hml hv
  obtain ⟨rfl, hsz, hP, hK, hD0⟩ := hv
  have hx := B.exec
  have hb := B.bytes
  have hr := B.returns
  have hts := atoms_spec (ws := (.code yX3_tellingOf cX3_tellingOf 4 (some (.object "TrialGarden$Telling")) :: lw_g)) B.pre
  have hown : s.vm.findClass RX3 = some m.cls := findClass_of_methodNamed B.named
  have hlocks := B.notSynchronized
  subst hsz
  have g : G3 (dC, dI) L kd tys s f0 [] [] f0 s.heap [] [(7, 1, a1_, .int y0_), (3, 4, a0_, .int y1_)] := G3.start hP hD0 hWT hfx
  have hl := lv_entry ([.ref a0_, .ref a1_, .int x2_, .int x3_]) (n := 4) (Nat.le_of_ble_eq_true rfl)
  rw [lg_entry_eq]
  generalize (lg_sl ([.ref a0_, .ref a1_, .int x2_, .int x3_]) ++ List.replicate (4 - (lg_sl ([.ref a0_, .ref a1_, .int x2_, .int x3_])).length) Slot.unset).toArray = ls at hl ⊢
  have hl : lv_has ls 4 [(0, .ref a0_), (1, .ref a1_), (2, .int x2_), (3, .int x3_)] := hl
  refine W_q (fun Q hQ => ?_)
  refine lv_aload_n hx hb dX3_tellingOf_0 rfl (lv_at hl 1 rfl) ?_
  refine g_getr (K := 137) (C := RX7) (T := TX7) (N := 19) hx hb hts (mc_ inX7) hown hK g ma1_ ka1_ (by decide) rfl 2 (by decide) rfl (hts _ (List.mem_cons_of_mem _ t_631)) (fun _ h9 => h9) rfl dX3_tellingOf_1 (fun a_1 ma_1 ka_1 g => ?_)
  refine lv_aload_n hx hb dX3_tellingOf_4 rfl (lv_at hl 1 rfl) ?_
  refine g_getr (K := 136) (C := RX7) (T := TX7) (N := 19) hx hb hts (mc_ inX7) hown hK g ma1_ ka1_ (by decide) rfl 0 (by decide) rfl (hts _ (List.mem_cons_of_mem _ t_622)) (fun _ h9 => h9) rfl dX3_tellingOf_5 (fun a_2 ma_2 ka_2 g => ?_)
  refine lv_aload_n hx hb dX3_tellingOf_8 rfl (lv_at hl 0 rfl) ?_
  refine g_getr (K := 125) (C := RX3) (T := TX3) (N := 6) hx hb hts (mc_ inX3) hown hK g ma0_ ka0_ (by decide) rfl 5 (by decide) rfl (hts _ (List.mem_cons_of_mem _ t_815)) (fun _ h9 => h9) rfl dX3_tellingOf_9 (fun a_3 ma_3 ka_3 g => ?_)
  refine lv_iload_n hx hb dX3_tellingOf_12 rfl (lv_at hl 2 rfl) ?_
  refine g_iald hx hb hK g ma_3 ka_3 (by decide) rfl (in_bd bx2_ (by decide)) dX3_tellingOf_13 (fun x_4 bx_4 cx_4 => ?_)
  refine g_aald hx hb hK g ma_2 ka_2 (by decide) rfl (by decide) (in_bd bx_4 (by decide)) dX3_tellingOf_14 (fun a_5 ma_5 ua_5 wa_5 => ?_)
  have ka_5 : kd a_5 = 9 := by omega
  refine g_getr (K := 156) (C := RX9) (T := TX9) (N := 13) hx hb hts (mc_ inX9) hown hK g ma_5 ka_5 (by decide) rfl 9 (by decide) rfl (hts _ (List.mem_cons_of_mem _ t_505)) (fun _ h9 => h9) rfl dX3_tellingOf_15 (fun a_6 ma_6 ka_6 g => ?_)
  refine lv_iload_n hx hb dX3_tellingOf_18 rfl (lv_at hl 3 rfl) ?_
  refine g_iald hx hb hK g ma_6 ka_6 (by decide) rfl (in_bd bx3_ (by decide)) dX3_tellingOf_19 (fun x_7 bx_7 cx_7 => ?_)
  refine g_aald hx hb hK g ma_1 ka_1 (by decide) rfl (by decide) (in_bd bx_7 (by decide)) dX3_tellingOf_20 (fun a_8 ma_8 ua_8 wa_8 => ?_)
  have ka_8 : kd a_8 = 6 := by omega
  subst hQ
  exact W.aret (v := .ref a_8) hx hb hr (Or.inl ⟨_, rfl⟩) (Or.inr ⟨_, rfl⟩) (fun t ht hW => ⟨⟨_, _, rfl, trivial, ⟨ma_8, ka_8⟩, q3_of g hK ht hW⟩, g.2.2.1.F ht⟩) g.2.2.1.2.2 dX3_tellingOf_21
set_option maxHeartbeats 4000000 in
set_option maxRecDepth 100000 in
theorem r_X6_admits (l : Launch) (dC : Nat → ClassId) (dI : Nat → Nat → Nat) (L : List Nat) (kd : Nat → Nat) (tys : List (ClassId × FieldType)) (f0 : Nat → va_E) (sz : Nat) (hWT : WT L kd tys f0) (a0_ : Nat) (ma0_ : a0_ ∈ L) (ka0_ : kd a0_ = 6) (x1_ : Int32) (x2_ : Int32) : Met l yX6_admits (.code yX6_admits cX6_admits 3 (some .boolean) :: lw_g) ({ frames := 0, cells := 0, slots := 0, locals := 0 }) (va_Pc [.ref a0_, .int x1_, .int x2_] (P3 (dC, dI) L tys f0 sz)) (va_Qi (fun (r : Int32) (f : Nat → va_E) => (r = 0 ∧ True) ∨ (r = 1 ∧ True)) (Q3 (dC, dI) L kd tys [] [] f0 sz) (pA L sz)) 0 0 (pA L sz) := by
  refine Met.ofW (cc := cX6_admits) (maxL := 3) (ret := (some .boolean)) (by decide) rfl ?_
  intro p e s m args below meth c s₁ B hml hv
  obtain ⟨rfl, hsz, hP, hK, hD0⟩ := hv
  have hx := B.exec
  have hb := B.bytes
  have hr := B.returns
  have hts := atoms_spec (ws := (.code yX6_admits cX6_admits 3 (some .boolean) :: lw_g)) B.pre
  have hown : s.vm.findClass RX6 = some m.cls := findClass_of_methodNamed B.named
  have hlocks := B.notSynchronized
  subst hsz
  have g : G3 (dC, dI) L kd tys s f0 [] [] f0 s.heap [] [] := G3.start hP hD0 hWT Fs.nil
  have hl := lv_entry ([.ref a0_, .int x1_, .int x2_]) (n := 3) (Nat.le_of_ble_eq_true rfl)
  rw [lg_entry_eq]
  generalize (lg_sl ([.ref a0_, .int x1_, .int x2_]) ++ List.replicate (3 - (lg_sl ([.ref a0_, .int x1_, .int x2_])).length) Slot.unset).toArray = ls at hl ⊢
  have hl : lv_has ls 3 [(0, .ref a0_), (1, .int x1_), (2, .int x2_)] := hl
  refine W_q (fun Q hQ => ?_)
  refine lv_iload_n hx hb dX6_admits_0 rfl (lv_at hl 1 rfl) ?_
  have kb_0 : bd 0 0 (0 : Int32) := ⟨by decide, by decide⟩
  refine lv_if_lt (tgt := 17) hx hb dX6_admits_1 (by decide) (fun c_1 => ?_) (fun c_1 => ?_)
  · have fc_1 := lt_f c_1
    have b_2 : bd (-2147483648) (-1) x1_ := ltL fc_1 (bdT x1_) kb_0 (by decide)
    refine lv_iload_n hx hb dX6_admits_17 rfl (lv_at hl 2 rfl) ?_
    refine lv_if_ne (tgt := 25) hx hb dX6_admits_18 (by decide) (fun c_3 => ?_) (fun c_3 => ?_)
    · have fc_3 := neq_f c_3
      refine lv_iconst (v := 0) hx hb dX6_admits_25 (by decide) ?_
      subst hQ
      exact W.zret (v := 0) hx hb hr (nar_z (bd_sub kb_0 (by decide) : bd 0 1 _).1 (bd_sub kb_0 (by decide) : bd 0 1 _).2) (fun t ht hW => ⟨⟨_, _, rfl, Or.inl ⟨rfl, trivial⟩, q3_of g hK ht hW⟩, g.2.2.1.F ht⟩) g.2.2.1.2.2 dX6_admits_26
    · have fc_3 := eq_f c_3
      have b_4 : bd 0 0 x2_ := eqX fc_3 (bdT x2_) kb_0 (by decide)
      refine lv_iconst (v := 1) hx hb dX6_admits_21 (by decide) ?_
      refine lv_goto (tgt := 26) hx hb dX6_admits_22 (by decide) ?_
      subst hQ
      have kb_1 : bd 1 1 (1 : Int32) := ⟨by decide, by decide⟩
      exact W.zret (v := 1) hx hb hr (nar_z (bd_sub kb_1 (by decide) : bd 0 1 _).1 (bd_sub kb_1 (by decide) : bd 0 1 _).2) (fun t ht hW => ⟨⟨_, _, rfl, Or.inr (⟨rfl, trivial⟩), q3_of g hK ht hW⟩, g.2.2.1.F ht⟩) g.2.2.1.2.2 dX6_admits_26
  · have fc_1 := nlt_f c_1
    have b_5 : bd 0 2147483647 x1_ := leR fc_1 kb_0 (bdT x1_) (by decide)
    refine lv_iload_n hx hb dX6_admits_4 rfl (lv_at hl 1 rfl) ?_
    refine lv_aload_n hx hb dX6_admits_5 rfl (lv_at hl 0 rfl) ?_
    refine g_geti (C := RX6) (T := TX6) (N := 13) hx hb hts (mc_ inX6) hown hK g ma0_ ka0_ (by decide) rfl 3 (by decide) rfl (hts _ (List.mem_cons_of_mem _ t_562)) (fun _ h9 => h9) rfl dX6_admits_6 (fun x_6 bx_6 g => ?_)
    refine lv_icmp_ge (tgt := 17) hx hb dX6_admits_9 (by decide) (fun c_7 => ?_) (fun c_7 => ?_)
    · have fc_7 := le_f c_7
      refine lv_iload_n hx hb dX6_admits_17 rfl (lv_at hl 2 rfl) ?_
      refine lv_if_ne (tgt := 25) hx hb dX6_admits_18 (by decide) (fun c_8 => ?_) (fun c_8 => ?_)
      · have fc_8 := neq_f c_8
        refine lv_iconst (v := 0) hx hb dX6_admits_25 (by decide) ?_
        subst hQ
        exact W.zret (v := 0) hx hb hr (nar_z (bd_sub kb_0 (by decide) : bd 0 1 _).1 (bd_sub kb_0 (by decide) : bd 0 1 _).2) (fun t ht hW => ⟨⟨_, _, rfl, Or.inl ⟨rfl, trivial⟩, q3_of g hK ht hW⟩, g.2.2.1.F ht⟩) g.2.2.1.2.2 dX6_admits_26
      · have fc_8 := eq_f c_8
        have b_9 : bd 0 0 x2_ := eqX fc_8 (bdT x2_) kb_0 (by decide)
        refine lv_iconst (v := 1) hx hb dX6_admits_21 (by decide) ?_
        refine lv_goto (tgt := 26) hx hb dX6_admits_22 (by decide) ?_
        subst hQ
        have kb_1 : bd 1 1 (1 : Int32) := ⟨by decide, by decide⟩
        exact W.zret (v := 1) hx hb hr (nar_z (bd_sub kb_1 (by decide) : bd 0 1 _).1 (bd_sub kb_1 (by decide) : bd 0 1 _).2) (fun t ht hW => ⟨⟨_, _, rfl, Or.inr (⟨rfl, trivial⟩), q3_of g hK ht hW⟩, g.2.2.1.F ht⟩) g.2.2.1.2.2 dX6_admits_26
    · have fc_7 := nle_f c_7
      have b_10 : bd 0 2 x1_ := ltL fc_7 b_5 bx_6 (by decide)
      have b_11 : bd 1 3 x_6 := ltR fc_7 b_5 bx_6 (by decide)
      refine lv_iload_n hx hb dX6_admits_12 rfl (lv_at hl 1 rfl) ?_
      refine lv_iconst (v := 3) hx hb dX6_admits_13 (by decide) ?_
      have kb_3 : bd 3 3 (3 : Int32) := ⟨by decide, by decide⟩
      refine lv_icmp_lt (tgt := 27) hx hb dX6_admits_14 (by decide) (fun c_12 => ?_) (fun c_12 => ?_)
      · have fc_12 := lt_f c_12
        refine lv_iload_n hx hb dX6_admits_27 rfl (lv_at hl 2 rfl) ?_
        refine lv_aload_n hx hb dX6_admits_28 rfl (lv_at hl 0 rfl) ?_
        refine g_getr (K := 134) (C := RX6) (T := TX6) (N := 13) hx hb hts (mc_ inX6) hown hK g ma0_ ka0_ (by decide) rfl 4 (by decide) rfl (hts _ (List.mem_cons_of_mem _ t_569)) (fun _ h9 => h9) rfl dX6_admits_29 (fun a_13 ma_13 ka_13 g => ?_)
        refine lv_iload_n hx hb dX6_admits_32 rfl (lv_at hl 1 rfl) ?_
        refine g_iald hx hb hK g ma_13 ka_13 (by decide) rfl (in_bd b_10 (by decide)) dX6_admits_33 (fun x_14 bx_14 cx_14 => ?_)
        refine lv_icmp_lt (tgt := 51) hx hb dX6_admits_34 (by decide) (fun c_15 => ?_) (fun c_15 => ?_)
        · have fc_15 := lt_f c_15
          have b_16 : bd (-2147483648) 2147483646 x2_ := ltL fc_15 (bdT x2_) (bdT x_14) (by decide)
          have b_17 : bd (-2147483647) 2147483647 x_14 := ltR fc_15 (bdT x2_) (bdT x_14) (by decide)
          refine lv_iconst (v := 0) hx hb dX6_admits_51 (by decide) ?_
          subst hQ
          exact W.zret (v := 0) hx hb hr (nar_z (bd_sub kb_0 (by decide) : bd 0 1 _).1 (bd_sub kb_0 (by decide) : bd 0 1 _).2) (fun t ht hW => ⟨⟨_, _, rfl, Or.inl ⟨rfl, trivial⟩, q3_of g hK ht hW⟩, g.2.2.1.F ht⟩) g.2.2.1.2.2 dX6_admits_52
        · have fc_15 := nlt_f c_15
          refine lv_iload_n hx hb dX6_admits_37 rfl (lv_at hl 2 rfl) ?_
          refine lv_aload_n hx hb dX6_admits_38 rfl (lv_at hl 0 rfl) ?_
          refine g_getr (K := 135) (C := RX6) (T := TX6) (N := 13) hx hb hts (mc_ inX6) hown hK g ma0_ ka0_ (by decide) rfl 5 (by decide) rfl (hts _ (List.mem_cons_of_mem _ t_573)) (fun _ h9 => h9) rfl dX6_admits_39 (fun a_18 ma_18 ka_18 g => ?_)
          refine lv_iload_n hx hb dX6_admits_42 rfl (lv_at hl 1 rfl) ?_
          refine g_iald hx hb hK g ma_18 ka_18 (by decide) rfl (in_bd b_10 (by decide)) dX6_admits_43 (fun x_19 bx_19 cx_19 => ?_)
          refine lv_icmp_gt (tgt := 51) hx hb dX6_admits_44 (by decide) (fun c_20 => ?_) (fun c_20 => ?_)
          · have fc_20 := lt_f c_20
            have b_21 : bd (-2147483648) 2147483646 x_19 := ltL fc_20 (bdT x_19) (bdT x2_) (by decide)
            have b_22 : bd (-2147483647) 2147483647 x2_ := ltR fc_20 (bdT x_19) (bdT x2_) (by decide)
            refine lv_iconst (v := 0) hx hb dX6_admits_51 (by decide) ?_
            subst hQ
            exact W.zret (v := 0) hx hb hr (nar_z (bd_sub kb_0 (by decide) : bd 0 1 _).1 (bd_sub kb_0 (by decide) : bd 0 1 _).2) (fun t ht hW => ⟨⟨_, _, rfl, Or.inl ⟨rfl, trivial⟩, q3_of g hK ht hW⟩, g.2.2.1.F ht⟩) g.2.2.1.2.2 dX6_admits_52
          · have fc_20 := nlt_f c_20
            refine lv_iconst (v := 1) hx hb dX6_admits_47 (by decide) ?_
            refine lv_goto (tgt := 52) hx hb dX6_admits_48 (by decide) ?_
            subst hQ
            have kb_1 : bd 1 1 (1 : Int32) := ⟨by decide, by decide⟩
            exact W.zret (v := 1) hx hb hr (nar_z (bd_sub kb_1 (by decide) : bd 0 1 _).1 (bd_sub kb_1 (by decide) : bd 0 1 _).2) (fun t ht hW => ⟨⟨_, _, rfl, Or.inr (⟨rfl, trivial⟩), q3_of g hK ht hW⟩, g.2.2.1.F ht⟩) g.2.2.1.2.2 dX6_admits_52
      · have fc_12 := nlt_f c_12
        have b_23 : bd 3 2 (3 : Int32) := leL fc_12 kb_3 b_10 (by decide)
        exact bd_no (eqX rfl b_23 kb_3 (lo := 3) (hi := 2) (by decide)) (by decide)
set_option maxHeartbeats 4000000 in
set_option maxRecDepth 100000 in
theorem r_X3_mayTake (l : Launch) (dC : Nat → ClassId) (dI : Nat → Nat → Nat) (L : List Nat) (kd : Nat → Nat) (tys : List (ClassId × FieldType)) (f0 : Nat → va_E) (sz : Nat) (hWT : WT L kd tys f0) (a0_ : Nat) (ma0_ : a0_ ∈ L) (ka0_ : kd a0_ = 3) (a1_ : Nat) (ma1_ : a1_ ∈ L) (ka1_ : kd a1_ = 7) (x2_ : Int32) (x3_ : Int32) (x4_ : Int32) (x5_ : Int32) (x6_ : Int32) : Met l yX3_mayTake (.code yX3_mayTake cX3_mayTake 8 (some .boolean) :: lw_g) ({ frames := 2, cells := 0, slots := 0, locals := 43 }) (va_Pc [.ref a0_, .ref a1_, .int x2_, .int x3_, .int x4_, .int x5_, .int x6_] (P3 (dC, dI) L tys f0 sz)) (va_Qi (fun (r : Int32) (f : Nat → va_E) => (r = 0 ∧ True) ∨ (r = 1 ∧ bd 0 2 x2_ ∧ bd 0 11 x3_ ∧ ∃ z0_ : Int32, bd 1 8 z0_ ∧ ∃ z1_ : Int32, bd 1 3 z1_ ∧ Fs L kd f [(7, 1, a1_, .int z0_), (3, 4, a0_, .int z1_)])) (Q3 (dC, dI) L kd tys [] [] f0 sz) (pA L sz)) 0 0 (pA L sz) := by
  refine Met.ofW (cc := cX3_mayTake) (maxL := 8) (ret := (some .boolean)) (by decide) rfl ?_
  intro p e s m args below meth c s₁ B hml hv
  obtain ⟨rfl, hsz, hP, hK, hD0⟩ := hv
  have hx := B.exec
  have hb := B.bytes
  have hr := B.returns
  have hts := atoms_spec (ws := (.code yX3_mayTake cX3_mayTake 8 (some .boolean) :: lw_g)) B.pre
  have hown : s.vm.findClass RX3 = some m.cls := findClass_of_methodNamed B.named
  have hlocks := B.notSynchronized
  subst hsz
  have g : G3 (dC, dI) L kd tys s f0 [] [] f0 s.heap [] [] := G3.start hP hD0 hWT Fs.nil
  have hl := lv_entry ([.ref a0_, .ref a1_, .int x2_, .int x3_, .int x4_, .int x5_, .int x6_]) (n := 8) (Nat.le_of_ble_eq_true rfl)
  rw [lg_entry_eq]
  generalize (lg_sl ([.ref a0_, .ref a1_, .int x2_, .int x3_, .int x4_, .int x5_, .int x6_]) ++ List.replicate (8 - (lg_sl ([.ref a0_, .ref a1_, .int x2_, .int x3_, .int x4_, .int x5_, .int x6_])).length) Slot.unset).toArray = ls at hl ⊢
  have hl : lv_has ls 8 [(0, .ref a0_), (1, .ref a1_), (2, .int x2_), (3, .int x3_), (4, .int x4_), (5, .int x5_), (6, .int x6_)] := hl
  refine W_q (fun Q hQ => ?_)
  refine lv_iload_n hx hb dX3_mayTake_0 rfl (lv_at hl 2 rfl) ?_
  have kb_0 : bd 0 0 (0 : Int32) := ⟨by decide, by decide⟩
  refine lv_if_lt (tgt := 26) hx hb dX3_mayTake_1 (by decide) (fun c_1 => ?_) (fun c_1 => ?_)
  · have fc_1 := lt_f c_1
    have b_2 : bd (-2147483648) (-1) x2_ := ltL fc_1 (bdT x2_) kb_0 (by decide)
    refine lv_iconst (v := 0) hx hb dX3_mayTake_26 (by decide) ?_
    subst hQ
    exact W.zret (v := 0) hx hb hr (nar_z (bd_sub kb_0 (by decide) : bd 0 1 _).1 (bd_sub kb_0 (by decide) : bd 0 1 _).2) (fun t ht hW => ⟨⟨_, _, rfl, Or.inl ⟨rfl, trivial⟩, q3_of g hK ht hW⟩, g.2.2.1.F ht⟩) g.2.2.1.2.2 dX3_mayTake_27
  · have fc_1 := nlt_f c_1
    have b_3 : bd 0 2147483647 x2_ := leR fc_1 kb_0 (bdT x2_) (by decide)
    refine lv_iload_n hx hb dX3_mayTake_4 rfl (lv_at hl 2 rfl) ?_
    refine lv_aload_n hx hb dX3_mayTake_5 rfl (lv_at hl 0 rfl) ?_
    refine g_geti (C := RX3) (T := TX3) (N := 6) hx hb hts (mc_ inX3) hown hK g ma0_ ka0_ (by decide) rfl 4 (by decide) rfl (hts _ (List.mem_cons_of_mem _ t_813)) (fun _ h9 => h9) rfl dX3_mayTake_6 (fun x_4 bx_4 g => ?_)
    refine lv_icmp_ge (tgt := 26) hx hb dX3_mayTake_9 (by decide) (fun c_5 => ?_) (fun c_5 => ?_)
    · have fc_5 := le_f c_5
      refine lv_iconst (v := 0) hx hb dX3_mayTake_26 (by decide) ?_
      subst hQ
      exact W.zret (v := 0) hx hb hr (nar_z (bd_sub kb_0 (by decide) : bd 0 1 _).1 (bd_sub kb_0 (by decide) : bd 0 1 _).2) (fun t ht hW => ⟨⟨_, _, rfl, Or.inl ⟨rfl, trivial⟩, q3_of g hK ht hW⟩, g.2.2.1.F ht⟩) g.2.2.1.2.2 dX3_mayTake_27
    · have fc_5 := nle_f c_5
      have b_6 : bd 0 2 x2_ := ltL fc_5 b_3 bx_4 (by decide)
      have b_7 : bd 1 3 x_4 := ltR fc_5 b_3 bx_4 (by decide)
      refine lv_aload_n hx hb dX3_mayTake_12 rfl (lv_at hl 1 rfl) ?_
      refine lv_aload_n hx hb dX3_mayTake_13 rfl (lv_at hl 0 rfl) ?_
      refine g_getr (K := 125) (C := RX3) (T := TX3) (N := 6) hx hb hts (mc_ inX3) hown hK g ma0_ ka0_ (by decide) rfl 5 (by decide) rfl (hts _ (List.mem_cons_of_mem _ t_815)) (fun _ h9 => h9) rfl dX3_mayTake_14 (fun a_8 ma_8 ka_8 g => ?_)
      refine lv_iload_n hx hb dX3_mayTake_17 rfl (lv_at hl 2 rfl) ?_
      refine g_iald hx hb hK g ma_8 ka_8 (by decide) rfl (in_bd b_6 (by decide)) dX3_mayTake_18 (fun x_9 bx_9 cx_9 => ?_)
      refine lv_iload_n hx hb dX3_mayTake_19 rfl (lv_at hl 3 rfl) ?_
      refine g_calli (va_runV (As := [.int x_9, .int x3_]) (rest := []) ⟨hx, hb, hml, hown, hts⟩ (r_X7_hasMember l dC dI L kd tys f0 s.heap.size g.2.2.2.1 a1_ ma1_ ka1_ x_9 x3_) (cwV 2 hts (gV_ t_1497 t_1448 t_1449 t_191 t_1450) rfl rfl rfl (by decide +kernel) ⟨(Nat.le_of_ble_eq_true rfl), (Nat.le_of_ble_eq_true rfl)⟩) (pre3V g hK ma1_ ka1_ (by decide) (q := (RX7, TX7, 19)) rfl) rfl rfl hl.1 rfl (lv_room (Nat.le_of_ble_eq_true rfl)) dX3_mayTake_20 ⟨(Nat.le_of_ble_eq_true rfl), (Nat.le_of_ble_eq_true rfl)⟩) g hK (by decide) (by decide) (fx' := [(3, 5, a0_, .ref a_8), (3, 4, a0_, .int x_4)]) rfl (fun r_10 fr_10 H locs hp hMr_10 g => ?_)
      rcases hp with ⟨h_11, -⟩ | ⟨h_12, h_13, h_14, x_15, h_16, hF_17⟩
      · obtain rfl : r_10 = 0 := h_11
        refine lv_if_ne (tgt := 28) hx hb dX3_mayTake_23 (by decide) (fun c_ => absurd c_ (by decide)) (fun c_ => ?_)
        refine lv_iconst (v := 0) hx hb dX3_mayTake_26 (by decide) ?_
        subst hQ
        exact W.zret (v := 0) hx hb hr (nar_z (bd_sub kb_0 (by decide) : bd 0 1 _).1 (bd_sub kb_0 (by decide) : bd 0 1 _).2) (fun t ht hW => ⟨⟨_, _, rfl, Or.inl ⟨rfl, trivial⟩, q3_of g hK ht hW⟩, g.2.2.1.F ht⟩) g.2.2.1.2.2 dX3_mayTake_27
      · obtain rfl : r_10 = 1 := h_12
        have b_18 : bd 0 11 x3_ := eqX rfl (bdT x3_) h_14 (by decide)
        have g := g.more hF_17
        refine lv_if_ne (tgt := 28) hx hb dX3_mayTake_23 (by decide) (fun c_ => ?_) (fun c_ => absurd c_ (by decide))
        refine lv_aload_n hx hb dX3_mayTake_28 rfl (lv_at hl 0 rfl) ?_
        refine lv_aload_n hx hb dX3_mayTake_29 rfl (lv_at hl 1 rfl) ?_
        refine lv_iload_n hx hb dX3_mayTake_30 rfl (lv_at hl 2 rfl) ?_
        refine lv_iload_n hx hb dX3_mayTake_31 rfl (lv_at hl 3 rfl) ?_
        refine g_callr (va_runV (As := [.ref a1_, .int x2_, .int x3_]) (rest := []) ⟨hx, hb, hml, hown, hts⟩ (r_X3_tellingOf l dC dI L kd tys fr_10 H.size g.2.2.2.1 a0_ ma0_ ka0_ a1_ ma1_ ka1_ x2_ b_6 x3_ b_18 x_15 h_16 x_4 b_7 (g.fcts [0, 2] rfl)) (cwV 3 hts (gV_ t_1498 t_1500 t_53 t_196 t_1501) rfl rfl rfl (by decide +kernel) ⟨(Nat.le_of_ble_eq_true rfl), (Nat.le_of_ble_eq_true rfl)⟩) (pre3V g hK ma0_ ka0_ (by decide) (q := (RX3, TX3, 6)) rfl) rfl rfl hl.1 rfl (lv_room (Nat.le_of_ble_eq_true rfl)) dX3_mayTake_32 ⟨(Nat.le_of_ble_eq_true rfl), (Nat.le_of_ble_eq_true rfl)⟩) g hK (by decide) (by decide) (fx' := [(7, 1, a1_, .int x_15), (3, 5, a0_, .ref a_8), (3, 4, a0_, .int x_4)]) rfl (fun r_19 fr_19 H locs hp hMr_19 g => ?_)
        obtain ⟨mr_19, kr_19⟩ := hp
        refine lv_astore (lv' := [(7, .ref r_19), (0, .ref a0_), (1, .ref a1_), (2, .int x2_), (3, .int x3_), (4, .int x4_), (5, .int x5_), (6, .int x6_)]) hx hb dX3_mayTake_35 hl (by decide) rfl (fun ls hl => ?_)
        refine lv_aload hx hb dX3_mayTake_37 (lv_at hl 0 rfl) ?_
        refine lv_iconst (v := 0) hx hb dX3_mayTake_39 (by decide) ?_
        refine lv_iload hx hb dX3_mayTake_40 (lv_at hl 5 rfl) ?_
        refine g_calli (va_runV (As := [.int 0, .int x4_]) (rest := []) ⟨hx, hb, hml, hown, hts⟩ (r_X6_admits l dC dI L kd tys fr_19 H.size g.2.2.2.1 r_19 mr_19 kr_19 0 x4_) (cwV 2 hts (gV_ t_1502 t_1503 t_1504 t_193 t_1505) rfl rfl rfl (by decide +kernel) ⟨(Nat.le_of_ble_eq_true rfl), (Nat.le_of_ble_eq_true rfl)⟩) (pre3V g hK mr_19 kr_19 (by decide) (q := (RX6, TX6, 13)) rfl) rfl rfl hl.1 rfl (lv_room (Nat.le_of_ble_eq_true rfl)) dX3_mayTake_42 ⟨(Nat.le_of_ble_eq_true rfl), (Nat.le_of_ble_eq_true rfl)⟩) g hK (by decide) (by decide) (fx' := [(7, 1, a1_, .int x_15), (3, 5, a0_, .ref a_8), (3, 4, a0_, .int x_4)]) rfl (fun r_20 fr_20 H locs hp hMr_20 g => ?_)
        rcases hp with ⟨h_21, -⟩ | ⟨h_22, -⟩
        · obtain rfl : r_20 = 0 := h_21
          refine lv_if_eq (tgt := 74) hx hb dX3_mayTake_45 (by decide) (fun c_ => ?_) (fun c_ => absurd (by decide) c_)
          refine lv_iconst (v := 0) hx hb dX3_mayTake_74 (by decide) ?_
          subst hQ
          exact W.zret (v := 0) hx hb hr (nar_z (bd_sub kb_0 (by decide) : bd 0 1 _).1 (bd_sub kb_0 (by decide) : bd 0 1 _).2) (fun t ht hW => ⟨⟨_, _, rfl, Or.inl ⟨rfl, trivial⟩, q3_of g hK ht hW⟩, g.2.2.1.F ht⟩) g.2.2.1.2.2 dX3_mayTake_75
        · obtain rfl : r_20 = 1 := h_22
          refine lv_if_eq (tgt := 74) hx hb dX3_mayTake_45 (by decide) (fun c_ => absurd c_ (by decide)) (fun c_ => ?_)
          refine lv_aload hx hb dX3_mayTake_48 (lv_at hl 0 rfl) ?_
          refine lv_iconst (v := 1) hx hb dX3_mayTake_50 (by decide) ?_
          refine lv_iload hx hb dX3_mayTake_51 (lv_at hl 6 rfl) ?_
          refine g_calli (va_runV (As := [.int 1, .int x5_]) (rest := []) ⟨hx, hb, hml, hown, hts⟩ (r_X6_admits l dC dI L kd tys fr_20 H.size g.2.2.2.1 r_19 mr_19 kr_19 1 x5_) (cwV 2 hts (gV_ t_1502 t_1503 t_1504 t_193 t_1505) rfl rfl rfl (by decide +kernel) ⟨(Nat.le_of_ble_eq_true rfl), (Nat.le_of_ble_eq_true rfl)⟩) (pre3V g hK mr_19 kr_19 (by decide) (q := (RX6, TX6, 13)) rfl) rfl rfl hl.1 rfl (lv_room (Nat.le_of_ble_eq_true rfl)) dX3_mayTake_53 ⟨(Nat.le_of_ble_eq_true rfl), (Nat.le_of_ble_eq_true rfl)⟩) g hK (by decide) (by decide) (fx' := [(7, 1, a1_, .int x_15), (3, 5, a0_, .ref a_8), (3, 4, a0_, .int x_4)]) rfl (fun r_23 fr_23 H locs hp hMr_23 g => ?_)
          rcases hp with ⟨h_24, -⟩ | ⟨h_25, -⟩
          · obtain rfl : r_23 = 0 := h_24
            refine lv_if_eq (tgt := 74) hx hb dX3_mayTake_56 (by decide) (fun c_ => ?_) (fun c_ => absurd (by decide) c_)
            refine lv_iconst (v := 0) hx hb dX3_mayTake_74 (by decide) ?_
            subst hQ
            exact W.zret (v := 0) hx hb hr (nar_z (bd_sub kb_0 (by decide) : bd 0 1 _).1 (bd_sub kb_0 (by decide) : bd 0 1 _).2) (fun t ht hW => ⟨⟨_, _, rfl, Or.inl ⟨rfl, trivial⟩, q3_of g hK ht hW⟩, g.2.2.1.F ht⟩) g.2.2.1.2.2 dX3_mayTake_75
          · obtain rfl : r_23 = 1 := h_25
            refine lv_if_eq (tgt := 74) hx hb dX3_mayTake_56 (by decide) (fun c_ => absurd c_ (by decide)) (fun c_ => ?_)
            refine lv_aload hx hb dX3_mayTake_59 (lv_at hl 0 rfl) ?_
            refine lv_iconst (v := 2) hx hb dX3_mayTake_61 (by decide) ?_
            refine lv_iload hx hb dX3_mayTake_62 (lv_at hl 7 rfl) ?_
            refine g_calli (va_runV (As := [.int 2, .int x6_]) (rest := []) ⟨hx, hb, hml, hown, hts⟩ (r_X6_admits l dC dI L kd tys fr_23 H.size g.2.2.2.1 r_19 mr_19 kr_19 2 x6_) (cwV 2 hts (gV_ t_1502 t_1503 t_1504 t_193 t_1505) rfl rfl rfl (by decide +kernel) ⟨(Nat.le_of_ble_eq_true rfl), (Nat.le_of_ble_eq_true rfl)⟩) (pre3V g hK mr_19 kr_19 (by decide) (q := (RX6, TX6, 13)) rfl) rfl rfl hl.1 rfl (lv_room (Nat.le_of_ble_eq_true rfl)) dX3_mayTake_64 ⟨(Nat.le_of_ble_eq_true rfl), (Nat.le_of_ble_eq_true rfl)⟩) g hK (by decide) (by decide) (fx' := [(7, 1, a1_, .int x_15), (3, 5, a0_, .ref a_8), (3, 4, a0_, .int x_4)]) rfl (fun r_26 fr_26 H locs hp hMr_26 g => ?_)
            rcases hp with ⟨h_27, -⟩ | ⟨h_28, -⟩
            · obtain rfl : r_26 = 0 := h_27
              refine lv_if_eq (tgt := 74) hx hb dX3_mayTake_67 (by decide) (fun c_ => ?_) (fun c_ => absurd (by decide) c_)
              refine lv_iconst (v := 0) hx hb dX3_mayTake_74 (by decide) ?_
              subst hQ
              exact W.zret (v := 0) hx hb hr (nar_z (bd_sub kb_0 (by decide) : bd 0 1 _).1 (bd_sub kb_0 (by decide) : bd 0 1 _).2) (fun t ht hW => ⟨⟨_, _, rfl, Or.inl ⟨rfl, trivial⟩, q3_of g hK ht hW⟩, g.2.2.1.F ht⟩) g.2.2.1.2.2 dX3_mayTake_75
            · obtain rfl : r_26 = 1 := h_28
              refine lv_if_eq (tgt := 74) hx hb dX3_mayTake_67 (by decide) (fun c_ => absurd c_ (by decide)) (fun c_ => ?_)
              refine lv_iconst (v := 1) hx hb dX3_mayTake_70 (by decide) ?_
              refine lv_goto (tgt := 75) hx hb dX3_mayTake_71 (by decide) ?_
              subst hQ
              have kb_1 : bd 1 1 (1 : Int32) := ⟨by decide, by decide⟩
              exact W.zret (v := 1) hx hb hr (nar_z (bd_sub kb_1 (by decide) : bd 0 1 _).1 (bd_sub kb_1 (by decide) : bd 0 1 _).2) (fun t ht hW => ⟨⟨_, _, rfl, Or.inr (⟨rfl, b_6, b_18, x_15, h_16, x_4, b_7, (g.fcts [0, 2] rfl)⟩), q3_of g hK ht hW⟩, g.2.2.1.F ht⟩) g.2.2.1.2.2 dX3_mayTake_75
set_option maxHeartbeats 4000000 in
set_option maxRecDepth 100000 in
theorem r_X3_roomForCall (l : Launch) (dC : Nat → ClassId) (dI : Nat → Nat → Nat) (L : List Nat) (kd : Nat → Nat) (tys : List (ClassId × FieldType)) (f0 : Nat → va_E) (sz : Nat) (hWT : WT L kd tys f0) (a0_ : Nat) (ma0_ : a0_ ∈ L) (ka0_ : kd a0_ = 3) : Met l yX3_roomForCall (.code yX3_roomForCall cX3_roomForCall 1 (some .boolean) :: lw_g) ({ frames := 0, cells := 0, slots := 0, locals := 0 }) (va_Pc [.ref a0_] (P3 (dC, dI) L tys f0 sz)) (va_Qi (fun (r : Int32) (f : Nat → va_E) => (r = 0 ∧ ∃ z0_ : Int32, bd 10 10 z0_ ∧ Fs L kd f [(3, 0, a0_, .int z0_)]) ∨ (r = 1 ∧ ∃ z0_ : Int32, bd 0 9 z0_ ∧ Fs L kd f [(3, 0, a0_, .int z0_)])) (Q3 (dC, dI) L kd tys [] [] f0 sz) (pA L sz)) 0 0 (pA L sz) := by
  refine Met.ofW (cc := cX3_roomForCall) (maxL := 1) (ret := (some .boolean)) (by decide) rfl ?_
  intro p e s m args below meth c s₁ B hml hv
  obtain ⟨rfl, hsz, hP, hK, hD0⟩ := hv
  have hx := B.exec
  have hb := B.bytes
  have hr := B.returns
  have hts := atoms_spec (ws := (.code yX3_roomForCall cX3_roomForCall 1 (some .boolean) :: lw_g)) B.pre
  have hown : s.vm.findClass RX3 = some m.cls := findClass_of_methodNamed B.named
  have hlocks := B.notSynchronized
  subst hsz
  have g : G3 (dC, dI) L kd tys s f0 [] [] f0 s.heap [] [] := G3.start hP hD0 hWT Fs.nil
  have hl := lv_entry ([.ref a0_]) (n := 1) (Nat.le_of_ble_eq_true rfl)
  rw [lg_entry_eq]
  generalize (lg_sl ([.ref a0_]) ++ List.replicate (1 - (lg_sl ([.ref a0_])).length) Slot.unset).toArray = ls at hl ⊢
  have hl : lv_has ls 1 [(0, .ref a0_)] := hl
  refine W_q (fun Q hQ => ?_)
  refine lv_aload_n hx hb dX3_roomForCall_0 rfl (lv_at hl 0 rfl) ?_
  refine g_geti (C := RX3) (T := TX3) (N := 6) hx hb hts (mc_ inX3) hown hK g ma0_ ka0_ (by decide) rfl 0 (by decide) rfl (hts _ (List.mem_cons_of_mem _ t_801)) (fun _ h9 => h9) rfl dX3_roomForCall_1 (fun x_1 bx_1 g => ?_)
  refine lv_bipush (v := 10) hx hb dX3_roomForCall_4 (by decide) ?_
  have kb_10 : bd 10 10 (10 : Int32) := ⟨by decide, by decide⟩
  refine lv_icmp_ge (tgt := 13) hx hb dX3_roomForCall_6 (by decide) (fun c_2 => ?_) (fun c_2 => ?_)
  · have fc_2 := le_f c_2
    have b_3 : bd 10 10 x_1 := leR fc_2 kb_10 bx_1 (by decide)
    refine lv_iconst (v := 0) hx hb dX3_roomForCall_13 (by decide) ?_
    subst hQ
    have kb_0 : bd 0 0 (0 : Int32) := ⟨by decide, by decide⟩
    exact W.zret (v := 0) hx hb hr (nar_z (bd_sub kb_0 (by decide) : bd 0 1 _).1 (bd_sub kb_0 (by decide) : bd 0 1 _).2) (fun t ht hW => ⟨⟨_, _, rfl, Or.inl ⟨rfl, x_1, b_3, (g.fcts [0] rfl)⟩, q3_of g hK ht hW⟩, g.2.2.1.F ht⟩) g.2.2.1.2.2 dX3_roomForCall_14
  · have fc_2 := nle_f c_2
    have b_4 : bd 0 9 x_1 := ltL fc_2 bx_1 kb_10 (by decide)
    refine lv_iconst (v := 1) hx hb dX3_roomForCall_9 (by decide) ?_
    refine lv_goto (tgt := 14) hx hb dX3_roomForCall_10 (by decide) ?_
    subst hQ
    have kb_1 : bd 1 1 (1 : Int32) := ⟨by decide, by decide⟩
    exact W.zret (v := 1) hx hb hr (nar_z (bd_sub kb_1 (by decide) : bd 0 1 _).1 (bd_sub kb_1 (by decide) : bd 0 1 _).2) (fun t ht hW => ⟨⟨_, _, rfl, Or.inr (⟨rfl, x_1, b_4, (g.fcts [0] rfl)⟩), q3_of g hK ht hW⟩, g.2.2.1.F ht⟩) g.2.2.1.2.2 dX3_roomForCall_14
set_option maxHeartbeats 4000000 in
set_option maxRecDepth 100000 in
theorem r_X3_setTo_2 (l : Launch) (dC : Nat → ClassId) (dI : Nat → Nat → Nat) (L : List Nat) (kd : Nat → Nat) (tys : List (ClassId × FieldType)) (f0 : Nat → va_E) (sz : Nat) (hWT : WT L kd tys f0) (a0_ : Nat) (ma0_ : a0_ ∈ L) (ka0_ : kd a0_ = 3) (x1_ : Int32) (bx1_ : bd 0 9 x1_) (x2_ : Int32) (bx2_ : bd 0 2 x2_) (x3_ : Int32) (bx3_ : bd 0 11 x3_) (x4_ : Int32) (x5_ : Int32) (x6_ : Int32) (y0_ : Int32) (by0_ : bd 0 9 y0_) (hfx : Fs L kd f0 [(3, 0, a0_, .int y0_)]) : Met l yX3_setTo (.code yX3_setTo cX3_setTo 7 none :: lw_g) ({ frames := 0, cells := 0, slots := 0, locals := 0 }) (va_Pc [.ref a0_, .int x1_, .int x2_, .int x3_, .int x4_, .int x5_, .int x6_] (P3 (dC, dI) L tys f0 sz)) (va_Qv (fun (f : Nat → va_E) => (True)) (Q3 (dC, dI) L kd tys [] [103, 122, 123] f0 sz) (pA L sz)) 0 0 (pA L sz) := by
  refine Met.ofW (cc := cX3_setTo) (maxL := 7) (ret := none) (by decide) rfl ?_
  intro p e s m args below meth c s₁ B hml hv
  obtain ⟨rfl, hsz, hP, hK, hD0⟩ := hv
  have hx := B.exec
  have hb := B.bytes
  have hr := B.returns
  have hts := atoms_spec (ws := (.code yX3_setTo cX3_setTo 7 none :: lw_g)) B.pre
  have hown : s.vm.findClass RX3 = some m.cls := findClass_of_methodNamed B.named
  have hlocks := B.notSynchronized
  subst hsz
  have g : G3 (dC, dI) L kd tys s f0 [] [103, 122, 123] f0 s.heap [] [(3, 0, a0_, .int y0_)] := G3.start hP hD0 hWT hfx
  have hl := lv_entry ([.ref a0_, .int x1_, .int x2_, .int x3_, .int x4_, .int x5_, .int x6_]) (n := 7) (Nat.le_of_ble_eq_true rfl)
  rw [lg_entry_eq]
  generalize (lg_sl ([.ref a0_, .int x1_, .int x2_, .int x3_, .int x4_, .int x5_, .int x6_]) ++ List.replicate (7 - (lg_sl ([.ref a0_, .int x1_, .int x2_, .int x3_, .int x4_, .int x5_, .int x6_])).length) Slot.unset).toArray = ls at hl ⊢
  have hl : lv_has ls 7 [(0, .ref a0_), (1, .int x1_), (2, .int x2_), (3, .int x3_), (4, .int x4_), (5, .int x5_), (6, .int x6_)] := hl
  refine W_q (fun Q hQ => ?_)
  refine lv_aload_n hx hb dX3_setTo_0 rfl (lv_at hl 0 rfl) ?_
  refine g_getr (K := 122) (C := RX3) (T := TX3) (N := 6) hx hb hts (mc_ inX3) hown hK g ma0_ ka0_ (by decide) rfl 1 (by decide) rfl (hts _ (List.mem_cons_of_mem _ t_804)) (fun _ h9 => h9) rfl dX3_setTo_1 (fun a_1 ma_1 ka_1 g => ?_)
  refine lv_iload_n hx hb dX3_setTo_4 rfl (lv_at hl 1 rfl) ?_
  refine lv_iload_n hx hb dX3_setTo_5 rfl (lv_at hl 2 rfl) ?_
  refine g_iast hx hb hK g ma_1 ka_1 (by decide) rfl (in_bd bx1_ (by decide)) bx2_ (by decide) dX3_setTo_6 (fun f H locs hM_2 g => ?_)
  refine lv_aload_n hx hb dX3_setTo_7 rfl (lv_at hl 0 rfl) ?_
  refine g_getr (K := 123) (C := RX3) (T := TX3) (N := 6) hx hb hts (mc_ inX3) hown hK g ma0_ ka0_ (by decide) rfl 2 (by decide) rfl (hts _ (List.mem_cons_of_mem _ t_807)) (fun _ h9 => h9) rfl dX3_setTo_8 (fun a_3 ma_3 ka_3 g => ?_)
  refine lv_iload_n hx hb dX3_setTo_11 rfl (lv_at hl 1 rfl) ?_
  refine lv_iload_n hx hb dX3_setTo_12 rfl (lv_at hl 3 rfl) ?_
  refine g_iast hx hb hK g ma_3 ka_3 (by decide) rfl (in_bd bx1_ (by decide)) (bd_sub bx3_ (by decide)) (by decide) dX3_setTo_13 (fun f H locs hM_4 g => ?_)
  refine lv_aload_n hx hb dX3_setTo_14 rfl (lv_at hl 0 rfl) ?_
  refine g_getr (K := 124) (C := RX3) (T := TX3) (N := 6) hx hb hts (mc_ inX3) hown hK g ma0_ ka0_ (by decide) rfl 3 (by decide) rfl (hts _ (List.mem_cons_of_mem _ t_810)) (fun _ h9 => h9) rfl dX3_setTo_15 (fun a_5 ma_5 ka_5 g => ?_)
  refine lv_iload_n hx hb dX3_setTo_18 rfl (lv_at hl 1 rfl) ?_
  refine g_aald hx hb hK g ma_5 ka_5 (by decide) rfl (by decide) (in_bd bx1_ (by decide)) dX3_setTo_19 (fun a_6 ma_6 ua_6 wa_6 => ?_)
  have ka_6 : kd a_6 = 103 := by omega
  refine lv_iconst (v := 0) hx hb dX3_setTo_20 (by decide) ?_
  refine lv_iload hx hb dX3_setTo_21 (lv_at hl 4 rfl) ?_
  refine g_iast hx hb hK g ma_6 ka_6 (by decide) rfl (by unfold vp_in; decide) (bdT x4_) (by decide) dX3_setTo_23 (fun f H locs hM_7 g => ?_)
  refine lv_aload_n hx hb dX3_setTo_24 rfl (lv_at hl 0 rfl) ?_
  refine g_getk (C := RX3) (T := TX3) (N := 6) hx hb hts (mc_ inX3) hown hK g rfl 3 (by decide) rfl (hts _ (List.mem_cons_of_mem _ t_810)) (fun _ h9 => h9) 0 rfl dX3_setTo_25 ?_
  refine lv_iload_n hx hb dX3_setTo_28 rfl (lv_at hl 1 rfl) ?_
  refine g_aald hx hb hK g ma_5 ka_5 (by decide) rfl (by decide) (in_bd bx1_ (by decide)) dX3_setTo_29 (fun a_8 ma_8 ua_8 wa_8 => ?_)
  have ka_8 : kd a_8 = 103 := by omega
  refine lv_iconst (v := 1) hx hb dX3_setTo_30 (by decide) ?_
  refine lv_iload hx hb dX3_setTo_31 (lv_at hl 5 rfl) ?_
  refine g_iast hx hb hK g ma_8 ka_8 (by decide) rfl (by unfold vp_in; decide) (bdT x5_) (by decide) dX3_setTo_33 (fun f H locs hM_9 g => ?_)
  refine lv_aload_n hx hb dX3_setTo_34 rfl (lv_at hl 0 rfl) ?_
  refine g_getk (C := RX3) (T := TX3) (N := 6) hx hb hts (mc_ inX3) hown hK g rfl 3 (by decide) rfl (hts _ (List.mem_cons_of_mem _ t_810)) (fun _ h9 => h9) 0 rfl dX3_setTo_35 ?_
  refine lv_iload_n hx hb dX3_setTo_38 rfl (lv_at hl 1 rfl) ?_
  refine g_aald hx hb hK g ma_5 ka_5 (by decide) rfl (by decide) (in_bd bx1_ (by decide)) dX3_setTo_39 (fun a_10 ma_10 ua_10 wa_10 => ?_)
  have ka_10 : kd a_10 = 103 := by omega
  refine lv_iconst (v := 2) hx hb dX3_setTo_40 (by decide) ?_
  refine lv_iload hx hb dX3_setTo_41 (lv_at hl 6 rfl) ?_
  refine g_iast hx hb hK g ma_10 ka_10 (by decide) rfl (by unfold vp_in; decide) (bdT x6_) (by decide) dX3_setTo_43 (fun f H locs hM_11 g => ?_)
  subst hQ
  exact W.vret hx hb hr (fun t ht hW => ⟨⟨_, rfl, trivial, q3_of g hK ht hW⟩, g.2.2.1.F ht⟩) g.2.2.1.2.2 dX3_setTo_44
set_option maxHeartbeats 4000000 in
set_option maxRecDepth 100000 in
theorem r_X3_addCall (l : Launch) (dC : Nat → ClassId) (dI : Nat → Nat → Nat) (L : List Nat) (kd : Nat → Nat) (tys : List (ClassId × FieldType)) (f0 : Nat → va_E) (sz : Nat) (hWT : WT L kd tys f0) (a0_ : Nat) (ma0_ : a0_ ∈ L) (ka0_ : kd a0_ = 3) (x1_ : Int32) (bx1_ : bd 0 2 x1_) (x2_ : Int32) (bx2_ : bd 0 11 x2_) (x3_ : Int32) (x4_ : Int32) (x5_ : Int32) : Met l yX3_addCall (.code yX3_addCall cX3_addCall 6 none :: lw_g) ({ frames := 1, cells := 0, slots := 0, locals := 26 }) (va_Pc [.ref a0_, .int x1_, .int x2_, .int x3_, .int x4_, .int x5_] (P3 (dC, dI) L tys f0 sz)) (va_Qv (fun (f : Nat → va_E) => (∃ z0_ : Int32, bd 1 10 z0_ ∧ Fs L kd f [(3, 0, a0_, .int z0_)])) (Q3 (dC, dI) L kd tys [(3, 0)] [103, 122, 123] f0 sz) (pA L sz)) 0 0 (pA L sz) := by
  refine Met.ofW (cc := cX3_addCall) (maxL := 6) (ret := none) (by decide) rfl ?_
  intro p e s m args below meth c s₁ B hml hv
  obtain ⟨rfl, hsz, hP, hK, hD0⟩ := hv
  have hx := B.exec
  have hb := B.bytes
  have hr := B.returns
  have hts := atoms_spec (ws := (.code yX3_addCall cX3_addCall 6 none :: lw_g)) B.pre
  have hown : s.vm.findClass RX3 = some m.cls := findClass_of_methodNamed B.named
  have hlocks := B.notSynchronized
  subst hsz
  have g : G3 (dC, dI) L kd tys s f0 [(3, 0)] [103, 122, 123] f0 s.heap [] [] := G3.start hP hD0 hWT Fs.nil
  have hl := lv_entry ([.ref a0_, .int x1_, .int x2_, .int x3_, .int x4_, .int x5_]) (n := 6) (Nat.le_of_ble_eq_true rfl)
  rw [lg_entry_eq]
  generalize (lg_sl ([.ref a0_, .int x1_, .int x2_, .int x3_, .int x4_, .int x5_]) ++ List.replicate (6 - (lg_sl ([.ref a0_, .int x1_, .int x2_, .int x3_, .int x4_, .int x5_])).length) Slot.unset).toArray = ls at hl ⊢
  have hl : lv_has ls 6 [(0, .ref a0_), (1, .int x1_), (2, .int x2_), (3, .int x3_), (4, .int x4_), (5, .int x5_)] := hl
  refine W_q (fun Q hQ => ?_)
  refine lv_aload_n hx hb dX3_addCall_0 rfl (lv_at hl 0 rfl) ?_
  refine g_geti (C := RX3) (T := TX3) (N := 6) hx hb hts (mc_ inX3) hown hK g ma0_ ka0_ (by decide) rfl 0 (by decide) rfl (hts _ (List.mem_cons_of_mem _ t_801)) (fun _ h9 => h9) rfl dX3_addCall_1 (fun x_1 bx_1 g => ?_)
  refine lv_bipush (v := 10) hx hb dX3_addCall_4 (by decide) ?_
  have kb_10 : bd 10 10 (10 : Int32) := ⟨by decide, by decide⟩
  refine lv_icmp_ge (tgt := 34) hx hb dX3_addCall_6 (by decide) (fun c_2 => ?_) (fun c_2 => ?_)
  · have fc_2 := le_f c_2
    have b_3 : bd 10 10 x_1 := leR fc_2 kb_10 bx_1 (by decide)
    subst hQ
    exact W.vret hx hb hr (fun t ht hW => ⟨⟨_, rfl, ⟨x_1, (bd_sub b_3 (by decide)), (g.fcts [0] rfl)⟩, q3_of g hK ht hW⟩, g.2.2.1.F ht⟩) g.2.2.1.2.2 dX3_addCall_34
  · have fc_2 := nle_f c_2
    have b_4 : bd 0 9 x_1 := ltL fc_2 bx_1 kb_10 (by decide)
    refine lv_aload_n hx hb dX3_addCall_9 rfl (lv_at hl 0 rfl) ?_
    refine lv_aload_n hx hb dX3_addCall_10 rfl (lv_at hl 0 rfl) ?_
    refine g_getk (C := RX3) (T := TX3) (N := 6) hx hb hts (mc_ inX3) hown hK g rfl 0 (by decide) rfl (hts _ (List.mem_cons_of_mem _ t_801)) (fun _ h9 => h9) 0 rfl dX3_addCall_11 ?_
    refine lv_iload_n hx hb dX3_addCall_14 rfl (lv_at hl 1 rfl) ?_
    refine lv_iload_n hx hb dX3_addCall_15 rfl (lv_at hl 2 rfl) ?_
    refine lv_iload_n hx hb dX3_addCall_16 rfl (lv_at hl 3 rfl) ?_
    refine lv_iload hx hb dX3_addCall_17 (lv_at hl 4 rfl) ?_
    refine lv_iload hx hb dX3_addCall_19 (lv_at hl 5 rfl) ?_
    refine g_callv (va_runV (As := [.int x_1, .int x1_, .int x2_, .int x3_, .int x4_, .int x5_]) (rest := []) ⟨hx, hb, hml, hown, hts⟩ (r_X3_setTo_2 l dC dI L kd tys f0 s.heap.size g.2.2.2.1 a0_ ma0_ ka0_ x_1 b_4 x1_ bx1_ x2_ bx2_ x3_ x4_ x5_ x_1 b_4 (g.fcts [0] rfl)) (cwV 6 hts (gV_ t_1485 t_1487 t_52 t_196 t_1488) rfl rfl rfl (by decide +kernel) ⟨(Nat.le_of_ble_eq_true rfl), (Nat.le_of_ble_eq_true rfl)⟩) (pre3V g hK ma0_ ka0_ (by decide) (q := (RX3, TX3, 6)) rfl) rfl rfl hl.1 rfl (lv_room (Nat.le_of_ble_eq_true rfl)) dX3_addCall_21 ⟨(Nat.le_of_ble_eq_true rfl), (Nat.le_of_ble_eq_true rfl)⟩) g hK (by decide) (by decide) (fx' := [(3, 0, a0_, .int x_1)]) rfl (fun fr_5 H locs hp hMr_5 g => ?_)
    refine lv_aload_n hx hb dX3_addCall_24 rfl (lv_at hl 0 rfl) ?_
    refine lv_dup hx hb dX3_addCall_25 rfl ?_
    refine g_getk (C := RX3) (T := TX3) (N := 6) hx hb hts (mc_ inX3) hown hK g rfl 0 (by decide) rfl (hts _ (List.mem_cons_of_mem _ t_801)) (fun _ h9 => h9) 0 rfl dX3_addCall_26 ?_
    refine lv_iconst (v := 1) hx hb dX3_addCall_29 (by decide) ?_
    have kb_1 : bd 1 1 (1 : Int32) := ⟨by decide, by decide⟩
    refine lv_iadd hx hb dX3_addCall_30 ?_
    refine lv_topi (fun y_6 ey_6 => ?_)
    have ty_6 := add_bd ey_6 b_4 kb_1 (by decide)
    have b_7 : bd 1 10 y_6 := add_rg ty_6 b_4 kb_1 (by decide)
    refine g_put (C := RX3) (T := TX3) (N := 6) hx hb hts (mc_ inX3) tyX3 tyX3_ok nmX3 hown hK g ma0_ ka0_ (by decide) rfl 0 (by decide) (hts _ (List.mem_cons_of_mem _ t_801)) (fun _ h9 => h9) rfl rfl (okV_i (bd_sub b_7 (by decide))) rfl rfl (by decide) (Or.inr (Or.inl (by decide))) (fx' := []) rfl dX3_addCall_31 (fun f H locs hM_8 g => ?_)
    subst hQ
    exact W.vret hx hb hr (fun t ht hW => ⟨⟨_, rfl, ⟨y_6, b_7, (g.fcts [0] rfl)⟩, q3_of g hK ht hW⟩, g.2.2.1.F ht⟩) g.2.2.1.2.2 dX3_addCall_34
set_option maxHeartbeats 4000000 in
set_option maxRecDepth 100000 in
theorem r_X3_setTo_3 (l : Launch) (dC : Nat → ClassId) (dI : Nat → Nat → Nat) (L : List Nat) (kd : Nat → Nat) (tys : List (ClassId × FieldType)) (f0 : Nat → va_E) (sz : Nat) (hWT : WT L kd tys f0) (a0_ : Nat) (ma0_ : a0_ ∈ L) (ka0_ : kd a0_ = 3) (x1_ : Int32) (bx1_ : bd 0 9 x1_) (x2_ : Int32) (bx2_ : bd 0 2 x2_) (x3_ : Int32) (bx3_ : bd 0 11 x3_) (x4_ : Int32) (x5_ : Int32) (x6_ : Int32) (y0_ : Int32) (by0_ : bd 0 9 y0_) (y1_ : Int32) (by1_ : bd 1 3 y1_) (hfx : Fs L kd f0 [(3, 0, a0_, .int y0_), (3, 4, a0_, .int y1_)]) : Met l yX3_setTo (.code yX3_setTo cX3_setTo 7 none :: lw_g) ({ frames := 0, cells := 0, slots := 0, locals := 0 }) (va_Pc [.ref a0_, .int x1_, .int x2_, .int x3_, .int x4_, .int x5_, .int x6_] (P3 (dC, dI) L tys f0 sz)) (va_Qv (fun (f : Nat → va_E) => (True)) (Q3 (dC, dI) L kd tys [] [103, 122, 123] f0 sz) (pA L sz)) 0 0 (pA L sz) := by
  refine Met.ofW (cc := cX3_setTo) (maxL := 7) (ret := none) (by decide) rfl ?_
  intro p e s m args below meth c s₁ B hml hv
  obtain ⟨rfl, hsz, hP, hK, hD0⟩ := hv
  have hx := B.exec
  have hb := B.bytes
  have hr := B.returns
  have hts := atoms_spec (ws := (.code yX3_setTo cX3_setTo 7 none :: lw_g)) B.pre
  have hown : s.vm.findClass RX3 = some m.cls := findClass_of_methodNamed B.named
  have hlocks := B.notSynchronized
  subst hsz
  have g : G3 (dC, dI) L kd tys s f0 [] [103, 122, 123] f0 s.heap [] [(3, 0, a0_, .int y0_), (3, 4, a0_, .int y1_)] := G3.start hP hD0 hWT hfx
  have hl := lv_entry ([.ref a0_, .int x1_, .int x2_, .int x3_, .int x4_, .int x5_, .int x6_]) (n := 7) (Nat.le_of_ble_eq_true rfl)
  rw [lg_entry_eq]
  generalize (lg_sl ([.ref a0_, .int x1_, .int x2_, .int x3_, .int x4_, .int x5_, .int x6_]) ++ List.replicate (7 - (lg_sl ([.ref a0_, .int x1_, .int x2_, .int x3_, .int x4_, .int x5_, .int x6_])).length) Slot.unset).toArray = ls at hl ⊢
  have hl : lv_has ls 7 [(0, .ref a0_), (1, .int x1_), (2, .int x2_), (3, .int x3_), (4, .int x4_), (5, .int x5_), (6, .int x6_)] := hl
  refine W_q (fun Q hQ => ?_)
  refine lv_aload_n hx hb dX3_setTo_0 rfl (lv_at hl 0 rfl) ?_
  refine g_getr (K := 122) (C := RX3) (T := TX3) (N := 6) hx hb hts (mc_ inX3) hown hK g ma0_ ka0_ (by decide) rfl 1 (by decide) rfl (hts _ (List.mem_cons_of_mem _ t_804)) (fun _ h9 => h9) rfl dX3_setTo_1 (fun a_1 ma_1 ka_1 g => ?_)
  refine lv_iload_n hx hb dX3_setTo_4 rfl (lv_at hl 1 rfl) ?_
  refine lv_iload_n hx hb dX3_setTo_5 rfl (lv_at hl 2 rfl) ?_
  refine g_iast hx hb hK g ma_1 ka_1 (by decide) rfl (in_bd bx1_ (by decide)) bx2_ (by decide) dX3_setTo_6 (fun f H locs hM_2 g => ?_)
  refine lv_aload_n hx hb dX3_setTo_7 rfl (lv_at hl 0 rfl) ?_
  refine g_getr (K := 123) (C := RX3) (T := TX3) (N := 6) hx hb hts (mc_ inX3) hown hK g ma0_ ka0_ (by decide) rfl 2 (by decide) rfl (hts _ (List.mem_cons_of_mem _ t_807)) (fun _ h9 => h9) rfl dX3_setTo_8 (fun a_3 ma_3 ka_3 g => ?_)
  refine lv_iload_n hx hb dX3_setTo_11 rfl (lv_at hl 1 rfl) ?_
  refine lv_iload_n hx hb dX3_setTo_12 rfl (lv_at hl 3 rfl) ?_
  refine g_iast hx hb hK g ma_3 ka_3 (by decide) rfl (in_bd bx1_ (by decide)) (bd_sub bx3_ (by decide)) (by decide) dX3_setTo_13 (fun f H locs hM_4 g => ?_)
  refine lv_aload_n hx hb dX3_setTo_14 rfl (lv_at hl 0 rfl) ?_
  refine g_getr (K := 124) (C := RX3) (T := TX3) (N := 6) hx hb hts (mc_ inX3) hown hK g ma0_ ka0_ (by decide) rfl 3 (by decide) rfl (hts _ (List.mem_cons_of_mem _ t_810)) (fun _ h9 => h9) rfl dX3_setTo_15 (fun a_5 ma_5 ka_5 g => ?_)
  refine lv_iload_n hx hb dX3_setTo_18 rfl (lv_at hl 1 rfl) ?_
  refine g_aald hx hb hK g ma_5 ka_5 (by decide) rfl (by decide) (in_bd bx1_ (by decide)) dX3_setTo_19 (fun a_6 ma_6 ua_6 wa_6 => ?_)
  have ka_6 : kd a_6 = 103 := by omega
  refine lv_iconst (v := 0) hx hb dX3_setTo_20 (by decide) ?_
  refine lv_iload hx hb dX3_setTo_21 (lv_at hl 4 rfl) ?_
  refine g_iast hx hb hK g ma_6 ka_6 (by decide) rfl (by unfold vp_in; decide) (bdT x4_) (by decide) dX3_setTo_23 (fun f H locs hM_7 g => ?_)
  refine lv_aload_n hx hb dX3_setTo_24 rfl (lv_at hl 0 rfl) ?_
  refine g_getk (C := RX3) (T := TX3) (N := 6) hx hb hts (mc_ inX3) hown hK g rfl 3 (by decide) rfl (hts _ (List.mem_cons_of_mem _ t_810)) (fun _ h9 => h9) 0 rfl dX3_setTo_25 ?_
  refine lv_iload_n hx hb dX3_setTo_28 rfl (lv_at hl 1 rfl) ?_
  refine g_aald hx hb hK g ma_5 ka_5 (by decide) rfl (by decide) (in_bd bx1_ (by decide)) dX3_setTo_29 (fun a_8 ma_8 ua_8 wa_8 => ?_)
  have ka_8 : kd a_8 = 103 := by omega
  refine lv_iconst (v := 1) hx hb dX3_setTo_30 (by decide) ?_
  refine lv_iload hx hb dX3_setTo_31 (lv_at hl 5 rfl) ?_
  refine g_iast hx hb hK g ma_8 ka_8 (by decide) rfl (by unfold vp_in; decide) (bdT x5_) (by decide) dX3_setTo_33 (fun f H locs hM_9 g => ?_)
  refine lv_aload_n hx hb dX3_setTo_34 rfl (lv_at hl 0 rfl) ?_
  refine g_getk (C := RX3) (T := TX3) (N := 6) hx hb hts (mc_ inX3) hown hK g rfl 3 (by decide) rfl (hts _ (List.mem_cons_of_mem _ t_810)) (fun _ h9 => h9) 0 rfl dX3_setTo_35 ?_
  refine lv_iload_n hx hb dX3_setTo_38 rfl (lv_at hl 1 rfl) ?_
  refine g_aald hx hb hK g ma_5 ka_5 (by decide) rfl (by decide) (in_bd bx1_ (by decide)) dX3_setTo_39 (fun a_10 ma_10 ua_10 wa_10 => ?_)
  have ka_10 : kd a_10 = 103 := by omega
  refine lv_iconst (v := 2) hx hb dX3_setTo_40 (by decide) ?_
  refine lv_iload hx hb dX3_setTo_41 (lv_at hl 6 rfl) ?_
  refine g_iast hx hb hK g ma_10 ka_10 (by decide) rfl (by unfold vp_in; decide) (bdT x6_) (by decide) dX3_setTo_43 (fun f H locs hM_11 g => ?_)
  subst hQ
  exact W.vret hx hb hr (fun t ht hW => ⟨⟨_, rfl, trivial, q3_of g hK ht hW⟩, g.2.2.1.F ht⟩) g.2.2.1.2.2 dX3_setTo_44
set_option maxHeartbeats 4000000 in
set_option maxRecDepth 100000 in
theorem r_X3_addCall_2 (l : Launch) (dC : Nat → ClassId) (dI : Nat → Nat → Nat) (L : List Nat) (kd : Nat → Nat) (tys : List (ClassId × FieldType)) (f0 : Nat → va_E) (sz : Nat) (hWT : WT L kd tys f0) (a0_ : Nat) (ma0_ : a0_ ∈ L) (ka0_ : kd a0_ = 3) (x1_ : Int32) (bx1_ : bd 0 2 x1_) (x2_ : Int32) (bx2_ : bd 0 11 x2_) (x3_ : Int32) (x4_ : Int32) (x5_ : Int32) (y0_ : Int32) (by0_ : bd 0 9 y0_) (y1_ : Int32) (by1_ : bd 1 3 y1_) (hfx : Fs L kd f0 [(3, 0, a0_, .int y0_), (3, 4, a0_, .int y1_)]) : Met l yX3_addCall (.code yX3_addCall cX3_addCall 6 none :: lw_g) ({ frames := 1, cells := 0, slots := 0, locals := 26 }) (va_Pc [.ref a0_, .int x1_, .int x2_, .int x3_, .int x4_, .int x5_] (P3 (dC, dI) L tys f0 sz)) (va_Qv (fun (f : Nat → va_E) => (∃ z0_ : Int32, bd 1 10 z0_ ∧ Fs L kd f [(3, 0, a0_, .int z0_)])) (Q3 (dC, dI) L kd tys [(3, 0)] [103, 122, 123] f0 sz) (pA L sz)) 0 0 (pA L sz) := by
  refine Met.ofW (cc := cX3_addCall) (maxL := 6) (ret := none) (by decide) rfl ?_
  intro p e s m args below meth c s₁ B hml hv
  obtain ⟨rfl, hsz, hP, hK, hD0⟩ := hv
  have hx := B.exec
  have hb := B.bytes
  have hr := B.returns
  have hts := atoms_spec (ws := (.code yX3_addCall cX3_addCall 6 none :: lw_g)) B.pre
  have hown : s.vm.findClass RX3 = some m.cls := findClass_of_methodNamed B.named
  have hlocks := B.notSynchronized
  subst hsz
  have g : G3 (dC, dI) L kd tys s f0 [(3, 0)] [103, 122, 123] f0 s.heap [] [(3, 0, a0_, .int y0_), (3, 4, a0_, .int y1_)] := G3.start hP hD0 hWT hfx
  have hl := lv_entry ([.ref a0_, .int x1_, .int x2_, .int x3_, .int x4_, .int x5_]) (n := 6) (Nat.le_of_ble_eq_true rfl)
  rw [lg_entry_eq]
  generalize (lg_sl ([.ref a0_, .int x1_, .int x2_, .int x3_, .int x4_, .int x5_]) ++ List.replicate (6 - (lg_sl ([.ref a0_, .int x1_, .int x2_, .int x3_, .int x4_, .int x5_])).length) Slot.unset).toArray = ls at hl ⊢
  have hl : lv_has ls 6 [(0, .ref a0_), (1, .int x1_), (2, .int x2_), (3, .int x3_), (4, .int x4_), (5, .int x5_)] := hl
  refine W_q (fun Q hQ => ?_)
  refine lv_aload_n hx hb dX3_addCall_0 rfl (lv_at hl 0 rfl) ?_
  refine g_getk (C := RX3) (T := TX3) (N := 6) hx hb hts (mc_ inX3) hown hK g rfl 0 (by decide) rfl (hts _ (List.mem_cons_of_mem _ t_801)) (fun _ h9 => h9) 0 rfl dX3_addCall_1 ?_
  refine lv_bipush (v := 10) hx hb dX3_addCall_4 (by decide) ?_
  have kb_10 : bd 10 10 (10 : Int32) := ⟨by decide, by decide⟩
  refine lv_icmp_ge (tgt := 34) hx hb dX3_addCall_6 (by decide) (fun c_1 => ?_) (fun c_1 => ?_)
  · have fc_1 := le_f c_1
    have b_2 : bd 10 9 (10 : Int32) := leL fc_1 kb_10 by0_ (by decide)
    exact bd_no (eqX rfl b_2 kb_10 (lo := 10) (hi := 9) (by decide)) (by decide)
  · have fc_1 := nle_f c_1
    refine lv_aload_n hx hb dX3_addCall_9 rfl (lv_at hl 0 rfl) ?_
    refine lv_aload_n hx hb dX3_addCall_10 rfl (lv_at hl 0 rfl) ?_
    refine g_getk (C := RX3) (T := TX3) (N := 6) hx hb hts (mc_ inX3) hown hK g rfl 0 (by decide) rfl (hts _ (List.mem_cons_of_mem _ t_801)) (fun _ h9 => h9) 0 rfl dX3_addCall_11 ?_
    refine lv_iload_n hx hb dX3_addCall_14 rfl (lv_at hl 1 rfl) ?_
    refine lv_iload_n hx hb dX3_addCall_15 rfl (lv_at hl 2 rfl) ?_
    refine lv_iload_n hx hb dX3_addCall_16 rfl (lv_at hl 3 rfl) ?_
    refine lv_iload hx hb dX3_addCall_17 (lv_at hl 4 rfl) ?_
    refine lv_iload hx hb dX3_addCall_19 (lv_at hl 5 rfl) ?_
    refine g_callv (va_runV (As := [.int y0_, .int x1_, .int x2_, .int x3_, .int x4_, .int x5_]) (rest := []) ⟨hx, hb, hml, hown, hts⟩ (r_X3_setTo_3 l dC dI L kd tys f0 s.heap.size g.2.2.2.1 a0_ ma0_ ka0_ y0_ by0_ x1_ bx1_ x2_ bx2_ x3_ x4_ x5_ y0_ by0_ y1_ by1_ (g.fcts [0, 1] rfl)) (cwV 6 hts (gV_ t_1485 t_1487 t_52 t_196 t_1488) rfl rfl rfl (by decide +kernel) ⟨(Nat.le_of_ble_eq_true rfl), (Nat.le_of_ble_eq_true rfl)⟩) (pre3V g hK ma0_ ka0_ (by decide) (q := (RX3, TX3, 6)) rfl) rfl rfl hl.1 rfl (lv_room (Nat.le_of_ble_eq_true rfl)) dX3_addCall_21 ⟨(Nat.le_of_ble_eq_true rfl), (Nat.le_of_ble_eq_true rfl)⟩) g hK (by decide) (by decide) (fx' := [(3, 0, a0_, .int y0_), (3, 4, a0_, .int y1_)]) rfl (fun fr_3 H locs hp hMr_3 g => ?_)
    refine lv_aload_n hx hb dX3_addCall_24 rfl (lv_at hl 0 rfl) ?_
    refine lv_dup hx hb dX3_addCall_25 rfl ?_
    refine g_getk (C := RX3) (T := TX3) (N := 6) hx hb hts (mc_ inX3) hown hK g rfl 0 (by decide) rfl (hts _ (List.mem_cons_of_mem _ t_801)) (fun _ h9 => h9) 0 rfl dX3_addCall_26 ?_
    refine lv_iconst (v := 1) hx hb dX3_addCall_29 (by decide) ?_
    have kb_1 : bd 1 1 (1 : Int32) := ⟨by decide, by decide⟩
    refine lv_iadd hx hb dX3_addCall_30 ?_
    refine lv_topi (fun y_4 ey_4 => ?_)
    have ty_4 := add_bd ey_4 by0_ kb_1 (by decide)
    have b_5 : bd 1 10 y_4 := add_rg ty_4 by0_ kb_1 (by decide)
    refine g_put (C := RX3) (T := TX3) (N := 6) hx hb hts (mc_ inX3) tyX3 tyX3_ok nmX3 hown hK g ma0_ ka0_ (by decide) rfl 0 (by decide) (hts _ (List.mem_cons_of_mem _ t_801)) (fun _ h9 => h9) rfl rfl (okV_i (bd_sub b_5 (by decide))) rfl rfl (by decide) (Or.inr (Or.inl (by decide))) (fx' := [(3, 4, a0_, .int y1_)]) rfl dX3_addCall_31 (fun f H locs hM_6 g => ?_)
    subst hQ
    exact W.vret hx hb hr (fun t ht hW => ⟨⟨_, rfl, ⟨y_4, b_5, (g.fcts [0] rfl)⟩, q3_of g hK ht hW⟩, g.2.2.1.F ht⟩) g.2.2.1.2.2 dX3_addCall_34
set_option maxHeartbeats 4000000 in
set_option maxRecDepth 100000 in
theorem r_X10_appendCall (l : Launch) (dC : Nat → ClassId) (dI : Nat → Nat → Nat) (L : List Nat) (kd : Nat → Nat) (tys : List (ClassId × FieldType)) (f0 : Nat → va_E) (sz : Nat) (hWT : WT L kd tys f0) (a0_ : Nat) (ma0_ : a0_ ∈ L) (ka0_ : kd a0_ = 10) (x1_ : Int32) (bx1_ : bd 0 2 x1_) (x2_ : Int32) (bx2_ : bd 0 11 x2_) (x3_ : Int32) (x4_ : Int32) (x5_ : Int32) (q0_ : Nat) (mq0_ : q0_ ∈ L) (kq0_ : kd q0_ = 3) (y0_ : Int32) (by0_ : bd 0 9 y0_) (y1_ : Int32) (by1_ : bd 1 3 y1_) (hfx : Fs L kd f0 [(10, 2, a0_, .ref q0_), (3, 0, q0_, .int y0_), (3, 4, q0_, .int y1_)]) : Met l yX10_appendCall (.code yX10_appendCall cX10_appendCall 6 (some .int) :: lw_g) ({ frames := 2, cells := 0, slots := 0, locals := 51 }) (va_Pc [.ref a0_, .int x1_, .int x2_, .int x3_, .int x4_, .int x5_] (P3 (dC, dI) L tys f0 sz)) (va_Qi (fun (r : Int32) (f : Nat → va_E) => (bd 1 10 r ∧ ∃ z1_ : Int32, bd 1 10 z1_ ∧ Fs L kd f [(10, 8, a0_, .int 0), (3, 0, q0_, .int z1_)])) (Q3 (dC, dI) L kd tys [(3, 0), (10, 8)] [103, 122, 123, 130, 131] f0 sz) (pA L sz)) 0 0 (pA L sz) := by
  refine Met.ofW (cc := cX10_appendCall) (maxL := 6) (ret := (some .int)) (by decide) rfl ?_
  intro p e s m args below meth c s₁ B hml hv
  obtain ⟨rfl, hsz, hP, hK, hD0⟩ := hv
  have hx := B.exec
  have hb := B.bytes
  have hr := B.returns
  have hts := atoms_spec (ws := (.code yX10_appendCall cX10_appendCall 6 (some .int) :: lw_g)) B.pre
  have hown : s.vm.findClass RX10 = some m.cls := findClass_of_methodNamed B.named
  have hlocks := B.notSynchronized
  subst hsz
  have g : G3 (dC, dI) L kd tys s f0 [(3, 0), (10, 8)] [103, 122, 123, 130, 131] f0 s.heap [] [(10, 2, a0_, .ref q0_), (3, 0, q0_, .int y0_), (3, 4, q0_, .int y1_)] := G3.start hP hD0 hWT hfx
  have hl := lv_entry ([.ref a0_, .int x1_, .int x2_, .int x3_, .int x4_, .int x5_]) (n := 6) (Nat.le_of_ble_eq_true rfl)
  rw [lg_entry_eq]
  generalize (lg_sl ([.ref a0_, .int x1_, .int x2_, .int x3_, .int x4_, .int x5_]) ++ List.replicate (6 - (lg_sl ([.ref a0_, .int x1_, .int x2_, .int x3_, .int x4_, .int x5_])).length) Slot.unset).toArray = ls at hl ⊢
  have hl : lv_has ls 6 [(0, .ref a0_), (1, .int x1_), (2, .int x2_), (3, .int x3_), (4, .int x4_), (5, .int x5_)] := hl
  refine W_q (fun Q hQ => ?_)
  refine lv_aload_n hx hb dX10_appendCall_0 rfl (lv_at hl 0 rfl) ?_
  refine g_getr (K := 4) (C := RX10) (T := TX10) (N := 10) hx hb hts (mc_ inX10) hown hK g ma0_ ka0_ (by decide) rfl 4 (by decide) rfl (hts _ (List.mem_cons_of_mem _ t_917)) (fun _ h9 => h9) rfl dX10_appendCall_1 (fun a_1 ma_1 ka_1 g => ?_)
  refine lv_aload_n hx hb dX10_appendCall_4 rfl (lv_at hl 0 rfl) ?_
  refine g_getk (C := RX10) (T := TX10) (N := 10) hx hb hts (mc_ inX10) hown hK g rfl 2 (by decide) rfl (hts _ (List.mem_cons_of_mem _ t_914)) (fun _ h9 => h9) 1 rfl dX10_appendCall_5 ?_
  refine g_getk (C := RX3) (T := TX3) (N := 6) hx hb hts (mc_ inX3) hown hK g rfl 0 (by decide) rfl (hts _ (List.mem_cons_of_mem _ t_802)) (fun _ h9 => h9) 2 rfl dX10_appendCall_8 ?_
  refine g_callv (va_runV (As := [.int y0_]) (rest := []) ⟨hx, hb, hml, hown, hts⟩ (r_X4_forgetCall l dC dI L kd tys f0 s.heap.size g.2.2.2.1 a_1 ma_1 ka_1 y0_) (cwV 1 hts (gV_ t_1480 t_1431 t_1432 t_197 t_1433) rfl rfl rfl (by decide +kernel) ⟨(Nat.le_of_ble_eq_true rfl), (Nat.le_of_ble_eq_true rfl)⟩) (pre3V g hK ma_1 ka_1 (by decide) (q := (RX4, TX4, 17)) rfl) rfl rfl hl.1 rfl (lv_room (Nat.le_of_ble_eq_true rfl)) dX10_appendCall_11 ⟨(Nat.le_of_ble_eq_true rfl), (Nat.le_of_ble_eq_true rfl)⟩) g hK (by decide) (by decide) (fx' := [(10, 4, a0_, .ref a_1), (10, 2, a0_, .ref q0_), (3, 0, q0_, .int y0_), (3, 4, q0_, .int y1_)]) rfl (fun fr_2 H locs hp hMr_2 g => ?_)
  refine lv_aload_n hx hb dX10_appendCall_14 rfl (lv_at hl 0 rfl) ?_
  refine g_getk (C := RX10) (T := TX10) (N := 10) hx hb hts (mc_ inX10) hown hK g rfl 2 (by decide) rfl (hts _ (List.mem_cons_of_mem _ t_914)) (fun _ h9 => h9) 1 rfl dX10_appendCall_15 ?_
  refine lv_iload_n hx hb dX10_appendCall_18 rfl (lv_at hl 1 rfl) ?_
  refine lv_iload_n hx hb dX10_appendCall_19 rfl (lv_at hl 2 rfl) ?_
  refine lv_iload_n hx hb dX10_appendCall_20 rfl (lv_at hl 3 rfl) ?_
  refine lv_iload hx hb dX10_appendCall_21 (lv_at hl 4 rfl) ?_
  refine lv_iload hx hb dX10_appendCall_23 (lv_at hl 5 rfl) ?_
  refine g_callv (va_runV (As := [.int x1_, .int x2_, .int x3_, .int x4_, .int x5_]) (rest := []) ⟨hx, hb, hml, hown, hts⟩ (r_X3_addCall_2 l dC dI L kd tys fr_2 H.size g.2.2.2.1 q0_ mq0_ kq0_ x1_ bx1_ x2_ bx2_ x3_ x4_ x5_ y0_ by0_ y1_ by1_ (g.fcts [2, 3] rfl)) (cwV 5 hts (gV_ t_1514 t_1515 t_1516 t_196 t_1517) rfl rfl rfl (by decide +kernel) ⟨(Nat.le_of_ble_eq_true rfl), (Nat.le_of_ble_eq_true rfl)⟩) (pre3V g hK mq0_ kq0_ (by decide) (q := (RX3, TX3, 6)) rfl) rfl rfl hl.1 rfl (lv_room (Nat.le_of_ble_eq_true rfl)) dX10_appendCall_25 ⟨(Nat.le_of_ble_eq_true rfl), (Nat.le_of_ble_eq_true rfl)⟩) g hK (by decide) (by decide) (fx' := [(10, 4, a0_, .ref a_1), (10, 2, a0_, .ref q0_), (3, 4, q0_, .int y1_)]) rfl (fun fr_3 H locs hp hMr_3 g => ?_)
  obtain ⟨x_4, h_5, hF_6⟩ := hp
  have g := g.more hF_6
  refine lv_aload_n hx hb dX10_appendCall_28 rfl (lv_at hl 0 rfl) ?_
  refine lv_iconst (v := 0) hx hb dX10_appendCall_29 (by decide) ?_
  have kb_0 : bd 0 0 (0 : Int32) := ⟨by decide, by decide⟩
  refine g_put (C := RX10) (T := TX10) (N := 10) hx hb hts (mc_ inX10) tyX10 tyX10_ok nmX10 hown hK g ma0_ ka0_ (by decide) rfl 8 (by decide) (hts _ (List.mem_cons_of_mem _ t_924)) (fun _ h9 => h9) rfl rfl (okV_i (bd_sub kb_0 (by decide))) rfl rfl (by decide) (Or.inr (Or.inl (by decide))) (fx' := [(3, 0, q0_, .int x_4), (10, 4, a0_, .ref a_1), (10, 2, a0_, .ref q0_), (3, 4, q0_, .int y1_)]) rfl dX10_appendCall_30 (fun f H locs hM_7 g => ?_)
  refine lv_aload_n hx hb dX10_appendCall_33 rfl (lv_at hl 0 rfl) ?_
  refine g_getk (C := RX10) (T := TX10) (N := 10) hx hb hts (mc_ inX10) hown hK g rfl 2 (by decide) rfl (hts _ (List.mem_cons_of_mem _ t_914)) (fun _ h9 => h9) 3 rfl dX10_appendCall_34 ?_
  refine g_getk (C := RX3) (T := TX3) (N := 6) hx hb hts (mc_ inX3) hown hK g rfl 0 (by decide) rfl (hts _ (List.mem_cons_of_mem _ t_802)) (fun _ h9 => h9) 1 rfl dX10_appendCall_37 ?_
  subst hQ
  exact W.iret (v := x_4) hx hb hr (fun t ht hW => ⟨⟨_, _, rfl, ⟨h_5, x_4, h_5, (g.fcts [0, 1] rfl)⟩, q3_of g hK ht hW⟩, g.2.2.1.F ht⟩) g.2.2.1.2.2 dX10_appendCall_40
set_option maxHeartbeats 4000000 in
set_option maxRecDepth 100000 in
theorem r_X11_call (l : Launch) (dC : Nat → ClassId) (dI : Nat → Nat → Nat) (L : List Nat) (kd : Nat → Nat) (tys : List (ClassId × FieldType)) (f0 : Nat → va_E) (sz : Nat) (hWT : WT L kd tys f0) (a0_ : Nat) (ma0_ : a0_ ∈ L) (ka0_ : kd a0_ = 11) (x1_ : Int32) (x2_ : Int32) (x3_ : Int32) (x4_ : Int32) (x5_ : Int32) : Met l yX11_call (.code yX11_call cX11_call 6 (some .int) :: lw_g) ({ frames := 3, cells := 0, slots := 0, locals := 76 }) (va_Pc [.ref a0_, .int x1_, .int x2_, .int x3_, .int x4_, .int x5_] (P3 (dC, dI) L tys f0 sz)) (va_Qi (fun (r : Int32) (f : Nat → va_E) => (bd (-3) 10 r ∧ True)) (Q3 (dC, dI) L kd tys [(3, 0), (10, 8)] [103, 122, 123, 130, 131] f0 sz) (pA L sz)) 0 0 (pA L sz) := by
  refine Met.ofW (cc := cX11_call) (maxL := 6) (ret := (some .int)) (by decide) rfl ?_
  intro p e s m args below meth c s₁ B hml hv
  obtain ⟨rfl, hsz, hP, hK, hD0⟩ := hv
  have hx := B.exec
  have hb := B.bytes
  have hr := B.returns
  have hts := atoms_spec (ws := (.code yX11_call cX11_call 6 (some .int) :: lw_g)) B.pre
  have hown : s.vm.findClass RX11 = some m.cls := findClass_of_methodNamed B.named
  have hlocks := B.notSynchronized
  subst hsz
  have g : G3 (dC, dI) L kd tys s f0 [(3, 0), (10, 8)] [103, 122, 123, 130, 131] f0 s.heap [] [] := G3.start hP hD0 hWT Fs.nil
  have hl := lv_entry ([.ref a0_, .int x1_, .int x2_, .int x3_, .int x4_, .int x5_]) (n := 6) (Nat.le_of_ble_eq_true rfl)
  rw [lg_entry_eq]
  generalize (lg_sl ([.ref a0_, .int x1_, .int x2_, .int x3_, .int x4_, .int x5_]) ++ List.replicate (6 - (lg_sl ([.ref a0_, .int x1_, .int x2_, .int x3_, .int x4_, .int x5_])).length) Slot.unset).toArray = ls at hl ⊢
  have hl : lv_has ls 6 [(0, .ref a0_), (1, .int x1_), (2, .int x2_), (3, .int x3_), (4, .int x4_), (5, .int x5_)] := hl
  refine W_q (fun Q hQ => ?_)
  refine lv_aload_n hx hb dX11_call_0 rfl (lv_at hl 0 rfl) ?_
  refine g_getr (K := 10) (C := RX11) (T := TX11) (N := 8) hx hb hts (mc_ inX11) hown hK g ma0_ ka0_ (by decide) rfl 3 (by decide) rfl (hts _ (List.mem_cons_of_mem _ t_951)) (fun _ h9 => h9) rfl dX11_call_1 (fun a_1 ma_1 ka_1 g => ?_)
  refine g_getr (K := 3) (C := RX10) (T := TX10) (N := 10) hx hb hts (mc_ inX10) hown hK g ma_1 ka_1 (by decide) rfl 2 (by decide) rfl (hts _ (List.mem_cons_of_mem _ t_915)) (fun _ h9 => h9) rfl dX11_call_4 (fun a_2 ma_2 ka_2 g => ?_)
  refine lv_aload_n hx hb dX11_call_7 rfl (lv_at hl 0 rfl) ?_
  refine g_getr (K := 7) (C := RX11) (T := TX11) (N := 8) hx hb hts (mc_ inX11) hown hK g ma0_ ka0_ (by decide) rfl 4 (by decide) rfl (hts _ (List.mem_cons_of_mem _ t_952)) (fun _ h9 => h9) rfl dX11_call_8 (fun a_3 ma_3 ka_3 g => ?_)
  refine lv_iload_n hx hb dX11_call_11 rfl (lv_at hl 1 rfl) ?_
  refine lv_iload_n hx hb dX11_call_12 rfl (lv_at hl 2 rfl) ?_
  refine lv_iload_n hx hb dX11_call_13 rfl (lv_at hl 3 rfl) ?_
  refine lv_iload hx hb dX11_call_14 (lv_at hl 4 rfl) ?_
  refine lv_iload hx hb dX11_call_16 (lv_at hl 5 rfl) ?_
  refine g_calli (va_runV (As := [.ref a_3, .int x1_, .int x2_, .int x3_, .int x4_, .int x5_]) (rest := []) ⟨hx, hb, hml, hown, hts⟩ (r_X3_mayTake l dC dI L kd tys f0 s.heap.size g.2.2.2.1 a_2 ma_2 ka_2 a_3 ma_3 ka_3 x1_ x2_ x3_ x4_ x5_) (cwV 6 hts (gV_ t_1493 t_1494 t_1495 t_196 t_1496) rfl rfl rfl (by decide +kernel) ⟨(Nat.le_of_ble_eq_true rfl), (Nat.le_of_ble_eq_true rfl)⟩) (pre3V g hK ma_2 ka_2 (by decide) (q := (RX3, TX3, 6)) rfl) rfl rfl hl.1 rfl (lv_room (Nat.le_of_ble_eq_true rfl)) dX11_call_18 ⟨(Nat.le_of_ble_eq_true rfl), (Nat.le_of_ble_eq_true rfl)⟩) g hK (by decide) (by decide) (fx' := [(11, 4, a0_, .ref a_3), (10, 2, a_1, .ref a_2), (11, 3, a0_, .ref a_1)]) rfl (fun r_4 fr_4 H locs hp hMr_4 g => ?_)
  rcases hp with ⟨h_5, -⟩ | ⟨h_6, h_7, h_8, x_9, h_10, x_11, h_12, hF_13⟩
  · obtain rfl : r_4 = 0 := h_5
    refine lv_if_ne (tgt := 27) hx hb dX11_call_21 (by decide) (fun c_ => absurd c_ (by decide)) (fun c_ => ?_)
    refine lv_bipush (v := (-2)) hx hb dX11_call_24 (by decide) ?_
    have kb_m2 : bd (-2) (-2) ((-2) : Int32) := ⟨by decide, by decide⟩
    subst hQ
    exact W.iret (v := (-2)) hx hb hr (fun t ht hW => ⟨⟨_, _, rfl, ⟨(bd_sub kb_m2 (by decide)), trivial⟩, q3_of g hK ht hW⟩, g.2.2.1.F ht⟩) g.2.2.1.2.2 dX11_call_26
  · obtain rfl : r_4 = 1 := h_6
    have b_14 : bd 0 2 x1_ := eqX rfl (bdT x1_) h_7 (by decide)
    have b_15 : bd 0 11 x2_ := eqX rfl (bdT x2_) h_8 (by decide)
    have g := g.more hF_13
    refine lv_if_ne (tgt := 27) hx hb dX11_call_21 (by decide) (fun c_ => ?_) (fun c_ => absurd c_ (by decide))
    refine lv_aload_n hx hb dX11_call_27 rfl (lv_at hl 0 rfl) ?_
    refine g_getk (C := RX11) (T := TX11) (N := 8) hx hb hts (mc_ inX11) hown hK g rfl 3 (by decide) rfl (hts _ (List.mem_cons_of_mem _ t_951)) (fun _ h9 => h9) 4 rfl dX11_call_28 ?_
    refine g_getk (C := RX10) (T := TX10) (N := 10) hx hb hts (mc_ inX10) hown hK g rfl 2 (by decide) rfl (hts _ (List.mem_cons_of_mem _ t_915)) (fun _ h9 => h9) 3 rfl dX11_call_31 ?_
    refine g_calli (va_runV (As := []) (rest := []) ⟨hx, hb, hml, hown, hts⟩ (r_X3_roomForCall l dC dI L kd tys fr_4 H.size g.2.2.2.1 a_2 ma_2 ka_2) (cwV 0 hts (gV_ t_1506 t_1507 t_1508 t_196 t_1509) rfl rfl rfl (by decide +kernel) ⟨(Nat.le_of_ble_eq_true rfl), (Nat.le_of_ble_eq_true rfl)⟩) (pre3V g hK ma_2 ka_2 (by decide) (q := (RX3, TX3, 6)) rfl) rfl rfl hl.1 rfl (lv_room (Nat.le_of_ble_eq_true rfl)) dX11_call_34 ⟨(Nat.le_of_ble_eq_true rfl), (Nat.le_of_ble_eq_true rfl)⟩) g hK (by decide) (by decide) (fx' := [(7, 1, a_3, .int x_9), (3, 4, a_2, .int x_11), (11, 4, a0_, .ref a_3), (10, 2, a_1, .ref a_2), (11, 3, a0_, .ref a_1)]) rfl (fun r_16 fr_16 H locs hp hMr_16 g => ?_)
    rcases hp with ⟨h_17, x_18, h_19, hF_20⟩ | ⟨h_21, x_22, h_23, hF_24⟩
    · obtain rfl : r_16 = 0 := h_17
      have g := g.more hF_20
      refine lv_if_ne (tgt := 43) hx hb dX11_call_37 (by decide) (fun c_ => absurd c_ (by decide)) (fun c_ => ?_)
      refine lv_bipush (v := (-3)) hx hb dX11_call_40 (by decide) ?_
      have kb_m3 : bd (-3) (-3) ((-3) : Int32) := ⟨by decide, by decide⟩
      subst hQ
      exact W.iret (v := (-3)) hx hb hr (fun t ht hW => ⟨⟨_, _, rfl, ⟨(bd_sub kb_m3 (by decide)), trivial⟩, q3_of g hK ht hW⟩, g.2.2.1.F ht⟩) g.2.2.1.2.2 dX11_call_42
    · obtain rfl : r_16 = 1 := h_21
      have g := g.more hF_24
      refine lv_if_ne (tgt := 43) hx hb dX11_call_37 (by decide) (fun c_ => ?_) (fun c_ => absurd c_ (by decide))
      refine lv_aload_n hx hb dX11_call_43 rfl (lv_at hl 0 rfl) ?_
      refine g_getk (C := RX11) (T := TX11) (N := 8) hx hb hts (mc_ inX11) hown hK g rfl 3 (by decide) rfl (hts _ (List.mem_cons_of_mem _ t_951)) (fun _ h9 => h9) 5 rfl dX11_call_44 ?_
      refine lv_iload_n hx hb dX11_call_47 rfl (lv_at hl 1 rfl) ?_
      refine lv_iload_n hx hb dX11_call_48 rfl (lv_at hl 2 rfl) ?_
      refine lv_iload_n hx hb dX11_call_49 rfl (lv_at hl 3 rfl) ?_
      refine lv_iload hx hb dX11_call_50 (lv_at hl 4 rfl) ?_
      refine lv_iload hx hb dX11_call_52 (lv_at hl 5 rfl) ?_
      refine g_calli (va_runV (As := [.int x1_, .int x2_, .int x3_, .int x4_, .int x5_]) (rest := []) ⟨hx, hb, hml, hown, hts⟩ (r_X10_appendCall l dC dI L kd tys fr_16 H.size g.2.2.2.1 a_1 ma_1 ka_1 x1_ b_14 x2_ b_15 x3_ x4_ x5_ a_2 ma_2 ka_2 x_22 h_23 x_11 h_12 (g.fcts [4, 0, 2] rfl)) (cwV 5 hts (gV_ t_1510 t_1511 t_1512 t_194 t_1513) rfl rfl rfl (by decide +kernel) ⟨(Nat.le_of_ble_eq_true rfl), (Nat.le_of_ble_eq_true rfl)⟩) (pre3V g hK ma_1 ka_1 (by decide) (q := (RX10, TX10, 10)) rfl) rfl rfl hl.1 rfl (lv_room (Nat.le_of_ble_eq_true rfl)) dX11_call_54 ⟨(Nat.le_of_ble_eq_true rfl), (Nat.le_of_ble_eq_true rfl)⟩) g hK (by decide) (by decide) (fx' := [(7, 1, a_3, .int x_9), (3, 4, a_2, .int x_11), (11, 4, a0_, .ref a_3), (10, 2, a_1, .ref a_2), (11, 3, a0_, .ref a_1)]) rfl (fun r_25 fr_25 H locs hp hMr_25 g => ?_)
      obtain ⟨h_26, x_27, h_28, hF_29⟩ := hp
      have g := g.more hF_29
      subst hQ
      exact W.iret (v := r_25) hx hb hr (fun t ht hW => ⟨⟨_, _, rfl, ⟨(bd_sub h_26 (by decide)), trivial⟩, q3_of g hK ht hW⟩, g.2.2.1.F ht⟩) g.2.2.1.2.2 dX11_call_57
set_option maxHeartbeats 4000000 in
set_option maxRecDepth 100000 in
theorem r_X4_wipe (l : Launch) (dC : Nat → ClassId) (dI : Nat → Nat → Nat) (L : List Nat) (kd : Nat → Nat) (tys : List (ClassId × FieldType)) (f0 : Nat → va_E) (sz : Nat) (hWT : WT L kd tys f0) (a0_ : Nat) (ma0_ : a0_ ∈ L) (ka0_ : kd a0_ = 4) : Met l yX4_wipe (.code yX4_wipe cX4_wipe 2 none :: lw_g) ({ frames := 1, cells := 0, slots := 0, locals := 21 }) (va_Pc [.ref a0_] (P3 (dC, dI) L tys f0 sz)) (va_Qv (fun (f : Nat → va_E) => (Fs L kd f [(4, 14, a0_, .int 0), (4, 6, a0_, .int 0), (4, 4, a0_, .int (-1)), (4, 3, a0_, .int (-1)), (4, 2, a0_, .int (-1)), (4, 1, a0_, .int (-1)), (4, 0, a0_, .int 0)])) (Q3 (dC, dI) L kd tys [(4, 0), (4, 1), (4, 2), (4, 3), (4, 4), (4, 5), (4, 6), (4, 14)] [130, 131] f0 sz) (pA L sz)) 0 0 (pA L sz) := by
  refine Met.ofW (cc := cX4_wipe) (maxL := 2) (ret := none) (by decide) rfl ?_
  intro p e s m args below meth c s₁ B hml hv
  obtain ⟨rfl, hsz, hP, hK, hD0⟩ := hv
  have hx := B.exec
  have hb := B.bytes
  have hr := B.returns
  have hts := atoms_spec (ws := (.code yX4_wipe cX4_wipe 2 none :: lw_g)) B.pre
  have hown : s.vm.findClass RX4 = some m.cls := findClass_of_methodNamed B.named
  have hlocks := B.notSynchronized
  subst hsz
  have g : G3 (dC, dI) L kd tys s f0 [(4, 0), (4, 1), (4, 2), (4, 3), (4, 4), (4, 5), (4, 6), (4, 14)] [130, 131] f0 s.heap [] [] := G3.start hP hD0 hWT Fs.nil
  have hl := lv_entry ([.ref a0_]) (n := 2) (Nat.le_of_ble_eq_true rfl)
  rw [lg_entry_eq]
  generalize (lg_sl ([.ref a0_]) ++ List.replicate (2 - (lg_sl ([.ref a0_])).length) Slot.unset).toArray = ls at hl ⊢
  have hl : lv_has ls 2 [(0, .ref a0_)] := hl
  refine W_q (fun Q hQ => ?_)
  refine lv_aload_n hx hb dX4_wipe_0 rfl (lv_at hl 0 rfl) ?_
  refine lv_iconst (v := 0) hx hb dX4_wipe_1 (by decide) ?_
  have kb_0 : bd 0 0 (0 : Int32) := ⟨by decide, by decide⟩
  refine g_put (C := RX4) (T := TX4) (N := 17) hx hb hts (mc_ inX4) tyX4 tyX4_ok nmX4 hown hK g ma0_ ka0_ (by decide) rfl 0 (by decide) (hts _ (List.mem_cons_of_mem _ t_836)) (fun _ h9 => h9) rfl rfl (okV_i (bd_sub kb_0 (by decide))) rfl rfl (by decide) (Or.inr (Or.inl (by decide))) (fx' := []) rfl dX4_wipe_2 (fun f H locs hM_1 g => ?_)
  refine lv_aload_n hx hb dX4_wipe_5 rfl (lv_at hl 0 rfl) ?_
  refine lv_iconst (v := (-1)) hx hb dX4_wipe_6 (by decide) ?_
  have kb_m1 : bd (-1) (-1) ((-1) : Int32) := ⟨by decide, by decide⟩
  refine g_put (C := RX4) (T := TX4) (N := 17) hx hb hts (mc_ inX4) tyX4 tyX4_ok nmX4 hown hK g ma0_ ka0_ (by decide) rfl 1 (by decide) (hts _ (List.mem_cons_of_mem _ t_839)) (fun _ h9 => h9) rfl rfl (okV_i (bd_sub kb_m1 (by decide))) rfl rfl (by decide) (Or.inr (Or.inl (by decide))) (fx' := [(4, 0, a0_, .int 0)]) rfl dX4_wipe_7 (fun f H locs hM_2 g => ?_)
  refine lv_aload_n hx hb dX4_wipe_10 rfl (lv_at hl 0 rfl) ?_
  refine lv_iconst (v := (-1)) hx hb dX4_wipe_11 (by decide) ?_
  refine g_put (C := RX4) (T := TX4) (N := 17) hx hb hts (mc_ inX4) tyX4 tyX4_ok nmX4 hown hK g ma0_ ka0_ (by decide) rfl 2 (by decide) (hts _ (List.mem_cons_of_mem _ t_841)) (fun _ h9 => h9) rfl rfl (okV_i (bd_sub kb_m1 (by decide))) rfl rfl (by decide) (Or.inr (Or.inl (by decide))) (fx' := [(4, 1, a0_, .int (-1)), (4, 0, a0_, .int 0)]) rfl dX4_wipe_12 (fun f H locs hM_3 g => ?_)
  refine lv_aload_n hx hb dX4_wipe_15 rfl (lv_at hl 0 rfl) ?_
  refine lv_iconst (v := (-1)) hx hb dX4_wipe_16 (by decide) ?_
  refine g_put (C := RX4) (T := TX4) (N := 17) hx hb hts (mc_ inX4) tyX4 tyX4_ok nmX4 hown hK g ma0_ ka0_ (by decide) rfl 3 (by decide) (hts _ (List.mem_cons_of_mem _ t_843)) (fun _ h9 => h9) rfl rfl (okV_i (bd_sub kb_m1 (by decide))) rfl rfl (by decide) (Or.inr (Or.inl (by decide))) (fx' := [(4, 2, a0_, .int (-1)), (4, 1, a0_, .int (-1)), (4, 0, a0_, .int 0)]) rfl dX4_wipe_17 (fun f H locs hM_4 g => ?_)
  refine lv_aload_n hx hb dX4_wipe_20 rfl (lv_at hl 0 rfl) ?_
  refine lv_iconst (v := (-1)) hx hb dX4_wipe_21 (by decide) ?_
  refine g_put (C := RX4) (T := TX4) (N := 17) hx hb hts (mc_ inX4) tyX4 tyX4_ok nmX4 hown hK g ma0_ ka0_ (by decide) rfl 4 (by decide) (hts _ (List.mem_cons_of_mem _ t_845)) (fun _ h9 => h9) rfl rfl (okV_i (bd_sub kb_m1 (by decide))) rfl rfl (by decide) (Or.inr (Or.inl (by decide))) (fx' := [(4, 3, a0_, .int (-1)), (4, 2, a0_, .int (-1)), (4, 1, a0_, .int (-1)), (4, 0, a0_, .int 0)]) rfl dX4_wipe_22 (fun f H locs hM_5 g => ?_)
  refine lv_aload_n hx hb dX4_wipe_25 rfl (lv_at hl 0 rfl) ?_
  refine lv_lconst (v := 0) hx hb dX4_wipe_26 (by decide) ?_
  refine g_put (C := RX4) (T := TX4) (N := 17) hx hb hts (mc_ inX4) tyX4 tyX4_ok nmX4 hown hK g ma0_ ka0_ (by decide) rfl 5 (by decide) (hts _ (List.mem_cons_of_mem _ t_847)) (fun _ h9 => h9) rfl rfl okV_l rfl rfl (by decide) (Or.inr (Or.inl (by decide))) (fx' := [(4, 4, a0_, .int (-1)), (4, 3, a0_, .int (-1)), (4, 2, a0_, .int (-1)), (4, 1, a0_, .int (-1)), (4, 0, a0_, .int 0)]) rfl dX4_wipe_27 (fun f H locs hM_6 g => ?_)
  refine lv_aload_n hx hb dX4_wipe_30 rfl (lv_at hl 0 rfl) ?_
  refine lv_iconst (v := 0) hx hb dX4_wipe_31 (by decide) ?_
  refine g_put (C := RX4) (T := TX4) (N := 17) hx hb hts (mc_ inX4) tyX4 tyX4_ok nmX4 hown hK g ma0_ ka0_ (by decide) rfl 6 (by decide) (hts _ (List.mem_cons_of_mem _ t_850)) (fun _ h9 => h9) rfl rfl (okV_i (bd_sub kb_0 (by decide))) rfl rfl (by decide) (Or.inr (Or.inl (by decide))) (fx' := [(4, 5, a0_, .long 0), (4, 4, a0_, .int (-1)), (4, 3, a0_, .int (-1)), (4, 2, a0_, .int (-1)), (4, 1, a0_, .int (-1)), (4, 0, a0_, .int 0)]) rfl dX4_wipe_32 (fun f H locs hM_7 g => ?_)
  refine lv_aload_n hx hb dX4_wipe_35 rfl (lv_at hl 0 rfl) ?_
  refine lv_iconst (v := 0) hx hb dX4_wipe_36 (by decide) ?_
  refine g_put (C := RX4) (T := TX4) (N := 17) hx hb hts (mc_ inX4) tyX4 tyX4_ok nmX4 hown hK g ma0_ ka0_ (by decide) rfl 14 (by decide) (hts _ (List.mem_cons_of_mem _ t_873)) (fun _ h9 => h9) rfl rfl (okV_i (bd_sub kb_0 (by decide))) rfl rfl (by decide) (Or.inr (Or.inl (by decide))) (fx' := [(4, 6, a0_, .int 0), (4, 5, a0_, .long 0), (4, 4, a0_, .int (-1)), (4, 3, a0_, .int (-1)), (4, 2, a0_, .int (-1)), (4, 1, a0_, .int (-1)), (4, 0, a0_, .int 0)]) rfl dX4_wipe_37 (fun f H locs hM_8 g => ?_)
  refine lv_iconst (v := 0) hx hb dX4_wipe_40 (by decide) ?_
  refine lv_istore_n (lv' := [(1, .int 0), (0, .ref a0_)]) hx hb dX4_wipe_41 rfl hl (by decide) rfl (fun ls hl => ?_)
  have loop_9 : ∀ (n : Nat) (v42_1 : Int32), bd 0 10 v42_1 → (10 - v42_1.toInt < (n : Int)) → ∀ (f : Nat → va_E) (H : Heap) (locs : List Loc) (ls : Array Slot), G3 (dC, dI) L kd tys s f0 [(4, 0), (4, 1), (4, 2), (4, 3), (4, 4), (4, 5), (4, 6), (4, 14)] [130, 131] f H locs [(4, 14, a0_, .int 0), (4, 6, a0_, .int 0), (4, 5, a0_, .long 0), (4, 4, a0_, .int (-1)), (4, 3, a0_, .int (-1)), (4, 2, a0_, .int (-1)), (4, 1, a0_, .int (-1)), (4, 0, a0_, .int 0)] → lv_has ls 2 [(1, .int v42_1), (0, .ref a0_)] → W p l e ({ frames := 1, cells := 0, slots := 0, locals := 21 } : Room) s m [.ref a0_].toArray below meth c H locs 0 0 Q (F0 m 42 ls []) := by
    intro n42
    induction n42 with
    | zero =>
      intro v42_1 bv42_1 hm42 f H locs ls g  hl
      exact absurd hm42 (by have h9_v42_1 := bv42_1; unfold bd at h9_v42_1; omega)
    | succ n42 ih42 =>
      intro v42_1 bv42_1 hm42 f H locs ls g  hl
      refine lv_iload_n hx hb dX4_wipe_42 rfl (lv_at hl 0 rfl) ?_
      refine lv_bipush (v := 10) hx hb dX4_wipe_43 (by decide) ?_
      have kb_10 : bd 10 10 (10 : Int32) := ⟨by decide, by decide⟩
      refine lv_icmp_ge (tgt := 59) hx hb dX4_wipe_45 (by decide) (fun c_10 => ?_) (fun c_10 => ?_)
      · have fc_10 := le_f c_10
        have b_11 : bd 10 10 v42_1 := leR fc_10 kb_10 bv42_1 (by decide)
        subst hQ
        exact W.vret hx hb hr (fun t ht hW => ⟨⟨_, rfl, (g.fcts [0, 1, 3, 4, 5, 6, 7] rfl), q3_of g hK ht hW⟩, g.2.2.1.F ht⟩) g.2.2.1.2.2 dX4_wipe_59
      · have fc_10 := nle_f c_10
        have b_12 : bd 0 9 v42_1 := ltL fc_10 bv42_1 kb_10 (by decide)
        refine lv_aload_n hx hb dX4_wipe_48 rfl (lv_at hl 1 rfl) ?_
        refine lv_iload_n hx hb dX4_wipe_49 rfl (lv_at hl 0 rfl) ?_
        refine g_callv (va_runV (As := [.int v42_1]) (rest := []) ⟨hx, hb, hml, hown, hts⟩ (r_X4_forgetCall l dC dI L kd tys f H.size g.2.2.2.1 a0_ ma0_ ka0_ v42_1) (cwV 1 hts (gV_ t_1430 t_1431 t_1432 t_197 t_1433) rfl rfl rfl (by decide +kernel) ⟨(Nat.le_of_ble_eq_true rfl), (Nat.le_of_ble_eq_true rfl)⟩) (pre3V g hK ma0_ ka0_ (by decide) (q := (RX4, TX4, 17)) rfl) rfl rfl hl.1 rfl (lv_room (Nat.le_of_ble_eq_true rfl)) dX4_wipe_50 ⟨(Nat.le_of_ble_eq_true rfl), (Nat.le_of_ble_eq_true rfl)⟩) g hK (by decide) (by decide) (fx' := [(4, 14, a0_, .int 0), (4, 6, a0_, .int 0), (4, 5, a0_, .long 0), (4, 4, a0_, .int (-1)), (4, 3, a0_, .int (-1)), (4, 2, a0_, .int (-1)), (4, 1, a0_, .int (-1)), (4, 0, a0_, .int 0)]) rfl (fun fr_13 H locs hp hMr_13 g => ?_)
        have kb_1 : bd 1 1 (1 : Int32) := ⟨by decide, by decide⟩
        obtain ⟨y_14, ey_14⟩ : ∃ z : Int32, z = v42_1 + 1 := ⟨_, rfl⟩
        refine lv_iinc (v := y_14) (lv' := [(1, .int y_14), (0, .ref a0_)]) hx hb dX4_wipe_53 hl (k := 0) rfl (by rw [ey_14]; rfl) (by decide) rfl (fun ls hl => ?_)
        have ty_14 := add_bd ey_14 b_12 kb_1 (by decide)
        have b_15 : bd 1 10 y_14 := add_rg ty_14 b_12 kb_1 (by decide)
        refine lv_goto (tgt := 42) hx hb dX4_wipe_56 (by decide) ?_
        have hl9 := lv_sub hl [0, 1] (by rfl : lv_pick [(1, .int y_14), (0, .ref a0_)] [0, 1] = [(1, .int y_14), (0, .ref a0_)])
        have g9 := g.sub (fx' := [(4, 14, a0_, .int 0), (4, 6, a0_, .int 0), (4, 5, a0_, .long 0), (4, 4, a0_, .int (-1)), (4, 3, a0_, .int (-1)), (4, 2, a0_, .int (-1)), (4, 1, a0_, .int (-1)), (4, 0, a0_, .int 0)]) [0, 1, 2, 3, 4, 5, 6, 7] rfl
        exact ih42  y_14 (bd_sub b_15 (by decide)) (by have h9_0 := b_15; unfold bd at h9_0; have h9_1 := bv42_1; unfold bd at h9_1; have h9_2 := kb_0; unfold bd at h9_2; have h9_3 := kb_1; unfold bd at h9_3; have h9_4 := kb_10; unfold bd at h9_4; have h9_5 := kb_m1; unfold bd at h9_5; omega) _ _ _ _ g9  hl9
  have hl9 := lv_sub hl [0, 1] (by rfl : lv_pick [(1, .int 0), (0, .ref a0_)] [0, 1] = [(1, .int 0), (0, .ref a0_)])
  have g9 := g.sub (fx' := [(4, 14, a0_, .int 0), (4, 6, a0_, .int 0), (4, 5, a0_, .long 0), (4, 4, a0_, .int (-1)), (4, 3, a0_, .int (-1)), (4, 2, a0_, .int (-1)), (4, 1, a0_, .int (-1)), (4, 0, a0_, .int 0)]) [0, 1, 2, 3, 4, 5, 6, 7] rfl
  exact loop_9 (23) 0 (bd_sub kb_0 (by decide)) (by have h9_0 := kb_0; unfold bd at h9_0; have h9_1 := kb_m1; unfold bd at h9_1; omega) _ _ _ _ g9  hl9
set_option maxHeartbeats 4000000 in
set_option maxRecDepth 100000 in
theorem r_X9_fillNew (l : Launch) (dC : Nat → ClassId) (dI : Nat → Nat → Nat) (L : List Nat) (kd : Nat → Nat) (tys : List (ClassId × FieldType)) (f0 : Nat → va_E) (sz : Nat) (hWT : WT L kd tys f0) (a0_ : Nat) (ma0_ : a0_ ∈ L) (ka0_ : kd a0_ = 9) (a1_ : Nat) (ma1_ : a1_ ∈ L) (ka1_ : kd a1_ = 101) : Met l yX9_fillNew (.code yX9_fillNew cX9_fillNew 5 none :: lw_g) ({ frames := 1, cells := 0, slots := 0, locals := 14 }) (va_Pc [.ref a0_, .ref a1_] (P3 (dC, dI) L tys f0 sz)) (va_Qv (fun (f : Nat → va_E) => (True)) (Q3 (dC, dI) L kd tys [] [101] f0 sz) (pA L sz)) 0 0 (pA L sz) := by
  refine Met.ofW (cc := cX9_fillNew) (maxL := 5) (ret := none) (by decide) rfl ?_
  intro p e s m args below meth c s₁ B hml hv
  obtain ⟨rfl, hsz, hP, hK, hD0⟩ := hv
  have hx := B.exec
  have hb := B.bytes
  have hr := B.returns
  have hts := atoms_spec (ws := (.code yX9_fillNew cX9_fillNew 5 none :: lw_g)) B.pre
  have hown : s.vm.findClass RX9 = some m.cls := findClass_of_methodNamed B.named
  have hlocks := B.notSynchronized
  subst hsz
  have g : G3 (dC, dI) L kd tys s f0 [] [101] f0 s.heap [] [] := G3.start hP hD0 hWT Fs.nil
  have hl := lv_entry ([.ref a0_, .ref a1_]) (n := 5) (Nat.le_of_ble_eq_true rfl)
  rw [lg_entry_eq]
  generalize (lg_sl ([.ref a0_, .ref a1_]) ++ List.replicate (5 - (lg_sl ([.ref a0_, .ref a1_])).length) Slot.unset).toArray = ls at hl ⊢
  have hl : lv_has ls 5 [(0, .ref a0_), (1, .ref a1_)] := hl
  refine W_q (fun Q hQ => ?_)
  refine lv_iconst (v := 0) hx hb dX9_fillNew_0 (by decide) ?_
  refine lv_istore_n (lv' := [(2, .int 0), (0, .ref a0_), (1, .ref a1_)]) hx hb dX9_fillNew_1 rfl hl (by decide) rfl (fun ls hl => ?_)
  have loop_1 : ∀ (n : Nat) (v2_2 : Int32), bd 0 10 v2_2 → (10 - v2_2.toInt < (n : Int)) → ∀ (f : Nat → va_E) (H : Heap) (locs : List Loc) (ls : Array Slot), G3 (dC, dI) L kd tys s f0 [] [101] f H locs [] → lv_has ls 5 [(2, .int v2_2), (0, .ref a0_), (1, .ref a1_)] → W p l e ({ frames := 1, cells := 0, slots := 0, locals := 14 } : Room) s m [.ref a0_, .ref a1_].toArray below meth c H locs 0 0 Q (F0 m 2 ls []) := by
    intro n2
    induction n2 with
    | zero =>
      intro v2_2 bv2_2 hm2 f H locs ls g  hl
      exact absurd hm2 (by have h9_v2_2 := bv2_2; unfold bd at h9_v2_2; omega)
    | succ n2 ih2 =>
      intro v2_2 bv2_2 hm2 f H locs ls g  hl
      refine lv_iload_n hx hb dX9_fillNew_2 rfl (lv_at hl 0 rfl) ?_
      refine lv_aload_n hx hb dX9_fillNew_3 rfl (lv_at hl 1 rfl) ?_
      refine g_geti (C := RX9) (T := TX9) (N := 13) hx hb hts (mc_ inX9) hown hK g ma0_ ka0_ (by decide) rfl 2 (by decide) rfl (hts _ (List.mem_cons_of_mem _ t_485)) (fun _ h9 => h9) rfl dX9_fillNew_4 (fun x_2 bx_2 g => ?_)
      refine lv_icmp_ge (tgt := 71) hx hb dX9_fillNew_7 (by decide) (fun c_3 => ?_) (fun c_3 => ?_)
      · have fc_3 := le_f c_3
        subst hQ
        exact W.vret hx hb hr (fun t ht hW => ⟨⟨_, rfl, trivial, q3_of g hK ht hW⟩, g.2.2.1.F ht⟩) g.2.2.1.2.2 dX9_fillNew_71
      · have fc_3 := nle_f c_3
        have b_4 : bd 0 9 v2_2 := ltL fc_3 bv2_2 bx_2 (by decide)
        have b_5 : bd 1 10 x_2 := ltR fc_3 bv2_2 bx_2 (by decide)
        refine lv_aload_n hx hb dX9_fillNew_10 rfl (lv_at hl 1 rfl) ?_
        refine g_getr (K := 153) (C := RX9) (T := TX9) (N := 13) hx hb hts (mc_ inX9) hown hK g ma0_ ka0_ (by decide) rfl 4 (by decide) rfl (hts _ (List.mem_cons_of_mem _ t_489)) (fun _ h9 => h9) rfl dX9_fillNew_11 (fun a_6 ma_6 ka_6 g => ?_)
        refine lv_iload_n hx hb dX9_fillNew_14 rfl (lv_at hl 0 rfl) ?_
        refine g_iald hx hb hK g ma_6 ka_6 (by decide) rfl (in_bd b_4 (by decide)) dX9_fillNew_15 (fun x_7 bx_7 cx_7 => ?_)
        refine lv_aload_n hx hb dX9_fillNew_16 rfl (lv_at hl 1 rfl) ?_
        refine g_getr (K := 154) (C := RX9) (T := TX9) (N := 13) hx hb hts (mc_ inX9) hown hK g ma0_ ka0_ (by decide) rfl 5 (by decide) rfl (hts _ (List.mem_cons_of_mem _ t_490)) (fun _ h9 => h9) rfl dX9_fillNew_17 (fun a_8 ma_8 ka_8 g => ?_)
        refine lv_iload_n hx hb dX9_fillNew_20 rfl (lv_at hl 0 rfl) ?_
        refine g_iald hx hb hK g ma_8 ka_8 (by decide) rfl (in_bd b_4 (by decide)) dX9_fillNew_21 (fun x_9 bx_9 cx_9 => ?_)
        refine lv_iconst (v := 1) hx hb dX9_fillNew_22 (by decide) ?_
        have kb_1 : bd 1 1 (1 : Int32) := ⟨by decide, by decide⟩
        refine va_mmax hx hb (hml.trans hl.1.symm) hown (hts _ (List.mem_cons_of_mem _ t_1168)) (hts _ (List.mem_cons_of_mem _ t_1041)) (hts _ (List.mem_cons_of_mem _ t_204)) (hts _ (List.mem_cons_of_mem _ t_1042)) (Nat.le_of_ble_eq_true rfl) (Nat.le_of_ble_eq_true rfl) (Nat.le_of_ble_eq_true rfl) (Nat.le_of_ble_eq_true rfl) dX9_fillNew_23 ?_
        refine lv_topi (fun y_10 ey_10 => ?_)
        have ty_10 : y_10.toInt = max x_9.toInt (1 : Int32).toInt := by rw [ey_10]; exact mmax_ok _ _
        have b_11 : bd 1 8 y_10 := max_rg ty_10 bx_9 kb_1 (by decide)
        refine lv_iadd hx hb dX9_fillNew_26 ?_
        refine lv_topi (fun y_12 ey_12 => ?_)
        have ty_12 := add_bd ey_12 bx_7 b_11 (by decide)
        have b_13 : bd 1 32 y_12 := add_rg ty_12 bx_7 b_11 (by decide)
        refine lv_istore_n (lv' := [(3, .int y_12), (2, .int v2_2), (0, .ref a0_), (1, .ref a1_)]) hx hb dX9_fillNew_27 rfl hl (by decide) rfl (fun ls hl => ?_)
        refine lv_aload_n hx hb dX9_fillNew_28 rfl (lv_at hl 2 rfl) ?_
        refine g_getk (C := RX9) (T := TX9) (N := 13) hx hb hts (mc_ inX9) hown hK g rfl 4 (by decide) rfl (hts _ (List.mem_cons_of_mem _ t_489)) (fun _ h9 => h9) 1 rfl dX9_fillNew_29 ?_
        refine lv_iload_n hx hb dX9_fillNew_32 rfl (lv_at hl 1 rfl) ?_
        refine g_iald hx hb hK g ma_6 ka_6 (by decide) rfl (in_bd b_4 (by decide)) dX9_fillNew_33 (fun x_14 bx_14 cx_14 => ?_)
        obtain rfl : x_7 = x_14 := el_same cx_7 cx_14 rfl
        refine lv_istore (lv' := [(4, .int x_7), (3, .int y_12), (2, .int v2_2), (0, .ref a0_), (1, .ref a1_)]) hx hb dX9_fillNew_34 hl (by decide) rfl (fun ls hl => ?_)
        have loop_15 : ∀ (n : Nat) (v36_4 : Int32), bd 0 24 v36_4 → (24 - v36_4.toInt < (n : Int)) → ∀ (f : Nat → va_E) (H : Heap) (locs : List Loc) (ls : Array Slot), G3 (dC, dI) L kd tys s f0 [] [101] f H locs [(9, 5, a0_, .ref a_8), (9, 4, a0_, .ref a_6), (9, 2, a0_, .int x_2)] → lv_has ls 5 [(4, .int v36_4), (3, .int y_12), (2, .int v2_2), (0, .ref a0_), (1, .ref a1_)] → W p l e ({ frames := 1, cells := 0, slots := 0, locals := 14 } : Room) s m [.ref a0_, .ref a1_].toArray below meth c H locs 0 0 Q (F0 m 36 ls []) := by
          intro n36
          induction n36 with
          | zero =>
            intro v36_4 bv36_4 hm36 f H locs ls g  hl
            exact absurd hm36 (by have h9_v36_4 := bv36_4; unfold bd at h9_v36_4; omega)
          | succ n36 ih36 =>
            intro v36_4 bv36_4 hm36 f H locs ls g  hl
            refine lv_iload hx hb dX9_fillNew_36 (lv_at hl 0 rfl) ?_
            refine lv_iload_n hx hb dX9_fillNew_38 rfl (lv_at hl 1 rfl) ?_
            refine lv_icmp_ge (tgt := 65) hx hb dX9_fillNew_39 (by decide) (fun c_16 => ?_) (fun c_16 => ?_)
            · have fc_16 := le_f c_16
              have b_17 : bd 1 24 y_12 := leL fc_16 b_13 bv36_4 (by decide)
              have b_18 : bd 0 23 x_7 := add_inv2 ty_12 b_17 bx_7 b_11 (by decide)
              have b_19 : bd 1 24 v36_4 := leR fc_16 b_13 bv36_4 (by decide)
              obtain ⟨y_20, ey_20⟩ : ∃ z : Int32, z = v2_2 + 1 := ⟨_, rfl⟩
              refine lv_iinc (v := y_20) (lv' := [(2, .int y_20), (4, .int v36_4), (3, .int y_12), (0, .ref a0_), (1, .ref a1_)]) hx hb dX9_fillNew_65 hl (k := 2) rfl (by rw [ey_20]; rfl) (by decide) rfl (fun ls hl => ?_)
              have ty_20 := add_bd ey_20 b_4 kb_1 (by decide)
              have b_21 : bd 1 10 y_20 := add_rg ty_20 b_4 kb_1 (by decide)
              refine lv_goto (tgt := 2) hx hb dX9_fillNew_68 (by decide) ?_
              have hl9 := lv_sub hl [0, 3, 4] (by rfl : lv_pick [(2, .int y_20), (4, .int v36_4), (3, .int y_12), (0, .ref a0_), (1, .ref a1_)] [0, 3, 4] = [(2, .int y_20), (0, .ref a0_), (1, .ref a1_)])
              have g9 := g.sub (fx' := []) [] rfl
              exact ih2  y_20 (bd_sub b_21 (by decide)) (by have h9_0 := b_21; unfold bd at h9_0; have h9_1 := bv2_2; unfold bd at h9_1; have h9_2 := kb_1; unfold bd at h9_2; omega) _ _ _ _ g9  hl9
            · have fc_16 := nle_f c_16
              refine lv_iload hx hb dX9_fillNew_42 (lv_at hl 0 rfl) ?_
              refine lv_aload_n hx hb dX9_fillNew_44 rfl (lv_at hl 4 rfl) ?_
              refine g_alen (v := 24) hx hb hK g ma1_ ka1_ (by decide) rfl dX9_fillNew_45 ?_
              have kb_24 : bd 24 24 (24 : Int32) := ⟨by decide, by decide⟩
              refine lv_icmp_ge (tgt := 65) hx hb dX9_fillNew_46 (by decide) (fun c_22 => ?_) (fun c_22 => ?_)
              · have fc_22 := le_f c_22
                have b_23 : bd 24 24 v36_4 := leR fc_22 kb_24 bv36_4 (by decide)
                obtain ⟨y_24, ey_24⟩ : ∃ z : Int32, z = v2_2 + 1 := ⟨_, rfl⟩
                refine lv_iinc (v := y_24) (lv' := [(2, .int y_24), (4, .int v36_4), (3, .int y_12), (0, .ref a0_), (1, .ref a1_)]) hx hb dX9_fillNew_65 hl (k := 2) rfl (by rw [ey_24]; rfl) (by decide) rfl (fun ls hl => ?_)
                have ty_24 := add_bd ey_24 b_4 kb_1 (by decide)
                have b_25 : bd 1 10 y_24 := add_rg ty_24 b_4 kb_1 (by decide)
                refine lv_goto (tgt := 2) hx hb dX9_fillNew_68 (by decide) ?_
                have hl9 := lv_sub hl [0, 3, 4] (by rfl : lv_pick [(2, .int y_24), (4, .int v36_4), (3, .int y_12), (0, .ref a0_), (1, .ref a1_)] [0, 3, 4] = [(2, .int y_24), (0, .ref a0_), (1, .ref a1_)])
                have g9 := g.sub (fx' := []) [] rfl
                exact ih2  y_24 (bd_sub b_25 (by decide)) (by have h9_0 := b_25; unfold bd at h9_0; have h9_1 := bv2_2; unfold bd at h9_1; have h9_2 := kb_1; unfold bd at h9_2; have h9_3 := kb_24; unfold bd at h9_3; omega) _ _ _ _ g9  hl9
              · have fc_22 := nle_f c_22
                have b_26 : bd 0 23 v36_4 := ltL fc_22 bv36_4 kb_24 (by decide)
                refine lv_aload_n hx hb dX9_fillNew_49 rfl (lv_at hl 4 rfl) ?_
                refine lv_iload hx hb dX9_fillNew_50 (lv_at hl 0 rfl) ?_
                refine lv_aload_n hx hb dX9_fillNew_52 rfl (lv_at hl 3 rfl) ?_
                refine g_getr (K := 155) (C := RX9) (T := TX9) (N := 13) hx hb hts (mc_ inX9) hown hK g ma0_ ka0_ (by decide) rfl 6 (by decide) rfl (hts _ (List.mem_cons_of_mem _ t_492)) (fun _ h9 => h9) rfl dX9_fillNew_53 (fun a_27 ma_27 ka_27 g => ?_)
                refine lv_iload_n hx hb dX9_fillNew_56 rfl (lv_at hl 2 rfl) ?_
                refine g_iald hx hb hK g ma_27 ka_27 (by decide) rfl (in_bd b_4 (by decide)) dX9_fillNew_57 (fun x_28 bx_28 cx_28 => ?_)
                refine g_iast hx hb hK g ma1_ ka1_ (by decide) rfl (in_bd b_26 (by decide)) (bdT x_28) (by decide) dX9_fillNew_58 (fun f H locs hM_29 g => ?_)
                obtain ⟨y_30, ey_30⟩ : ∃ z : Int32, z = v36_4 + 1 := ⟨_, rfl⟩
                refine lv_iinc (v := y_30) (lv' := [(4, .int y_30), (3, .int y_12), (2, .int v2_2), (0, .ref a0_), (1, .ref a1_)]) hx hb dX9_fillNew_59 hl (k := 0) rfl (by rw [ey_30]; rfl) (by decide) rfl (fun ls hl => ?_)
                have ty_30 := add_bd ey_30 b_26 kb_1 (by decide)
                have b_31 : bd 1 24 y_30 := add_rg ty_30 b_26 kb_1 (by decide)
                refine lv_goto (tgt := 36) hx hb dX9_fillNew_62 (by decide) ?_
                have hl9 := lv_sub hl [0, 1, 2, 3, 4] (by rfl : lv_pick [(4, .int y_30), (3, .int y_12), (2, .int v2_2), (0, .ref a0_), (1, .ref a1_)] [0, 1, 2, 3, 4] = [(4, .int y_30), (3, .int y_12), (2, .int v2_2), (0, .ref a0_), (1, .ref a1_)])
                have g9 := g.sub (fx' := [(9, 5, a0_, .ref a_8), (9, 4, a0_, .ref a_6), (9, 2, a0_, .int x_2)]) [1, 2, 3] rfl
                exact ih36  y_30 (bd_sub b_31 (by decide)) (by have h9_0 := b_31; unfold bd at h9_0; have h9_1 := bv36_4; unfold bd at h9_1; have h9_2 := kb_1; unfold bd at h9_2; have h9_3 := kb_24; unfold bd at h9_3; omega) _ _ _ _ g9  hl9
        have hl9 := lv_sub hl [0, 1, 2, 3, 4] (by rfl : lv_pick [(4, .int x_7), (3, .int y_12), (2, .int v2_2), (0, .ref a0_), (1, .ref a1_)] [0, 1, 2, 3, 4] = [(4, .int x_7), (3, .int y_12), (2, .int v2_2), (0, .ref a0_), (1, .ref a1_)])
        have g9 := g.sub (fx' := [(9, 5, a0_, .ref a_8), (9, 4, a0_, .ref a_6), (9, 2, a0_, .int x_2)]) [0, 1, 2] rfl
        exact loop_15 (51) x_7 bx_7 (by have h9_0 := bx_7; unfold bd at h9_0; have h9_1 := kb_1; unfold bd at h9_1; omega) _ _ _ _ g9  hl9
  have kb_0 : bd 0 0 (0 : Int32) := ⟨by decide, by decide⟩
  have hl9 := lv_sub hl [0, 1, 2] (by rfl : lv_pick [(2, .int 0), (0, .ref a0_), (1, .ref a1_)] [0, 1, 2] = [(2, .int 0), (0, .ref a0_), (1, .ref a1_)])
  have g9 := g.sub (fx' := []) [] rfl
  exact loop_1 (23) 0 (bd_sub kb_0 (by decide)) (by have h9_0 := kb_0; unfold bd at h9_0; omega) _ _ _ _ g9  hl9
set_option maxHeartbeats 4000000 in
set_option maxRecDepth 100000 in
theorem r_X1_standOn (l : Launch) (dC : Nat → ClassId) (dI : Nat → Nat → Nat) (L : List Nat) (kd : Nat → Nat) (tys : List (ClassId × FieldType)) (f0 : Nat → va_E) (sz : Nat) (hWT : WT L kd tys f0) (a0_ : Nat) (ma0_ : a0_ ∈ L) (ka0_ : kd a0_ = 1) (a1_ : Nat) (ma1_ : a1_ ∈ L) (ka1_ : kd a1_ = 7) (a2_ : Nat) (ma2_ : a2_ ∈ L) (ka2_ : kd a2_ = 9) (a3_ : Nat) (ma3_ : a3_ ∈ L) (ka3_ : kd a3_ = 101) (a4_ : Nat) (ma4_ : a4_ ∈ L) (ka4_ : kd a4_ = 101) (a5_ : Nat) (ma5_ : a5_ ∈ L) (ka5_ : kd a5_ = 101) : Met l yX1_standOn (.code yX1_standOn cX1_standOn 6 none :: lw_g) ({ frames := 0, cells := 0, slots := 0, locals := 0 }) (va_Pc [.ref a0_, .ref a1_, .ref a2_, .ref a3_, .ref a4_, .ref a5_] (P3 (dC, dI) L tys f0 sz)) (va_Qv (fun (f : Nat → va_E) => (Fs L kd f [(1, 4, a0_, .ref a5_), (1, 3, a0_, .ref a4_), (1, 2, a0_, .ref a3_), (1, 1, a0_, .ref a2_), (1, 0, a0_, .ref a1_)])) (Q3 (dC, dI) L kd tys [(1, 0), (1, 1), (1, 2), (1, 3), (1, 4)] [] f0 sz) (pA L sz)) 0 0 (pA L sz) := by
  refine Met.ofW (cc := cX1_standOn) (maxL := 6) (ret := none) (by decide) rfl ?_
  intro p e s m args below meth c s₁ B hml hv
  obtain ⟨rfl, hsz, hP, hK, hD0⟩ := hv
  have hx := B.exec
  have hb := B.bytes
  have hr := B.returns
  have hts := atoms_spec (ws := (.code yX1_standOn cX1_standOn 6 none :: lw_g)) B.pre
  have hown : s.vm.findClass RX1 = some m.cls := findClass_of_methodNamed B.named
  have hlocks := B.notSynchronized
  subst hsz
  have g : G3 (dC, dI) L kd tys s f0 [(1, 0), (1, 1), (1, 2), (1, 3), (1, 4)] [] f0 s.heap [] [] := G3.start hP hD0 hWT Fs.nil
  have hl := lv_entry ([.ref a0_, .ref a1_, .ref a2_, .ref a3_, .ref a4_, .ref a5_]) (n := 6) (Nat.le_of_ble_eq_true rfl)
  rw [lg_entry_eq]
  generalize (lg_sl ([.ref a0_, .ref a1_, .ref a2_, .ref a3_, .ref a4_, .ref a5_]) ++ List.replicate (6 - (lg_sl ([.ref a0_, .ref a1_, .ref a2_, .ref a3_, .ref a4_, .ref a5_])).length) Slot.unset).toArray = ls at hl ⊢
  have hl : lv_has ls 6 [(0, .ref a0_), (1, .ref a1_), (2, .ref a2_), (3, .ref a3_), (4, .ref a4_), (5, .ref a5_)] := hl
  refine W_q (fun Q hQ => ?_)
  refine lv_aload_n hx hb dX1_standOn_0 rfl (lv_at hl 0 rfl) ?_
  refine lv_aload_n hx hb dX1_standOn_1 rfl (lv_at hl 1 rfl) ?_
  refine g_put (C := RX1) (T := TX1) (N := 18) hx hb hts (mc_ inX1) tyX1 tyX1_ok nmX1 hown hK g ma0_ ka0_ (by decide) rfl 0 (by decide) (hts _ (List.mem_cons_of_mem _ t_735)) (fun _ h9 => h9) rfl rfl (okV_n ma1_ ka1_ (by decide)) rfl rfl (by decide) (Or.inr (Or.inl (by decide))) (fx' := []) rfl dX1_standOn_2 (fun f H locs hM_1 g => ?_)
  refine lv_aload_n hx hb dX1_standOn_5 rfl (lv_at hl 0 rfl) ?_
  refine lv_aload_n hx hb dX1_standOn_6 rfl (lv_at hl 2 rfl) ?_
  refine g_put (C := RX1) (T := TX1) (N := 18) hx hb hts (mc_ inX1) tyX1 tyX1_ok nmX1 hown hK g ma0_ ka0_ (by decide) rfl 1 (by decide) (hts _ (List.mem_cons_of_mem _ t_736)) (fun _ h9 => h9) rfl rfl (okV_n ma2_ ka2_ (by decide)) rfl rfl (by decide) (Or.inr (Or.inl (by decide))) (fx' := [(1, 0, a0_, .ref a1_)]) rfl dX1_standOn_7 (fun f H locs hM_2 g => ?_)
  refine lv_aload_n hx hb dX1_standOn_10 rfl (lv_at hl 0 rfl) ?_
  refine lv_aload_n hx hb dX1_standOn_11 rfl (lv_at hl 3 rfl) ?_
  refine g_put (C := RX1) (T := TX1) (N := 18) hx hb hts (mc_ inX1) tyX1 tyX1_ok nmX1 hown hK g ma0_ ka0_ (by decide) rfl 2 (by decide) (hts _ (List.mem_cons_of_mem _ t_737)) (fun _ h9 => h9) rfl rfl (okV_r ma3_ ka3_ (by decide)) rfl rfl (by decide) (Or.inr (Or.inl (by decide))) (fx' := [(1, 1, a0_, .ref a2_), (1, 0, a0_, .ref a1_)]) rfl dX1_standOn_12 (fun f H locs hM_3 g => ?_)
  refine lv_aload_n hx hb dX1_standOn_15 rfl (lv_at hl 0 rfl) ?_
  refine lv_aload hx hb dX1_standOn_16 (lv_at hl 4 rfl) ?_
  refine g_put (C := RX1) (T := TX1) (N := 18) hx hb hts (mc_ inX1) tyX1 tyX1_ok nmX1 hown hK g ma0_ ka0_ (by decide) rfl 3 (by decide) (hts _ (List.mem_cons_of_mem _ t_738)) (fun _ h9 => h9) rfl rfl (okV_r ma4_ ka4_ (by decide)) rfl rfl (by decide) (Or.inr (Or.inl (by decide))) (fx' := [(1, 2, a0_, .ref a3_), (1, 1, a0_, .ref a2_), (1, 0, a0_, .ref a1_)]) rfl dX1_standOn_18 (fun f H locs hM_4 g => ?_)
  refine lv_aload_n hx hb dX1_standOn_21 rfl (lv_at hl 0 rfl) ?_
  refine lv_aload hx hb dX1_standOn_22 (lv_at hl 5 rfl) ?_
  refine g_put (C := RX1) (T := TX1) (N := 18) hx hb hts (mc_ inX1) tyX1 tyX1_ok nmX1 hown hK g ma0_ ka0_ (by decide) rfl 4 (by decide) (hts _ (List.mem_cons_of_mem _ t_739)) (fun _ h9 => h9) rfl rfl (okV_r ma5_ ka5_ (by decide)) rfl rfl (by decide) (Or.inr (Or.inl (by decide))) (fx' := [(1, 3, a0_, .ref a4_), (1, 2, a0_, .ref a3_), (1, 1, a0_, .ref a2_), (1, 0, a0_, .ref a1_)]) rfl dX1_standOn_24 (fun f H locs hM_5 g => ?_)
  subst hQ
  exact W.vret hx hb hr (fun t ht hW => ⟨⟨_, rfl, (g.fcts [0, 1, 2, 3, 4] rfl), q3_of g hK ht hW⟩, g.2.2.1.F ht⟩) g.2.2.1.2.2 dX1_standOn_27
set_option maxHeartbeats 4000000 in
set_option maxRecDepth 100000 in
theorem r_X1_readyToAsk (l : Launch) (dC : Nat → ClassId) (dI : Nat → Nat → Nat) (L : List Nat) (kd : Nat → Nat) (tys : List (ClassId × FieldType)) (f0 : Nat → va_E) (sz : Nat) (hWT : WT L kd tys f0) (a0_ : Nat) (ma0_ : a0_ ∈ L) (ka0_ : kd a0_ = 1) (x1_ : Int32) (x2_ : Int32) : Met l yX1_readyToAsk (.code yX1_readyToAsk cX1_readyToAsk 3 none :: lw_g) ({ frames := 0, cells := 0, slots := 0, locals := 0 }) (va_Pc [.ref a0_, .int x1_, .int x2_] (P3 (dC, dI) L tys f0 sz)) (va_Qv (fun (f : Nat → va_E) => (Fs L kd f [(1, 13, a0_, .int x1_), (1, 12, a0_, .int 0), (1, 6, a0_, .int x2_), (1, 5, a0_, .int 1)])) (Q3 (dC, dI) L kd tys [(1, 5), (1, 6), (1, 12), (1, 13)] [] f0 sz) (pA L sz)) 0 0 (pA L sz) := by
  refine Met.ofW (cc := cX1_readyToAsk) (maxL := 3) (ret := none) (by decide) rfl ?_
  intro p e s m args below meth c s₁ B hml hv
  obtain ⟨rfl, hsz, hP, hK, hD0⟩ := hv
  have hx := B.exec
  have hb := B.bytes
  have hr := B.returns
  have hts := atoms_spec (ws := (.code yX1_readyToAsk cX1_readyToAsk 3 none :: lw_g)) B.pre
  have hown : s.vm.findClass RX1 = some m.cls := findClass_of_methodNamed B.named
  have hlocks := B.notSynchronized
  subst hsz
  have g : G3 (dC, dI) L kd tys s f0 [(1, 5), (1, 6), (1, 12), (1, 13)] [] f0 s.heap [] [] := G3.start hP hD0 hWT Fs.nil
  have hl := lv_entry ([.ref a0_, .int x1_, .int x2_]) (n := 3) (Nat.le_of_ble_eq_true rfl)
  rw [lg_entry_eq]
  generalize (lg_sl ([.ref a0_, .int x1_, .int x2_]) ++ List.replicate (3 - (lg_sl ([.ref a0_, .int x1_, .int x2_])).length) Slot.unset).toArray = ls at hl ⊢
  have hl : lv_has ls 3 [(0, .ref a0_), (1, .int x1_), (2, .int x2_)] := hl
  refine W_q (fun Q hQ => ?_)
  refine lv_aload_n hx hb dX1_readyToAsk_0 rfl (lv_at hl 0 rfl) ?_
  refine lv_iconst (v := 1) hx hb dX1_readyToAsk_1 (by decide) ?_
  have kb_1 : bd 1 1 (1 : Int32) := ⟨by decide, by decide⟩
  refine g_put (C := RX1) (T := TX1) (N := 18) hx hb hts (mc_ inX1) tyX1 tyX1_ok nmX1 hown hK g ma0_ ka0_ (by decide) rfl 5 (by decide) (hts _ (List.mem_cons_of_mem _ t_740)) (fun _ h9 => h9) rfl rfl (okV_i (bd_sub kb_1 (by decide))) rfl rfl (by decide) (Or.inr (Or.inl (by decide))) (fx' := []) rfl dX1_readyToAsk_2 (fun f H locs hM_1 g => ?_)
  refine lv_aload_n hx hb dX1_readyToAsk_5 rfl (lv_at hl 0 rfl) ?_
  refine lv_iload_n hx hb dX1_readyToAsk_6 rfl (lv_at hl 2 rfl) ?_
  refine g_put (C := RX1) (T := TX1) (N := 18) hx hb hts (mc_ inX1) tyX1 tyX1_ok nmX1 hown hK g ma0_ ka0_ (by decide) rfl 6 (by decide) (hts _ (List.mem_cons_of_mem _ t_741)) (fun _ h9 => h9) rfl rfl (okV_i (bdT x2_)) rfl rfl (by decide) (Or.inr (Or.inl (by decide))) (fx' := [(1, 5, a0_, .int 1)]) rfl dX1_readyToAsk_7 (fun f H locs hM_2 g => ?_)
  refine lv_aload_n hx hb dX1_readyToAsk_10 rfl (lv_at hl 0 rfl) ?_
  refine lv_iconst (v := 0) hx hb dX1_readyToAsk_11 (by decide) ?_
  have kb_0 : bd 0 0 (0 : Int32) := ⟨by decide, by decide⟩
  refine g_put (C := RX1) (T := TX1) (N := 18) hx hb hts (mc_ inX1) tyX1 tyX1_ok nmX1 hown hK g ma0_ ka0_ (by decide) rfl 12 (by decide) (hts _ (List.mem_cons_of_mem _ t_747)) (fun _ h9 => h9) rfl rfl (okV_i (bd_sub kb_0 (by decide))) rfl rfl (by decide) (Or.inr (Or.inl (by decide))) (fx' := [(1, 6, a0_, .int x2_), (1, 5, a0_, .int 1)]) rfl dX1_readyToAsk_12 (fun f H locs hM_3 g => ?_)
  refine lv_aload_n hx hb dX1_readyToAsk_15 rfl (lv_at hl 0 rfl) ?_
  refine lv_iload_n hx hb dX1_readyToAsk_16 rfl (lv_at hl 1 rfl) ?_
  refine g_put (C := RX1) (T := TX1) (N := 18) hx hb hts (mc_ inX1) tyX1 tyX1_ok nmX1 hown hK g ma0_ ka0_ (by decide) rfl 13 (by decide) (hts _ (List.mem_cons_of_mem _ t_748)) (fun _ h9 => h9) rfl rfl (okV_i (bdT x1_)) rfl rfl (by decide) (Or.inr (Or.inl (by decide))) (fx' := [(1, 12, a0_, .int 0), (1, 6, a0_, .int x2_), (1, 5, a0_, .int 1)]) rfl dX1_readyToAsk_17 (fun f H locs hM_4 g => ?_)
  subst hQ
  exact W.vret hx hb hr (fun t ht hW => ⟨⟨_, rfl, (g.fcts [0, 1, 2, 3] rfl), q3_of g hK ht hW⟩, g.2.2.1.F ht⟩) g.2.2.1.2.2 dX1_readyToAsk_20
set_option maxHeartbeats 4000000 in
set_option maxRecDepth 100000 in
theorem r_X1_pop (l : Launch) (dC : Nat → ClassId) (dI : Nat → Nat → Nat) (L : List Nat) (kd : Nat → Nat) (tys : List (ClassId × FieldType)) (f0 : Nat → va_E) (sz : Nat) (hWT : WT L kd tys f0) (a0_ : Nat) (ma0_ : a0_ ∈ L) (ka0_ : kd a0_ = 1) : Met l yX1_pop (.code yX1_pop cX1_pop 1 (some .int) :: lw_g) ({ frames := 0, cells := 0, slots := 0, locals := 0 }) (va_Pc [.ref a0_] (P3 (dC, dI) L tys f0 sz)) (va_Qi (fun (r : Int32) (f : Nat → va_E) => (∃ z0_ : Int32, bd 0 699 z0_ ∧ Fs L kd f [(1, 8, a0_, .int z0_)])) (Q3 (dC, dI) L kd tys [(1, 8)] [] f0 sz) (pA L sz)) 0 0 (pA L sz) := by
  refine Met.ofW (cc := cX1_pop) (maxL := 1) (ret := (some .int)) (by decide) rfl ?_
  intro p e s m args below meth c s₁ B hml hv
  obtain ⟨rfl, hsz, hP, hK, hD0⟩ := hv
  have hx := B.exec
  have hb := B.bytes
  have hr := B.returns
  have hts := atoms_spec (ws := (.code yX1_pop cX1_pop 1 (some .int) :: lw_g)) B.pre
  have hown : s.vm.findClass RX1 = some m.cls := findClass_of_methodNamed B.named
  have hlocks := B.notSynchronized
  subst hsz
  have g : G3 (dC, dI) L kd tys s f0 [(1, 8)] [] f0 s.heap [] [] := G3.start hP hD0 hWT Fs.nil
  have hl := lv_entry ([.ref a0_]) (n := 1) (Nat.le_of_ble_eq_true rfl)
  rw [lg_entry_eq]
  generalize (lg_sl ([.ref a0_]) ++ List.replicate (1 - (lg_sl ([.ref a0_])).length) Slot.unset).toArray = ls at hl ⊢
  have hl : lv_has ls 1 [(0, .ref a0_)] := hl
  refine W_q (fun Q hQ => ?_)
  refine lv_aload_n hx hb dX1_pop_0 rfl (lv_at hl 0 rfl) ?_
  refine g_geti (C := RX1) (T := TX1) (N := 18) hx hb hts (mc_ inX1) hown hK g ma0_ ka0_ (by decide) rfl 8 (by decide) rfl (hts _ (List.mem_cons_of_mem _ t_743)) (fun _ h9 => h9) rfl dX1_pop_1 (fun x_1 bx_1 g => ?_)
  have kb_0 : bd 0 0 (0 : Int32) := ⟨by decide, by decide⟩
  refine lv_if_ne (tgt := 9) hx hb dX1_pop_4 (by decide) (fun c_2 => ?_) (fun c_2 => ?_)
  · have fc_2 := neq_f c_2
    have b_3 : bd 1 700 x_1 := neX fc_2 bx_1 kb_0 (by decide)
    refine lv_aload_n hx hb dX1_pop_9 rfl (lv_at hl 0 rfl) ?_
    refine lv_dup hx hb dX1_pop_10 rfl ?_
    refine g_getk (C := RX1) (T := TX1) (N := 18) hx hb hts (mc_ inX1) hown hK g rfl 8 (by decide) rfl (hts _ (List.mem_cons_of_mem _ t_743)) (fun _ h9 => h9) 0 rfl dX1_pop_11 ?_
    refine lv_iconst (v := 1) hx hb dX1_pop_14 (by decide) ?_
    have kb_1 : bd 1 1 (1 : Int32) := ⟨by decide, by decide⟩
    refine lv_isub hx hb dX1_pop_15 ?_
    refine lv_topi (fun y_4 ey_4 => ?_)
    have ty_4 := sub_bd ey_4 b_3 kb_1 (by decide)
    have b_5 : bd 0 699 y_4 := sub_rg ty_4 b_3 kb_1 (by decide)
    refine g_put (C := RX1) (T := TX1) (N := 18) hx hb hts (mc_ inX1) tyX1 tyX1_ok nmX1 hown hK g ma0_ ka0_ (by decide) rfl 8 (by decide) (hts _ (List.mem_cons_of_mem _ t_743)) (fun _ h9 => h9) rfl rfl (okV_i (bd_sub b_5 (by decide))) rfl rfl (by decide) (Or.inr (Or.inl (by decide))) (fx' := []) rfl dX1_pop_16 (fun f H locs hM_6 g => ?_)
    refine lv_aload_n hx hb dX1_pop_19 rfl (lv_at hl 0 rfl) ?_
    refine g_getr (K := 100) (C := RX1) (T := TX1) (N := 18) hx hb hts (mc_ inX1) hown hK g ma0_ ka0_ (by decide) rfl 7 (by decide) rfl (hts _ (List.mem_cons_of_mem _ t_742)) (fun _ h9 => h9) rfl dX1_pop_20 (fun a_7 ma_7 ka_7 g => ?_)
    refine lv_aload_n hx hb dX1_pop_23 rfl (lv_at hl 0 rfl) ?_
    refine g_getk (C := RX1) (T := TX1) (N := 18) hx hb hts (mc_ inX1) hown hK g rfl 8 (by decide) rfl (hts _ (List.mem_cons_of_mem _ t_743)) (fun _ h9 => h9) 1 rfl dX1_pop_24 ?_
    refine g_iald hx hb hK g ma_7 ka_7 (by decide) rfl (in_bd b_5 (by decide)) dX1_pop_27 (fun x_8 bx_8 cx_8 => ?_)
    subst hQ
    exact W.iret (v := x_8) hx hb hr (fun t ht hW => ⟨⟨_, _, rfl, ⟨y_4, b_5, (g.fcts [1] rfl)⟩, q3_of g hK ht hW⟩, g.2.2.1.F ht⟩) g.2.2.1.2.2 dX1_pop_28
  · have fc_2 := eq_f c_2
    have b_9 : bd 0 0 x_1 := eqX fc_2 bx_1 kb_0 (by decide)
    refine lv_iconst (v := 0) hx hb dX1_pop_7 (by decide) ?_
    subst hQ
    exact W.iret (v := 0) hx hb hr (fun t ht hW => ⟨⟨_, _, rfl, ⟨x_1, (bd_sub b_9 (by decide)), (g.fcts [0] rfl)⟩, q3_of g hK ht hW⟩, g.2.2.1.F ht⟩) g.2.2.1.2.2 dX1_pop_8
