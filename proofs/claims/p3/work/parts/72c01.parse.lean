set_option maxHeartbeats 4000000 in
set_option maxRecDepth 100000 in
theorem r_X8_takeWord_5 (l : Launch) (dC : Nat → ClassId) (dI : Nat → Nat → Nat) (L : List Nat) (kd : Nat → Nat) (tys : List (ClassId × FieldType)) (f0 : Nat → va_E) (sz : Nat) (hWT : WT L kd tys f0) (a0_ : Nat) (ma0_ : a0_ ∈ L) (ka0_ : kd a0_ = 8) (x1_ : Int32) (bx1_ : bd 0 1200 x1_) (x2_ : Int32) (bx2_ : bd (-2147483648) 3999 x2_) (q0_ : Nat) (mq0_ : q0_ ∈ L) (kq0_ : kd q0_ = 104) (y0_ : Int32) (by0_ : bd (-1) (-1) y0_) (hfx : Fs L kd f0 [(8, 4, a0_, .ref q0_), (8, 9, a0_, .int y0_)]) : Met l yX8_takeWord (.code yX8_takeWord cX8_takeWord 7 (some .int) :: lw_g) ({ frames := 1, cells := 0, slots := 0, locals := 21 }) (va_Pc [.ref a0_, .int x1_, .int x2_] (P3 (dC, dI) L tys f0 sz)) (va_Qi (fun (r : Int32) (f : Nat → va_E) => (True)) (Q3 (dC, dI) L kd tys [] [148, 150] f0 sz) (pA L sz)) 0 0 (pA L sz) := by
  refine Met.ofW (cc := cX8_takeWord) (maxL := 7) (ret := (some .int)) (by decide) rfl ?_
  intro p e s m args below meth c s₁ B hml hv
  obtain ⟨rfl, hsz, hP, hK, hD0⟩ := hv
  have hx := B.exec
  have hb := B.bytes
  have hr := B.returns
  have hts := atoms_spec (ws := (.code yX8_takeWord cX8_takeWord 7 (some .int) :: lw_g)) B.pre
  have hown : s.vm.findClass RX8 = some m.cls := findClass_of_methodNamed B.named
  have hlocks := B.notSynchronized
  subst hsz
  have g : G3 (dC, dI) L kd tys s f0 [] [148, 150] f0 s.heap [] [(8, 4, a0_, .ref q0_), (8, 9, a0_, .int y0_)] := G3.start hP hD0 hWT hfx
  have hl := lv_entry ([.ref a0_, .int x1_, .int x2_]) (n := 7) (Nat.le_of_ble_eq_true rfl)
  rw [lg_entry_eq]
  generalize (lg_sl ([.ref a0_, .int x1_, .int x2_]) ++ List.replicate (7 - (lg_sl ([.ref a0_, .int x1_, .int x2_])).length) Slot.unset).toArray = ls at hl ⊢
  have hl : lv_has ls 7 [(0, .ref a0_), (1, .int x1_), (2, .int x2_)] := hl
  refine W_q (fun Q hQ => ?_)
  refine lv_iconst (v := 0) hx hb dX8_takeWord_0 (by decide) ?_
  refine lv_istore_n (lv' := [(3, .int 0), (0, .ref a0_), (1, .int x1_), (2, .int x2_)]) hx hb dX8_takeWord_1 rfl hl (by decide) rfl (fun ls hl => ?_)
  refine lv_lconst (v := 0) hx hb dX8_takeWord_2 (by decide) ?_
  refine lv_lstore (lv' := [(4, .long 0), (3, .int 0), (0, .ref a0_), (1, .int x1_), (2, .int x2_)]) hx hb dX8_takeWord_3 hl (by decide) rfl (fun ls hl => ?_)
  refine lv_iload_n hx hb dX8_takeWord_5 rfl (lv_at hl 4 rfl) ?_
  refine lv_istore (lv' := [(6, .int x2_), (4, .long 0), (3, .int 0), (0, .ref a0_), (1, .int x1_), (2, .int x2_)]) hx hb dX8_takeWord_6 hl (by decide) rfl (fun ls hl => ?_)
  have loop_1 : ∀ (n : Nat) (v8_6 : Int32) (v8_4 : Int64) (v8_3 : Int32), bd (-2147483648) 4000 v8_6 → (4000 - v8_6.toInt < (n : Int)) → ∀ (f : Nat → va_E) (H : Heap) (locs : List Loc) (ls : Array Slot), G3 (dC, dI) L kd tys s f0 [] [148, 150] f H locs [(8, 4, a0_, .ref q0_), (8, 9, a0_, .int y0_)] → lv_has ls 7 [(6, .int v8_6), (4, .long v8_4), (3, .int v8_3), (0, .ref a0_), (1, .int x1_), (2, .int x2_)] → W p l e ({ frames := 1, cells := 0, slots := 0, locals := 21 } : Room) s m [.ref a0_, .int x1_, .int x2_].toArray below meth c H locs 0 0 Q (F0 m 8 ls []) := by
    intro n8
    induction n8 with
    | zero =>
      intro v8_6 v8_4 v8_3 bv8_6   hm8 f H locs ls g  hl
      exact absurd hm8 (by have h9_v8_6 := bv8_6; unfold bd at h9_v8_6; have h9_v8_3 := bdT v8_3; unfold bd at h9_v8_3; omega)
    | succ n8 ih8 =>
      intro v8_6 v8_4 v8_3 bv8_6   hm8 f H locs ls g  hl
      refine lv_iload hx hb dX8_takeWord_8 (lv_at hl 0 rfl) ?_
      refine lv_aload_n hx hb dX8_takeWord_10 rfl (lv_at hl 3 rfl) ?_
      refine g_geti (C := RX8) (T := TX8) (N := 10) hx hb hts (mc_ inX8) hown hK g ma0_ ka0_ (by decide) rfl 5 (by decide) rfl (hts _ (List.mem_cons_of_mem _ t_290)) (fun _ h9 => h9) rfl dX8_takeWord_11 (fun x_2 bx_2 g => ?_)
      refine lv_icmp_ge (tgt := 68) hx hb dX8_takeWord_14 (by decide) (fun c_3 => ?_) (fun c_3 => ?_)
      · have fc_3 := le_f c_3
        have b_4 : bd 0 4000 v8_6 := leR fc_3 bx_2 bv8_6 (by decide)
        refine lv_aload_n hx hb dX8_takeWord_68 rfl (lv_at hl 3 rfl) ?_
        refine g_getr (K := 150) (C := RX8) (T := TX8) (N := 10) hx hb hts (mc_ inX8) hown hK g ma0_ ka0_ (by decide) rfl 2 (by decide) rfl (hts _ (List.mem_cons_of_mem _ t_287)) (fun _ h9 => h9) rfl dX8_takeWord_69 (fun a_5 ma_5 ka_5 g => ?_)
        refine lv_iload_n hx hb dX8_takeWord_72 rfl (lv_at hl 4 rfl) ?_
        refine lv_lload hx hb dX8_takeWord_73 (lv_at hl 1 rfl) ?_
        refine g_last hx hb hK g ma_5 ka_5 (by decide) rfl (in_bd bx1_ (by decide)) (by decide) dX8_takeWord_75 (fun f H locs hM_6 g => ?_)
        refine lv_aload_n hx hb dX8_takeWord_76 rfl (lv_at hl 3 rfl) ?_
        refine g_getr (K := 148) (C := RX8) (T := TX8) (N := 10) hx hb hts (mc_ inX8) hown hK g ma0_ ka0_ (by decide) rfl 0 (by decide) rfl (hts _ (List.mem_cons_of_mem _ t_285)) (fun _ h9 => h9) rfl dX8_takeWord_77 (fun a_7 ma_7 ka_7 g => ?_)
        refine lv_iload_n hx hb dX8_takeWord_80 rfl (lv_at hl 4 rfl) ?_
        refine lv_iload_n hx hb dX8_takeWord_81 rfl (lv_at hl 2 rfl) ?_
        refine lv_bipush (v := 12) hx hb dX8_takeWord_82 (by decide) ?_
        have kb_12 : bd 12 12 (12 : Int32) := ⟨by decide, by decide⟩
        refine lv_icmp_le (tgt := 91) hx hb dX8_takeWord_84 (by decide) (fun c_8 => ?_) (fun c_8 => ?_)
        · have fc_8 := le_f c_8
          have b_9 : bd (-2147483648) 12 v8_3 := leL fc_8 (bdT v8_3) kb_12 (by decide)
          refine lv_iconst (v := 3) hx hb dX8_takeWord_91 (by decide) ?_
          have kb_3 : bd 3 3 (3 : Int32) := ⟨by decide, by decide⟩
          refine g_kast hx hb hK g ma_7 ka_7 (by decide) rfl (in_bd bx1_ (by decide)) (bd_sub kb_3 (by decide)) (Or.inl (lt_bd bx1_ (by decide))) (by decide) dX8_takeWord_92 (fun f H locs hM_10 g => ?_)
          refine lv_iconst (v := 0) hx hb dX8_takeWord_93 (by decide) ?_
          refine lv_istore (lv' := [(6, .int 0), (4, .long v8_4), (3, .int v8_3), (0, .ref a0_), (1, .int x1_), (2, .int x2_)]) hx hb dX8_takeWord_94 hl (by decide) rfl (fun ls hl => ?_)
          have loop_11 : ∀ (n : Nat) (v96_6 : Int32), bd 0 21 v96_6 → (21 - v96_6.toInt < (n : Int)) → ∀ (f : Nat → va_E) (H : Heap) (locs : List Loc) (ls : Array Slot), G3 (dC, dI) L kd tys s f0 [] [148, 150] f H locs [(8, 0, a0_, .ref a_7), (8, 2, a0_, .ref a_5), (8, 5, a0_, .int x_2), (8, 4, a0_, .ref q0_), (8, 9, a0_, .int y0_)] → lv_has ls 7 [(6, .int v96_6), (4, .long v8_4), (3, .int v8_3), (0, .ref a0_), (1, .int x1_), (2, .int x2_)] → W p l e ({ frames := 1, cells := 0, slots := 0, locals := 21 } : Room) s m [.ref a0_, .int x1_, .int x2_].toArray below meth c H locs 0 0 Q (F0 m 96 ls []) := by
            intro n96
            induction n96 with
            | zero =>
              intro v96_6 bv96_6 hm96 f H locs ls g  hl
              exact absurd hm96 (by have h9_v96_6 := bv96_6; unfold bd at h9_v96_6; omega)
            | succ n96 ih96 =>
              intro v96_6 bv96_6 hm96 f H locs ls g  hl
              refine lv_iload hx hb dX8_takeWord_96 (lv_at hl 0 rfl) ?_
              refine lv_bipush (v := 21) hx hb dX8_takeWord_98 (by decide) ?_
              have kb_21 : bd 21 21 (21 : Int32) := ⟨by decide, by decide⟩
              refine lv_icmp_ge (tgt := 143) hx hb dX8_takeWord_100 (by decide) (fun c_12 => ?_) (fun c_12 => ?_)
              · have fc_12 := le_f c_12
                have b_13 : bd 21 21 v96_6 := leR fc_12 kb_21 bv96_6 (by decide)
                refine lv_iload_n hx hb dX8_takeWord_143 rfl (lv_at hl 2 rfl) ?_
                subst hQ
                exact W.iret (v := v8_3) hx hb hr (fun t ht hW => ⟨⟨_, _, rfl, trivial, q3_of g hK ht hW⟩, g.2.2.1.F ht⟩) g.2.2.1.2.2 dX8_takeWord_144
              · have fc_12 := nle_f c_12
                have b_14 : bd 0 20 v96_6 := ltL fc_12 bv96_6 kb_21 (by decide)
                refine lv_aload_n hx hb dX8_takeWord_103 rfl (lv_at hl 3 rfl) ?_
                refine g_getk (C := RX8) (T := TX8) (N := 10) hx hb hts (mc_ inX8) hown hK g rfl 0 (by decide) rfl (hts _ (List.mem_cons_of_mem _ t_285)) (fun _ h9 => h9) 0 rfl dX8_takeWord_104 ?_
                refine lv_iload_n hx hb dX8_takeWord_107 rfl (lv_at hl 4 rfl) ?_
                refine g_kald hx hb hK g ma_7 ka_7 (by decide) rfl (in_bd bx1_ (by decide)) dX8_takeWord_108 (fun x_15 bx_15 cx_15 zx_15 => ?_)
                refine lv_iconst (v := 3) hx hb dX8_takeWord_109 (by decide) ?_
                refine lv_icmp_ne (tgt := 143) hx hb dX8_takeWord_110 (by decide) (fun c_16 => ?_) (fun c_16 => ?_)
                · have fc_16 := neq_f c_16
                  refine lv_iload_n hx hb dX8_takeWord_143 rfl (lv_at hl 2 rfl) ?_
                  subst hQ
                  exact W.iret (v := v8_3) hx hb hr (fun t ht hW => ⟨⟨_, _, rfl, trivial, q3_of g hK ht hW⟩, g.2.2.1.F ht⟩) g.2.2.1.2.2 dX8_takeWord_144
                · have fc_16 := eq_f c_16
                  have b_17 : bd 3 3 x_15 := eqX fc_16 (bdT x_15) kb_3 (by decide)
                  refine lv_aload_n hx hb dX8_takeWord_113 rfl (lv_at hl 3 rfl) ?_
                  refine g_getr (K := 151) (C := RX8) (T := TX8) (N := 10) hx hb hts (mc_ inX8) hown hK g ma0_ ka0_ (by decide) rfl 3 (by decide) rfl (hts _ (List.mem_cons_of_mem _ t_288)) (fun _ h9 => h9) rfl dX8_takeWord_114 (fun a_18 ma_18 ka_18 g => ?_)
                  refine lv_iload hx hb dX8_takeWord_117 (lv_at hl 0 rfl) ?_
                  refine g_lald hx hb hK g ma_18 ka_18 (by decide) rfl (in_bd b_14 (by decide)) dX8_takeWord_119 (fun x_19 => ?_)
                  refine lv_lload hx hb dX8_takeWord_120 (lv_at hl 1 rfl) ?_
                  refine W.lcmp hx hb dX8_takeWord_122 ?_
                  refine lv_if_ne (tgt := 137) hx hb dX8_takeWord_123 (by decide) (fun c_20 => ?_) (fun c_20 => ?_)
                  · have kb_1 : bd 1 1 (1 : Int32) := ⟨by decide, by decide⟩
                    obtain ⟨y_21, ey_21⟩ : ∃ z : Int32, z = v96_6 + 1 := ⟨_, rfl⟩
                    refine lv_iinc (v := y_21) (lv' := [(6, .int y_21), (4, .long v8_4), (3, .int v8_3), (0, .ref a0_), (1, .int x1_), (2, .int x2_)]) hx hb dX8_takeWord_137 hl (k := 0) rfl (by rw [ey_21]; rfl) (by decide) rfl (fun ls hl => ?_)
                    have ty_21 := add_bd ey_21 b_14 kb_1 (by decide)
                    have b_22 : bd 1 21 y_21 := add_rg ty_21 b_14 kb_1 (by decide)
                    refine lv_goto (tgt := 96) hx hb dX8_takeWord_140 (by decide) ?_
                    have hl9 := lv_sub hl [0, 1, 2, 3, 4, 5] (by rfl : lv_pick [(6, .int y_21), (4, .long v8_4), (3, .int v8_3), (0, .ref a0_), (1, .int x1_), (2, .int x2_)] [0, 1, 2, 3, 4, 5] = [(6, .int y_21), (4, .long v8_4), (3, .int v8_3), (0, .ref a0_), (1, .int x1_), (2, .int x2_)])
                    have g9 := g.sub (fx' := [(8, 0, a0_, .ref a_7), (8, 2, a0_, .ref a_5), (8, 5, a0_, .int x_2), (8, 4, a0_, .ref q0_), (8, 9, a0_, .int y0_)]) [1, 2, 3, 4, 5] rfl
                    exact ih96  y_21 (bd_sub b_22 (by decide)) (by have h9_0 := b_22; unfold bd at h9_0; have h9_1 := bv96_6; unfold bd at h9_1; have h9_2 := kb_1; unfold bd at h9_2; have h9_3 := kb_12; unfold bd at h9_3; have h9_4 := kb_21; unfold bd at h9_4; have h9_5 := kb_3; unfold bd at h9_5; omega) _ _ _ _ g9  hl9
                  · refine lv_aload_n hx hb dX8_takeWord_126 rfl (lv_at hl 3 rfl) ?_
                    refine g_getk (C := RX8) (T := TX8) (N := 10) hx hb hts (mc_ inX8) hown hK g rfl 0 (by decide) rfl (hts _ (List.mem_cons_of_mem _ t_285)) (fun _ h9 => h9) 1 rfl dX8_takeWord_127 ?_
                    refine lv_iload_n hx hb dX8_takeWord_130 rfl (lv_at hl 4 rfl) ?_
                    refine lv_bipush (v := 10) hx hb dX8_takeWord_131 (by decide) ?_
                    refine lv_iload hx hb dX8_takeWord_133 (lv_at hl 0 rfl) ?_
                    have kb_10 : bd 10 10 (10 : Int32) := ⟨by decide, by decide⟩
                    refine lv_iadd hx hb dX8_takeWord_135 ?_
                    refine lv_topi (fun y_23 ey_23 => ?_)
                    have ty_23 := add_bd ey_23 kb_10 b_14 (by decide)
                    have b_24 : bd 10 30 y_23 := add_rg ty_23 kb_10 b_14 (by decide)
                    refine g_kast hx hb hK g ma_7 ka_7 (by decide) rfl (in_bd bx1_ (by decide)) (bd_sub b_24 (by decide)) (Or.inl (lt_bd bx1_ (by decide))) (by decide) dX8_takeWord_136 (fun f H locs hM_25 g => ?_)
                    have kb_1 : bd 1 1 (1 : Int32) := ⟨by decide, by decide⟩
                    obtain ⟨y_26, ey_26⟩ : ∃ z : Int32, z = v96_6 + 1 := ⟨_, rfl⟩
                    refine lv_iinc (v := y_26) (lv' := [(6, .int y_26), (4, .long v8_4), (3, .int v8_3), (0, .ref a0_), (1, .int x1_), (2, .int x2_)]) hx hb dX8_takeWord_137 hl (k := 0) rfl (by rw [ey_26]; rfl) (by decide) rfl (fun ls hl => ?_)
                    have ty_26 := add_bd ey_26 b_14 kb_1 (by decide)
                    have b_27 : bd 1 21 y_26 := add_rg ty_26 b_14 kb_1 (by decide)
                    refine lv_goto (tgt := 96) hx hb dX8_takeWord_140 (by decide) ?_
                    have hl9 := lv_sub hl [0, 1, 2, 3, 4, 5] (by rfl : lv_pick [(6, .int y_26), (4, .long v8_4), (3, .int v8_3), (0, .ref a0_), (1, .int x1_), (2, .int x2_)] [0, 1, 2, 3, 4, 5] = [(6, .int y_26), (4, .long v8_4), (3, .int v8_3), (0, .ref a0_), (1, .int x1_), (2, .int x2_)])
                    have g9 := g.sub (fx' := [(8, 0, a0_, .ref a_7), (8, 2, a0_, .ref a_5), (8, 5, a0_, .int x_2), (8, 4, a0_, .ref q0_), (8, 9, a0_, .int y0_)]) [1, 2, 3, 4, 5] rfl
                    exact ih96  y_26 (bd_sub b_27 (by decide)) (by have h9_0 := b_27; unfold bd at h9_0; have h9_1 := bv96_6; unfold bd at h9_1; have h9_2 := kb_1; unfold bd at h9_2; have h9_3 := kb_10; unfold bd at h9_3; have h9_4 := kb_12; unfold bd at h9_4; have h9_5 := kb_21; unfold bd at h9_5; have h9_6 := kb_3; unfold bd at h9_6; omega) _ _ _ _ g9  hl9
          have kb_0 : bd 0 0 (0 : Int32) := ⟨by decide, by decide⟩
          have hl9 := lv_sub hl [0, 1, 2, 3, 4, 5] (by rfl : lv_pick [(6, .int 0), (4, .long v8_4), (3, .int v8_3), (0, .ref a0_), (1, .int x1_), (2, .int x2_)] [0, 1, 2, 3, 4, 5] = [(6, .int 0), (4, .long v8_4), (3, .int v8_3), (0, .ref a0_), (1, .int x1_), (2, .int x2_)])
          have g9 := g.sub (fx' := [(8, 0, a0_, .ref a_7), (8, 2, a0_, .ref a_5), (8, 5, a0_, .int x_2), (8, 4, a0_, .ref q0_), (8, 9, a0_, .int y0_)]) [0, 1, 2, 3, 4] rfl
          exact loop_11 (45) 0 (bd_sub kb_0 (by decide)) (by have h9_0 := kb_0; unfold bd at h9_0; have h9_1 := kb_12; unfold bd at h9_1; have h9_2 := kb_3; unfold bd at h9_2; omega) _ _ _ _ g9  hl9
        · have fc_8 := nle_f c_8
          have b_28 : bd 13 2147483647 v8_3 := ltR fc_8 kb_12 (bdT v8_3) (by decide)
          refine lv_iconst (v := 2) hx hb dX8_takeWord_87 (by decide) ?_
          refine lv_goto (tgt := 92) hx hb dX8_takeWord_88 (by decide) ?_
          have kb_2 : bd 2 2 (2 : Int32) := ⟨by decide, by decide⟩
          refine g_kast hx hb hK g ma_7 ka_7 (by decide) rfl (in_bd bx1_ (by decide)) (bd_sub kb_2 (by decide)) (Or.inl (lt_bd bx1_ (by decide))) (by decide) dX8_takeWord_92 (fun f H locs hM_29 g => ?_)
          refine lv_iconst (v := 0) hx hb dX8_takeWord_93 (by decide) ?_
          refine lv_istore (lv' := [(6, .int 0), (4, .long v8_4), (3, .int v8_3), (0, .ref a0_), (1, .int x1_), (2, .int x2_)]) hx hb dX8_takeWord_94 hl (by decide) rfl (fun ls hl => ?_)
          have loop_30 : ∀ (n : Nat) (v96_6 : Int32), bd 0 21 v96_6 → (21 - v96_6.toInt < (n : Int)) → ∀ (f : Nat → va_E) (H : Heap) (locs : List Loc) (ls : Array Slot), G3 (dC, dI) L kd tys s f0 [] [148, 150] f H locs [(8, 0, a0_, .ref a_7), (8, 2, a0_, .ref a_5), (8, 5, a0_, .int x_2), (8, 4, a0_, .ref q0_), (8, 9, a0_, .int y0_)] → lv_has ls 7 [(6, .int v96_6), (4, .long v8_4), (3, .int v8_3), (0, .ref a0_), (1, .int x1_), (2, .int x2_)] → W p l e ({ frames := 1, cells := 0, slots := 0, locals := 21 } : Room) s m [.ref a0_, .int x1_, .int x2_].toArray below meth c H locs 0 0 Q (F0 m 96 ls []) := by
            intro n96
            induction n96 with
            | zero =>
              intro v96_6 bv96_6 hm96 f H locs ls g  hl
              exact absurd hm96 (by have h9_v96_6 := bv96_6; unfold bd at h9_v96_6; omega)
            | succ n96 ih96 =>
              intro v96_6 bv96_6 hm96 f H locs ls g  hl
              refine lv_iload hx hb dX8_takeWord_96 (lv_at hl 0 rfl) ?_
              refine lv_bipush (v := 21) hx hb dX8_takeWord_98 (by decide) ?_
              have kb_21 : bd 21 21 (21 : Int32) := ⟨by decide, by decide⟩
              refine lv_icmp_ge (tgt := 143) hx hb dX8_takeWord_100 (by decide) (fun c_31 => ?_) (fun c_31 => ?_)
              · have fc_31 := le_f c_31
                have b_32 : bd 21 21 v96_6 := leR fc_31 kb_21 bv96_6 (by decide)
                refine lv_iload_n hx hb dX8_takeWord_143 rfl (lv_at hl 2 rfl) ?_
                subst hQ
                exact W.iret (v := v8_3) hx hb hr (fun t ht hW => ⟨⟨_, _, rfl, trivial, q3_of g hK ht hW⟩, g.2.2.1.F ht⟩) g.2.2.1.2.2 dX8_takeWord_144
              · have fc_31 := nle_f c_31
                have b_33 : bd 0 20 v96_6 := ltL fc_31 bv96_6 kb_21 (by decide)
                refine lv_aload_n hx hb dX8_takeWord_103 rfl (lv_at hl 3 rfl) ?_
                refine g_getk (C := RX8) (T := TX8) (N := 10) hx hb hts (mc_ inX8) hown hK g rfl 0 (by decide) rfl (hts _ (List.mem_cons_of_mem _ t_285)) (fun _ h9 => h9) 0 rfl dX8_takeWord_104 ?_
                refine lv_iload_n hx hb dX8_takeWord_107 rfl (lv_at hl 4 rfl) ?_
                refine g_kald hx hb hK g ma_7 ka_7 (by decide) rfl (in_bd bx1_ (by decide)) dX8_takeWord_108 (fun x_34 bx_34 cx_34 zx_34 => ?_)
                refine lv_iconst (v := 3) hx hb dX8_takeWord_109 (by decide) ?_
                have kb_3 : bd 3 3 (3 : Int32) := ⟨by decide, by decide⟩
                refine lv_icmp_ne (tgt := 143) hx hb dX8_takeWord_110 (by decide) (fun c_35 => ?_) (fun c_35 => ?_)
                · have fc_35 := neq_f c_35
                  refine lv_iload_n hx hb dX8_takeWord_143 rfl (lv_at hl 2 rfl) ?_
                  subst hQ
                  exact W.iret (v := v8_3) hx hb hr (fun t ht hW => ⟨⟨_, _, rfl, trivial, q3_of g hK ht hW⟩, g.2.2.1.F ht⟩) g.2.2.1.2.2 dX8_takeWord_144
                · have fc_35 := eq_f c_35
                  have b_36 : bd 3 3 x_34 := eqX fc_35 (bdT x_34) kb_3 (by decide)
                  refine lv_aload_n hx hb dX8_takeWord_113 rfl (lv_at hl 3 rfl) ?_
                  refine g_getr (K := 151) (C := RX8) (T := TX8) (N := 10) hx hb hts (mc_ inX8) hown hK g ma0_ ka0_ (by decide) rfl 3 (by decide) rfl (hts _ (List.mem_cons_of_mem _ t_288)) (fun _ h9 => h9) rfl dX8_takeWord_114 (fun a_37 ma_37 ka_37 g => ?_)
                  refine lv_iload hx hb dX8_takeWord_117 (lv_at hl 0 rfl) ?_
                  refine g_lald hx hb hK g ma_37 ka_37 (by decide) rfl (in_bd b_33 (by decide)) dX8_takeWord_119 (fun x_38 => ?_)
                  refine lv_lload hx hb dX8_takeWord_120 (lv_at hl 1 rfl) ?_
                  refine W.lcmp hx hb dX8_takeWord_122 ?_
                  refine lv_if_ne (tgt := 137) hx hb dX8_takeWord_123 (by decide) (fun c_39 => ?_) (fun c_39 => ?_)
                  · have kb_1 : bd 1 1 (1 : Int32) := ⟨by decide, by decide⟩
                    obtain ⟨y_40, ey_40⟩ : ∃ z : Int32, z = v96_6 + 1 := ⟨_, rfl⟩
                    refine lv_iinc (v := y_40) (lv' := [(6, .int y_40), (4, .long v8_4), (3, .int v8_3), (0, .ref a0_), (1, .int x1_), (2, .int x2_)]) hx hb dX8_takeWord_137 hl (k := 0) rfl (by rw [ey_40]; rfl) (by decide) rfl (fun ls hl => ?_)
                    have ty_40 := add_bd ey_40 b_33 kb_1 (by decide)
                    have b_41 : bd 1 21 y_40 := add_rg ty_40 b_33 kb_1 (by decide)
                    refine lv_goto (tgt := 96) hx hb dX8_takeWord_140 (by decide) ?_
                    have hl9 := lv_sub hl [0, 1, 2, 3, 4, 5] (by rfl : lv_pick [(6, .int y_40), (4, .long v8_4), (3, .int v8_3), (0, .ref a0_), (1, .int x1_), (2, .int x2_)] [0, 1, 2, 3, 4, 5] = [(6, .int y_40), (4, .long v8_4), (3, .int v8_3), (0, .ref a0_), (1, .int x1_), (2, .int x2_)])
                    have g9 := g.sub (fx' := [(8, 0, a0_, .ref a_7), (8, 2, a0_, .ref a_5), (8, 5, a0_, .int x_2), (8, 4, a0_, .ref q0_), (8, 9, a0_, .int y0_)]) [1, 2, 3, 4, 5] rfl
                    exact ih96  y_40 (bd_sub b_41 (by decide)) (by have h9_0 := b_41; unfold bd at h9_0; have h9_1 := bv96_6; unfold bd at h9_1; have h9_2 := kb_1; unfold bd at h9_2; have h9_3 := kb_12; unfold bd at h9_3; have h9_4 := kb_2; unfold bd at h9_4; have h9_5 := kb_21; unfold bd at h9_5; have h9_6 := kb_3; unfold bd at h9_6; omega) _ _ _ _ g9  hl9
                  · refine lv_aload_n hx hb dX8_takeWord_126 rfl (lv_at hl 3 rfl) ?_
                    refine g_getk (C := RX8) (T := TX8) (N := 10) hx hb hts (mc_ inX8) hown hK g rfl 0 (by decide) rfl (hts _ (List.mem_cons_of_mem _ t_285)) (fun _ h9 => h9) 1 rfl dX8_takeWord_127 ?_
                    refine lv_iload_n hx hb dX8_takeWord_130 rfl (lv_at hl 4 rfl) ?_
                    refine lv_bipush (v := 10) hx hb dX8_takeWord_131 (by decide) ?_
                    refine lv_iload hx hb dX8_takeWord_133 (lv_at hl 0 rfl) ?_
                    have kb_10 : bd 10 10 (10 : Int32) := ⟨by decide, by decide⟩
                    refine lv_iadd hx hb dX8_takeWord_135 ?_
                    refine lv_topi (fun y_42 ey_42 => ?_)
                    have ty_42 := add_bd ey_42 kb_10 b_33 (by decide)
                    have b_43 : bd 10 30 y_42 := add_rg ty_42 kb_10 b_33 (by decide)
                    refine g_kast hx hb hK g ma_7 ka_7 (by decide) rfl (in_bd bx1_ (by decide)) (bd_sub b_43 (by decide)) (Or.inl (lt_bd bx1_ (by decide))) (by decide) dX8_takeWord_136 (fun f H locs hM_44 g => ?_)
                    have kb_1 : bd 1 1 (1 : Int32) := ⟨by decide, by decide⟩
                    obtain ⟨y_45, ey_45⟩ : ∃ z : Int32, z = v96_6 + 1 := ⟨_, rfl⟩
                    refine lv_iinc (v := y_45) (lv' := [(6, .int y_45), (4, .long v8_4), (3, .int v8_3), (0, .ref a0_), (1, .int x1_), (2, .int x2_)]) hx hb dX8_takeWord_137 hl (k := 0) rfl (by rw [ey_45]; rfl) (by decide) rfl (fun ls hl => ?_)
                    have ty_45 := add_bd ey_45 b_33 kb_1 (by decide)
                    have b_46 : bd 1 21 y_45 := add_rg ty_45 b_33 kb_1 (by decide)
                    refine lv_goto (tgt := 96) hx hb dX8_takeWord_140 (by decide) ?_
                    have hl9 := lv_sub hl [0, 1, 2, 3, 4, 5] (by rfl : lv_pick [(6, .int y_45), (4, .long v8_4), (3, .int v8_3), (0, .ref a0_), (1, .int x1_), (2, .int x2_)] [0, 1, 2, 3, 4, 5] = [(6, .int y_45), (4, .long v8_4), (3, .int v8_3), (0, .ref a0_), (1, .int x1_), (2, .int x2_)])
                    have g9 := g.sub (fx' := [(8, 0, a0_, .ref a_7), (8, 2, a0_, .ref a_5), (8, 5, a0_, .int x_2), (8, 4, a0_, .ref q0_), (8, 9, a0_, .int y0_)]) [1, 2, 3, 4, 5] rfl
                    exact ih96  y_45 (bd_sub b_46 (by decide)) (by have h9_0 := b_46; unfold bd at h9_0; have h9_1 := bv96_6; unfold bd at h9_1; have h9_2 := kb_1; unfold bd at h9_2; have h9_3 := kb_10; unfold bd at h9_3; have h9_4 := kb_12; unfold bd at h9_4; have h9_5 := kb_2; unfold bd at h9_5; have h9_6 := kb_21; unfold bd at h9_6; have h9_7 := kb_3; unfold bd at h9_7; omega) _ _ _ _ g9  hl9
          have kb_0 : bd 0 0 (0 : Int32) := ⟨by decide, by decide⟩
          have hl9 := lv_sub hl [0, 1, 2, 3, 4, 5] (by rfl : lv_pick [(6, .int 0), (4, .long v8_4), (3, .int v8_3), (0, .ref a0_), (1, .int x1_), (2, .int x2_)] [0, 1, 2, 3, 4, 5] = [(6, .int 0), (4, .long v8_4), (3, .int v8_3), (0, .ref a0_), (1, .int x1_), (2, .int x2_)])
          have g9 := g.sub (fx' := [(8, 0, a0_, .ref a_7), (8, 2, a0_, .ref a_5), (8, 5, a0_, .int x_2), (8, 4, a0_, .ref q0_), (8, 9, a0_, .int y0_)]) [0, 1, 2, 3, 4] rfl
          exact loop_30 (45) 0 (bd_sub kb_0 (by decide)) (by have h9_0 := kb_0; unfold bd at h9_0; have h9_1 := kb_12; unfold bd at h9_1; have h9_2 := kb_2; unfold bd at h9_2; omega) _ _ _ _ g9  hl9
      · have fc_3 := nle_f c_3
        have b_47 : bd (-2147483648) 3999 v8_6 := ltL fc_3 bv8_6 bx_2 (by decide)
        refine lv_aload_n hx hb dX8_takeWord_17 rfl (lv_at hl 3 rfl) ?_
        refine lv_iload hx hb dX8_takeWord_18 (lv_at hl 0 rfl) ?_
        refine g_calli (va_runV (As := [.int v8_6]) (rest := []) ⟨hx, hb, hml, hown, hts⟩ (r_X8_byteAt l dC dI L kd tys f H.size g.2.2.2.1 a0_ ma0_ ka0_ v8_6 q0_ mq0_ kq0_ (g.fcts [1] rfl)) (cwV 1 hts (gV_ t_1004 t_1006 t_3 t_184 t_1007) rfl rfl rfl (by decide +kernel) ⟨(Nat.le_of_ble_eq_true rfl), (Nat.le_of_ble_eq_true rfl)⟩) (pre3V g hK ma0_ ka0_ (by decide) (q := (RX8, TX8, 10)) rfl) rfl rfl hl.1 rfl (lv_room (Nat.le_of_ble_eq_true rfl)) dX8_takeWord_20 ⟨(Nat.le_of_ble_eq_true rfl), (Nat.le_of_ble_eq_true rfl)⟩) g hK (by decide) (by decide) (fx' := [(8, 5, a0_, .int x_2), (8, 4, a0_, .ref q0_), (8, 9, a0_, .int y0_)]) rfl (fun r_48 fr_48 H locs hp hMr_48 g => ?_)
        obtain ⟨h_49, -⟩ := hp
        refine g_calli (va_runS (As := [.int r_48]) (rest := []) ⟨hx, hb, hml, hown, hts⟩ (r_X8_codeOf l dC dI L kd tys fr_48 H.size g.2.2.2.1 r_48) (va_cwS 1 hts (gS_ t_280 t_281 t_184 t_282) rfl rfl rfl (by decide +kernel) ⟨(Nat.le_of_ble_eq_true rfl), (Nat.le_of_ble_eq_true rfl)⟩) (pre3S g hK) rfl rfl hl.1 rfl (lv_room (Nat.le_of_ble_eq_true rfl)) dX8_takeWord_23 ⟨(Nat.le_of_ble_eq_true rfl), (Nat.le_of_ble_eq_true rfl)⟩) g hK (by decide) (by decide) (fx' := [(8, 5, a0_, .int x_2), (8, 4, a0_, .ref q0_), (8, 9, a0_, .int y0_)]) rfl (fun r_50 fr_50 H locs hp hMr_50 g => ?_)
        obtain ⟨h_51, -⟩ := hp
        have kb_0 : bd 0 0 (0 : Int32) := ⟨by decide, by decide⟩
        refine lv_if_le (tgt := 68) hx hb dX8_takeWord_26 (by decide) (fun c_52 => ?_) (fun c_52 => ?_)
        · have fc_52 := le_f c_52
          have b_53 : bd 0 0 r_50 := leL fc_52 h_51 kb_0 (by decide)
          refine lv_aload_n hx hb dX8_takeWord_68 rfl (lv_at hl 3 rfl) ?_
          refine g_getr (K := 150) (C := RX8) (T := TX8) (N := 10) hx hb hts (mc_ inX8) hown hK g ma0_ ka0_ (by decide) rfl 2 (by decide) rfl (hts _ (List.mem_cons_of_mem _ t_287)) (fun _ h9 => h9) rfl dX8_takeWord_69 (fun a_54 ma_54 ka_54 g => ?_)
          refine lv_iload_n hx hb dX8_takeWord_72 rfl (lv_at hl 4 rfl) ?_
          refine lv_lload hx hb dX8_takeWord_73 (lv_at hl 1 rfl) ?_
          refine g_last hx hb hK g ma_54 ka_54 (by decide) rfl (in_bd bx1_ (by decide)) (by decide) dX8_takeWord_75 (fun f H locs hM_55 g => ?_)
          refine lv_aload_n hx hb dX8_takeWord_76 rfl (lv_at hl 3 rfl) ?_
          refine g_getr (K := 148) (C := RX8) (T := TX8) (N := 10) hx hb hts (mc_ inX8) hown hK g ma0_ ka0_ (by decide) rfl 0 (by decide) rfl (hts _ (List.mem_cons_of_mem _ t_285)) (fun _ h9 => h9) rfl dX8_takeWord_77 (fun a_56 ma_56 ka_56 g => ?_)
          refine lv_iload_n hx hb dX8_takeWord_80 rfl (lv_at hl 4 rfl) ?_
          refine lv_iload_n hx hb dX8_takeWord_81 rfl (lv_at hl 2 rfl) ?_
          refine lv_bipush (v := 12) hx hb dX8_takeWord_82 (by decide) ?_
          have kb_12 : bd 12 12 (12 : Int32) := ⟨by decide, by decide⟩
          refine lv_icmp_le (tgt := 91) hx hb dX8_takeWord_84 (by decide) (fun c_57 => ?_) (fun c_57 => ?_)
          · have fc_57 := le_f c_57
            have b_58 : bd (-2147483648) 12 v8_3 := leL fc_57 (bdT v8_3) kb_12 (by decide)
            refine lv_iconst (v := 3) hx hb dX8_takeWord_91 (by decide) ?_
            have kb_3 : bd 3 3 (3 : Int32) := ⟨by decide, by decide⟩
            refine g_kast hx hb hK g ma_56 ka_56 (by decide) rfl (in_bd bx1_ (by decide)) (bd_sub kb_3 (by decide)) (Or.inl (lt_bd bx1_ (by decide))) (by decide) dX8_takeWord_92 (fun f H locs hM_59 g => ?_)
            refine lv_iconst (v := 0) hx hb dX8_takeWord_93 (by decide) ?_
            refine lv_istore (lv' := [(6, .int 0), (4, .long v8_4), (3, .int v8_3), (0, .ref a0_), (1, .int x1_), (2, .int x2_)]) hx hb dX8_takeWord_94 hl (by decide) rfl (fun ls hl => ?_)
            have loop_60 : ∀ (n : Nat) (v96_6 : Int32), bd 0 21 v96_6 → (21 - v96_6.toInt < (n : Int)) → ∀ (f : Nat → va_E) (H : Heap) (locs : List Loc) (ls : Array Slot), G3 (dC, dI) L kd tys s f0 [] [148, 150] f H locs [(8, 0, a0_, .ref a_56), (8, 2, a0_, .ref a_54), (8, 5, a0_, .int x_2), (8, 4, a0_, .ref q0_), (8, 9, a0_, .int y0_)] → lv_has ls 7 [(6, .int v96_6), (4, .long v8_4), (3, .int v8_3), (0, .ref a0_), (1, .int x1_), (2, .int x2_)] → W p l e ({ frames := 1, cells := 0, slots := 0, locals := 21 } : Room) s m [.ref a0_, .int x1_, .int x2_].toArray below meth c H locs 0 0 Q (F0 m 96 ls []) := by
              intro n96
              induction n96 with
              | zero =>
                intro v96_6 bv96_6 hm96 f H locs ls g  hl
                exact absurd hm96 (by have h9_v96_6 := bv96_6; unfold bd at h9_v96_6; omega)
              | succ n96 ih96 =>
                intro v96_6 bv96_6 hm96 f H locs ls g  hl
                refine lv_iload hx hb dX8_takeWord_96 (lv_at hl 0 rfl) ?_
                refine lv_bipush (v := 21) hx hb dX8_takeWord_98 (by decide) ?_
                have kb_21 : bd 21 21 (21 : Int32) := ⟨by decide, by decide⟩
                refine lv_icmp_ge (tgt := 143) hx hb dX8_takeWord_100 (by decide) (fun c_61 => ?_) (fun c_61 => ?_)
                · have fc_61 := le_f c_61
                  have b_62 : bd 21 21 v96_6 := leR fc_61 kb_21 bv96_6 (by decide)
                  refine lv_iload_n hx hb dX8_takeWord_143 rfl (lv_at hl 2 rfl) ?_
                  subst hQ
                  exact W.iret (v := v8_3) hx hb hr (fun t ht hW => ⟨⟨_, _, rfl, trivial, q3_of g hK ht hW⟩, g.2.2.1.F ht⟩) g.2.2.1.2.2 dX8_takeWord_144
                · have fc_61 := nle_f c_61
                  have b_63 : bd 0 20 v96_6 := ltL fc_61 bv96_6 kb_21 (by decide)
                  refine lv_aload_n hx hb dX8_takeWord_103 rfl (lv_at hl 3 rfl) ?_
                  refine g_getk (C := RX8) (T := TX8) (N := 10) hx hb hts (mc_ inX8) hown hK g rfl 0 (by decide) rfl (hts _ (List.mem_cons_of_mem _ t_285)) (fun _ h9 => h9) 0 rfl dX8_takeWord_104 ?_
                  refine lv_iload_n hx hb dX8_takeWord_107 rfl (lv_at hl 4 rfl) ?_
                  refine g_kald hx hb hK g ma_56 ka_56 (by decide) rfl (in_bd bx1_ (by decide)) dX8_takeWord_108 (fun x_64 bx_64 cx_64 zx_64 => ?_)
                  refine lv_iconst (v := 3) hx hb dX8_takeWord_109 (by decide) ?_
                  refine lv_icmp_ne (tgt := 143) hx hb dX8_takeWord_110 (by decide) (fun c_65 => ?_) (fun c_65 => ?_)
                  · have fc_65 := neq_f c_65
                    refine lv_iload_n hx hb dX8_takeWord_143 rfl (lv_at hl 2 rfl) ?_
                    subst hQ
                    exact W.iret (v := v8_3) hx hb hr (fun t ht hW => ⟨⟨_, _, rfl, trivial, q3_of g hK ht hW⟩, g.2.2.1.F ht⟩) g.2.2.1.2.2 dX8_takeWord_144
                  · have fc_65 := eq_f c_65
                    have b_66 : bd 3 3 x_64 := eqX fc_65 (bdT x_64) kb_3 (by decide)
                    refine lv_aload_n hx hb dX8_takeWord_113 rfl (lv_at hl 3 rfl) ?_
                    refine g_getr (K := 151) (C := RX8) (T := TX8) (N := 10) hx hb hts (mc_ inX8) hown hK g ma0_ ka0_ (by decide) rfl 3 (by decide) rfl (hts _ (List.mem_cons_of_mem _ t_288)) (fun _ h9 => h9) rfl dX8_takeWord_114 (fun a_67 ma_67 ka_67 g => ?_)
                    refine lv_iload hx hb dX8_takeWord_117 (lv_at hl 0 rfl) ?_
                    refine g_lald hx hb hK g ma_67 ka_67 (by decide) rfl (in_bd b_63 (by decide)) dX8_takeWord_119 (fun x_68 => ?_)
                    refine lv_lload hx hb dX8_takeWord_120 (lv_at hl 1 rfl) ?_
                    refine W.lcmp hx hb dX8_takeWord_122 ?_
                    refine lv_if_ne (tgt := 137) hx hb dX8_takeWord_123 (by decide) (fun c_69 => ?_) (fun c_69 => ?_)
                    · have kb_1 : bd 1 1 (1 : Int32) := ⟨by decide, by decide⟩
                      obtain ⟨y_70, ey_70⟩ : ∃ z : Int32, z = v96_6 + 1 := ⟨_, rfl⟩
                      refine lv_iinc (v := y_70) (lv' := [(6, .int y_70), (4, .long v8_4), (3, .int v8_3), (0, .ref a0_), (1, .int x1_), (2, .int x2_)]) hx hb dX8_takeWord_137 hl (k := 0) rfl (by rw [ey_70]; rfl) (by decide) rfl (fun ls hl => ?_)
                      have ty_70 := add_bd ey_70 b_63 kb_1 (by decide)
                      have b_71 : bd 1 21 y_70 := add_rg ty_70 b_63 kb_1 (by decide)
                      refine lv_goto (tgt := 96) hx hb dX8_takeWord_140 (by decide) ?_
                      have hl9 := lv_sub hl [0, 1, 2, 3, 4, 5] (by rfl : lv_pick [(6, .int y_70), (4, .long v8_4), (3, .int v8_3), (0, .ref a0_), (1, .int x1_), (2, .int x2_)] [0, 1, 2, 3, 4, 5] = [(6, .int y_70), (4, .long v8_4), (3, .int v8_3), (0, .ref a0_), (1, .int x1_), (2, .int x2_)])
                      have g9 := g.sub (fx' := [(8, 0, a0_, .ref a_56), (8, 2, a0_, .ref a_54), (8, 5, a0_, .int x_2), (8, 4, a0_, .ref q0_), (8, 9, a0_, .int y0_)]) [1, 2, 3, 4, 5] rfl
                      exact ih96  y_70 (bd_sub b_71 (by decide)) (by have h9_0 := b_71; unfold bd at h9_0; have h9_1 := bv96_6; unfold bd at h9_1; have h9_2 := kb_0; unfold bd at h9_2; have h9_3 := kb_1; unfold bd at h9_3; have h9_4 := kb_12; unfold bd at h9_4; have h9_5 := kb_21; unfold bd at h9_5; have h9_6 := kb_3; unfold bd at h9_6; omega) _ _ _ _ g9  hl9
                    · refine lv_aload_n hx hb dX8_takeWord_126 rfl (lv_at hl 3 rfl) ?_
                      refine g_getk (C := RX8) (T := TX8) (N := 10) hx hb hts (mc_ inX8) hown hK g rfl 0 (by decide) rfl (hts _ (List.mem_cons_of_mem _ t_285)) (fun _ h9 => h9) 1 rfl dX8_takeWord_127 ?_
                      refine lv_iload_n hx hb dX8_takeWord_130 rfl (lv_at hl 4 rfl) ?_
                      refine lv_bipush (v := 10) hx hb dX8_takeWord_131 (by decide) ?_
                      refine lv_iload hx hb dX8_takeWord_133 (lv_at hl 0 rfl) ?_
                      have kb_10 : bd 10 10 (10 : Int32) := ⟨by decide, by decide⟩
                      refine lv_iadd hx hb dX8_takeWord_135 ?_
                      refine lv_topi (fun y_72 ey_72 => ?_)
                      have ty_72 := add_bd ey_72 kb_10 b_63 (by decide)
                      have b_73 : bd 10 30 y_72 := add_rg ty_72 kb_10 b_63 (by decide)
                      refine g_kast hx hb hK g ma_56 ka_56 (by decide) rfl (in_bd bx1_ (by decide)) (bd_sub b_73 (by decide)) (Or.inl (lt_bd bx1_ (by decide))) (by decide) dX8_takeWord_136 (fun f H locs hM_74 g => ?_)
                      have kb_1 : bd 1 1 (1 : Int32) := ⟨by decide, by decide⟩
                      obtain ⟨y_75, ey_75⟩ : ∃ z : Int32, z = v96_6 + 1 := ⟨_, rfl⟩
                      refine lv_iinc (v := y_75) (lv' := [(6, .int y_75), (4, .long v8_4), (3, .int v8_3), (0, .ref a0_), (1, .int x1_), (2, .int x2_)]) hx hb dX8_takeWord_137 hl (k := 0) rfl (by rw [ey_75]; rfl) (by decide) rfl (fun ls hl => ?_)
                      have ty_75 := add_bd ey_75 b_63 kb_1 (by decide)
                      have b_76 : bd 1 21 y_75 := add_rg ty_75 b_63 kb_1 (by decide)
                      refine lv_goto (tgt := 96) hx hb dX8_takeWord_140 (by decide) ?_
                      have hl9 := lv_sub hl [0, 1, 2, 3, 4, 5] (by rfl : lv_pick [(6, .int y_75), (4, .long v8_4), (3, .int v8_3), (0, .ref a0_), (1, .int x1_), (2, .int x2_)] [0, 1, 2, 3, 4, 5] = [(6, .int y_75), (4, .long v8_4), (3, .int v8_3), (0, .ref a0_), (1, .int x1_), (2, .int x2_)])
                      have g9 := g.sub (fx' := [(8, 0, a0_, .ref a_56), (8, 2, a0_, .ref a_54), (8, 5, a0_, .int x_2), (8, 4, a0_, .ref q0_), (8, 9, a0_, .int y0_)]) [1, 2, 3, 4, 5] rfl
                      exact ih96  y_75 (bd_sub b_76 (by decide)) (by have h9_0 := b_76; unfold bd at h9_0; have h9_1 := bv96_6; unfold bd at h9_1; have h9_2 := kb_0; unfold bd at h9_2; have h9_3 := kb_1; unfold bd at h9_3; have h9_4 := kb_10; unfold bd at h9_4; have h9_5 := kb_12; unfold bd at h9_5; have h9_6 := kb_21; unfold bd at h9_6; have h9_7 := kb_3; unfold bd at h9_7; omega) _ _ _ _ g9  hl9
            have hl9 := lv_sub hl [0, 1, 2, 3, 4, 5] (by rfl : lv_pick [(6, .int 0), (4, .long v8_4), (3, .int v8_3), (0, .ref a0_), (1, .int x1_), (2, .int x2_)] [0, 1, 2, 3, 4, 5] = [(6, .int 0), (4, .long v8_4), (3, .int v8_3), (0, .ref a0_), (1, .int x1_), (2, .int x2_)])
            have g9 := g.sub (fx' := [(8, 0, a0_, .ref a_56), (8, 2, a0_, .ref a_54), (8, 5, a0_, .int x_2), (8, 4, a0_, .ref q0_), (8, 9, a0_, .int y0_)]) [0, 1, 2, 3, 4] rfl
            exact loop_60 (45) 0 (bd_sub kb_0 (by decide)) (by have h9_0 := kb_0; unfold bd at h9_0; have h9_1 := kb_12; unfold bd at h9_1; have h9_2 := kb_3; unfold bd at h9_2; omega) _ _ _ _ g9  hl9
          · have fc_57 := nle_f c_57
            have b_77 : bd 13 2147483647 v8_3 := ltR fc_57 kb_12 (bdT v8_3) (by decide)
            refine lv_iconst (v := 2) hx hb dX8_takeWord_87 (by decide) ?_
            refine lv_goto (tgt := 92) hx hb dX8_takeWord_88 (by decide) ?_
            have kb_2 : bd 2 2 (2 : Int32) := ⟨by decide, by decide⟩
            refine g_kast hx hb hK g ma_56 ka_56 (by decide) rfl (in_bd bx1_ (by decide)) (bd_sub kb_2 (by decide)) (Or.inl (lt_bd bx1_ (by decide))) (by decide) dX8_takeWord_92 (fun f H locs hM_78 g => ?_)
            refine lv_iconst (v := 0) hx hb dX8_takeWord_93 (by decide) ?_
            refine lv_istore (lv' := [(6, .int 0), (4, .long v8_4), (3, .int v8_3), (0, .ref a0_), (1, .int x1_), (2, .int x2_)]) hx hb dX8_takeWord_94 hl (by decide) rfl (fun ls hl => ?_)
            have loop_79 : ∀ (n : Nat) (v96_6 : Int32), bd 0 21 v96_6 → (21 - v96_6.toInt < (n : Int)) → ∀ (f : Nat → va_E) (H : Heap) (locs : List Loc) (ls : Array Slot), G3 (dC, dI) L kd tys s f0 [] [148, 150] f H locs [(8, 0, a0_, .ref a_56), (8, 2, a0_, .ref a_54), (8, 5, a0_, .int x_2), (8, 4, a0_, .ref q0_), (8, 9, a0_, .int y0_)] → lv_has ls 7 [(6, .int v96_6), (4, .long v8_4), (3, .int v8_3), (0, .ref a0_), (1, .int x1_), (2, .int x2_)] → W p l e ({ frames := 1, cells := 0, slots := 0, locals := 21 } : Room) s m [.ref a0_, .int x1_, .int x2_].toArray below meth c H locs 0 0 Q (F0 m 96 ls []) := by
              intro n96
              induction n96 with
              | zero =>
                intro v96_6 bv96_6 hm96 f H locs ls g  hl
                exact absurd hm96 (by have h9_v96_6 := bv96_6; unfold bd at h9_v96_6; omega)
              | succ n96 ih96 =>
                intro v96_6 bv96_6 hm96 f H locs ls g  hl
                refine lv_iload hx hb dX8_takeWord_96 (lv_at hl 0 rfl) ?_
                refine lv_bipush (v := 21) hx hb dX8_takeWord_98 (by decide) ?_
                have kb_21 : bd 21 21 (21 : Int32) := ⟨by decide, by decide⟩
                refine lv_icmp_ge (tgt := 143) hx hb dX8_takeWord_100 (by decide) (fun c_80 => ?_) (fun c_80 => ?_)
                · have fc_80 := le_f c_80
                  have b_81 : bd 21 21 v96_6 := leR fc_80 kb_21 bv96_6 (by decide)
                  refine lv_iload_n hx hb dX8_takeWord_143 rfl (lv_at hl 2 rfl) ?_
                  subst hQ
                  exact W.iret (v := v8_3) hx hb hr (fun t ht hW => ⟨⟨_, _, rfl, trivial, q3_of g hK ht hW⟩, g.2.2.1.F ht⟩) g.2.2.1.2.2 dX8_takeWord_144
                · have fc_80 := nle_f c_80
                  have b_82 : bd 0 20 v96_6 := ltL fc_80 bv96_6 kb_21 (by decide)
                  refine lv_aload_n hx hb dX8_takeWord_103 rfl (lv_at hl 3 rfl) ?_
                  refine g_getk (C := RX8) (T := TX8) (N := 10) hx hb hts (mc_ inX8) hown hK g rfl 0 (by decide) rfl (hts _ (List.mem_cons_of_mem _ t_285)) (fun _ h9 => h9) 0 rfl dX8_takeWord_104 ?_
                  refine lv_iload_n hx hb dX8_takeWord_107 rfl (lv_at hl 4 rfl) ?_
                  refine g_kald hx hb hK g ma_56 ka_56 (by decide) rfl (in_bd bx1_ (by decide)) dX8_takeWord_108 (fun x_83 bx_83 cx_83 zx_83 => ?_)
                  refine lv_iconst (v := 3) hx hb dX8_takeWord_109 (by decide) ?_
                  have kb_3 : bd 3 3 (3 : Int32) := ⟨by decide, by decide⟩
                  refine lv_icmp_ne (tgt := 143) hx hb dX8_takeWord_110 (by decide) (fun c_84 => ?_) (fun c_84 => ?_)
                  · have fc_84 := neq_f c_84
                    refine lv_iload_n hx hb dX8_takeWord_143 rfl (lv_at hl 2 rfl) ?_
                    subst hQ
                    exact W.iret (v := v8_3) hx hb hr (fun t ht hW => ⟨⟨_, _, rfl, trivial, q3_of g hK ht hW⟩, g.2.2.1.F ht⟩) g.2.2.1.2.2 dX8_takeWord_144
                  · have fc_84 := eq_f c_84
                    have b_85 : bd 3 3 x_83 := eqX fc_84 (bdT x_83) kb_3 (by decide)
                    refine lv_aload_n hx hb dX8_takeWord_113 rfl (lv_at hl 3 rfl) ?_
                    refine g_getr (K := 151) (C := RX8) (T := TX8) (N := 10) hx hb hts (mc_ inX8) hown hK g ma0_ ka0_ (by decide) rfl 3 (by decide) rfl (hts _ (List.mem_cons_of_mem _ t_288)) (fun _ h9 => h9) rfl dX8_takeWord_114 (fun a_86 ma_86 ka_86 g => ?_)
                    refine lv_iload hx hb dX8_takeWord_117 (lv_at hl 0 rfl) ?_
                    refine g_lald hx hb hK g ma_86 ka_86 (by decide) rfl (in_bd b_82 (by decide)) dX8_takeWord_119 (fun x_87 => ?_)
                    refine lv_lload hx hb dX8_takeWord_120 (lv_at hl 1 rfl) ?_
                    refine W.lcmp hx hb dX8_takeWord_122 ?_
                    refine lv_if_ne (tgt := 137) hx hb dX8_takeWord_123 (by decide) (fun c_88 => ?_) (fun c_88 => ?_)
                    · have kb_1 : bd 1 1 (1 : Int32) := ⟨by decide, by decide⟩
                      obtain ⟨y_89, ey_89⟩ : ∃ z : Int32, z = v96_6 + 1 := ⟨_, rfl⟩
                      refine lv_iinc (v := y_89) (lv' := [(6, .int y_89), (4, .long v8_4), (3, .int v8_3), (0, .ref a0_), (1, .int x1_), (2, .int x2_)]) hx hb dX8_takeWord_137 hl (k := 0) rfl (by rw [ey_89]; rfl) (by decide) rfl (fun ls hl => ?_)
                      have ty_89 := add_bd ey_89 b_82 kb_1 (by decide)
                      have b_90 : bd 1 21 y_89 := add_rg ty_89 b_82 kb_1 (by decide)
                      refine lv_goto (tgt := 96) hx hb dX8_takeWord_140 (by decide) ?_
                      have hl9 := lv_sub hl [0, 1, 2, 3, 4, 5] (by rfl : lv_pick [(6, .int y_89), (4, .long v8_4), (3, .int v8_3), (0, .ref a0_), (1, .int x1_), (2, .int x2_)] [0, 1, 2, 3, 4, 5] = [(6, .int y_89), (4, .long v8_4), (3, .int v8_3), (0, .ref a0_), (1, .int x1_), (2, .int x2_)])
                      have g9 := g.sub (fx' := [(8, 0, a0_, .ref a_56), (8, 2, a0_, .ref a_54), (8, 5, a0_, .int x_2), (8, 4, a0_, .ref q0_), (8, 9, a0_, .int y0_)]) [1, 2, 3, 4, 5] rfl
                      exact ih96  y_89 (bd_sub b_90 (by decide)) (by have h9_0 := b_90; unfold bd at h9_0; have h9_1 := bv96_6; unfold bd at h9_1; have h9_2 := kb_0; unfold bd at h9_2; have h9_3 := kb_1; unfold bd at h9_3; have h9_4 := kb_12; unfold bd at h9_4; have h9_5 := kb_2; unfold bd at h9_5; have h9_6 := kb_21; unfold bd at h9_6; have h9_7 := kb_3; unfold bd at h9_7; omega) _ _ _ _ g9  hl9
                    · refine lv_aload_n hx hb dX8_takeWord_126 rfl (lv_at hl 3 rfl) ?_
                      refine g_getk (C := RX8) (T := TX8) (N := 10) hx hb hts (mc_ inX8) hown hK g rfl 0 (by decide) rfl (hts _ (List.mem_cons_of_mem _ t_285)) (fun _ h9 => h9) 1 rfl dX8_takeWord_127 ?_
                      refine lv_iload_n hx hb dX8_takeWord_130 rfl (lv_at hl 4 rfl) ?_
                      refine lv_bipush (v := 10) hx hb dX8_takeWord_131 (by decide) ?_
                      refine lv_iload hx hb dX8_takeWord_133 (lv_at hl 0 rfl) ?_
                      have kb_10 : bd 10 10 (10 : Int32) := ⟨by decide, by decide⟩
                      refine lv_iadd hx hb dX8_takeWord_135 ?_
                      refine lv_topi (fun y_91 ey_91 => ?_)
                      have ty_91 := add_bd ey_91 kb_10 b_82 (by decide)
                      have b_92 : bd 10 30 y_91 := add_rg ty_91 kb_10 b_82 (by decide)
                      refine g_kast hx hb hK g ma_56 ka_56 (by decide) rfl (in_bd bx1_ (by decide)) (bd_sub b_92 (by decide)) (Or.inl (lt_bd bx1_ (by decide))) (by decide) dX8_takeWord_136 (fun f H locs hM_93 g => ?_)
                      have kb_1 : bd 1 1 (1 : Int32) := ⟨by decide, by decide⟩
                      obtain ⟨y_94, ey_94⟩ : ∃ z : Int32, z = v96_6 + 1 := ⟨_, rfl⟩
                      refine lv_iinc (v := y_94) (lv' := [(6, .int y_94), (4, .long v8_4), (3, .int v8_3), (0, .ref a0_), (1, .int x1_), (2, .int x2_)]) hx hb dX8_takeWord_137 hl (k := 0) rfl (by rw [ey_94]; rfl) (by decide) rfl (fun ls hl => ?_)
                      have ty_94 := add_bd ey_94 b_82 kb_1 (by decide)
                      have b_95 : bd 1 21 y_94 := add_rg ty_94 b_82 kb_1 (by decide)
                      refine lv_goto (tgt := 96) hx hb dX8_takeWord_140 (by decide) ?_
                      have hl9 := lv_sub hl [0, 1, 2, 3, 4, 5] (by rfl : lv_pick [(6, .int y_94), (4, .long v8_4), (3, .int v8_3), (0, .ref a0_), (1, .int x1_), (2, .int x2_)] [0, 1, 2, 3, 4, 5] = [(6, .int y_94), (4, .long v8_4), (3, .int v8_3), (0, .ref a0_), (1, .int x1_), (2, .int x2_)])
                      have g9 := g.sub (fx' := [(8, 0, a0_, .ref a_56), (8, 2, a0_, .ref a_54), (8, 5, a0_, .int x_2), (8, 4, a0_, .ref q0_), (8, 9, a0_, .int y0_)]) [1, 2, 3, 4, 5] rfl
                      exact ih96  y_94 (bd_sub b_95 (by decide)) (by have h9_0 := b_95; unfold bd at h9_0; have h9_1 := bv96_6; unfold bd at h9_1; have h9_2 := kb_0; unfold bd at h9_2; have h9_3 := kb_1; unfold bd at h9_3; have h9_4 := kb_10; unfold bd at h9_4; have h9_5 := kb_12; unfold bd at h9_5; have h9_6 := kb_2; unfold bd at h9_6; have h9_7 := kb_21; unfold bd at h9_7; have h9_8 := kb_3; unfold bd at h9_8; omega) _ _ _ _ g9  hl9
            have hl9 := lv_sub hl [0, 1, 2, 3, 4, 5] (by rfl : lv_pick [(6, .int 0), (4, .long v8_4), (3, .int v8_3), (0, .ref a0_), (1, .int x1_), (2, .int x2_)] [0, 1, 2, 3, 4, 5] = [(6, .int 0), (4, .long v8_4), (3, .int v8_3), (0, .ref a0_), (1, .int x1_), (2, .int x2_)])
            have g9 := g.sub (fx' := [(8, 0, a0_, .ref a_56), (8, 2, a0_, .ref a_54), (8, 5, a0_, .int x_2), (8, 4, a0_, .ref q0_), (8, 9, a0_, .int y0_)]) [0, 1, 2, 3, 4] rfl
            exact loop_79 (45) 0 (bd_sub kb_0 (by decide)) (by have h9_0 := kb_0; unfold bd at h9_0; have h9_1 := kb_12; unfold bd at h9_1; have h9_2 := kb_2; unfold bd at h9_2; omega) _ _ _ _ g9  hl9
        · have fc_52 := nle_f c_52
          have b_96 : bd 1 37 r_50 := ltR fc_52 kb_0 h_51 (by decide)
          refine lv_iload_n hx hb dX8_takeWord_29 rfl (lv_at hl 2 rfl) ?_
          refine lv_bipush (v := 12) hx hb dX8_takeWord_30 (by decide) ?_
          have kb_12 : bd 12 12 (12 : Int32) := ⟨by decide, by decide⟩
          refine lv_icmp_ge (tgt := 55) hx hb dX8_takeWord_32 (by decide) (fun c_97 => ?_) (fun c_97 => ?_)
          · have fc_97 := le_f c_97
            have b_98 : bd 12 2147483647 v8_3 := leR fc_97 kb_12 (bdT v8_3) (by decide)
            refine lv_lload hx hb dX8_takeWord_55 (lv_at hl 1 rfl) ?_
            refine lv_lstore (lv' := [(4, .long v8_4), (6, .int v8_6), (3, .int v8_3), (0, .ref a0_), (1, .int x1_), (2, .int x2_)]) hx hb dX8_takeWord_57 hl (by decide) rfl (fun ls hl => ?_)
            have kb_1 : bd 1 1 (1 : Int32) := ⟨by decide, by decide⟩
            obtain ⟨y_99, ey_99⟩ : ∃ z : Int32, z = v8_3 + 1 := ⟨_, rfl⟩
            refine lv_iinc (v := y_99) (lv' := [(3, .int y_99), (4, .long v8_4), (6, .int v8_6), (0, .ref a0_), (1, .int x1_), (2, .int x2_)]) hx hb dX8_takeWord_59 hl (k := 2) rfl (by rw [ey_99]; rfl) (by decide) rfl (fun ls hl => ?_)
            obtain ⟨y_100, ey_100⟩ : ∃ z : Int32, z = v8_6 + 1 := ⟨_, rfl⟩
            refine lv_iinc (v := y_100) (lv' := [(6, .int y_100), (3, .int y_99), (4, .long v8_4), (0, .ref a0_), (1, .int x1_), (2, .int x2_)]) hx hb dX8_takeWord_62 hl (k := 2) rfl (by rw [ey_100]; rfl) (by decide) rfl (fun ls hl => ?_)
            have ty_100 := add_bd ey_100 b_47 kb_1 (by decide)
            have b_101 : bd (-2147483647) 4000 y_100 := add_rg ty_100 b_47 kb_1 (by decide)
            refine lv_goto (tgt := 8) hx hb dX8_takeWord_65 (by decide) ?_
            have hl9 := lv_sub hl [0, 2, 1, 3, 4, 5] (by rfl : lv_pick [(6, .int y_100), (3, .int y_99), (4, .long v8_4), (0, .ref a0_), (1, .int x1_), (2, .int x2_)] [0, 2, 1, 3, 4, 5] = [(6, .int y_100), (4, .long v8_4), (3, .int y_99), (0, .ref a0_), (1, .int x1_), (2, .int x2_)])
            have g9 := g.sub (fx' := [(8, 4, a0_, .ref q0_), (8, 9, a0_, .int y0_)]) [1, 2] rfl
            exact ih8  y_100 v8_4 y_99 (bd_sub b_101 (by decide)) (by have h9_0 := b_101; unfold bd at h9_0; have h9_1 := bdT v8_3; unfold bd at h9_1; have h9_2 := bdT y_99; unfold bd at h9_2; have h9_3 := bv8_6; unfold bd at h9_3; have h9_4 := kb_0; unfold bd at h9_4; have h9_5 := kb_1; unfold bd at h9_5; have h9_6 := kb_12; unfold bd at h9_6; omega) _ _ _ _ g9  hl9
          · have fc_97 := nle_f c_97
            have b_102 : bd (-2147483648) 11 v8_3 := ltL fc_97 (bdT v8_3) kb_12 (by decide)
            refine lv_lload hx hb dX8_takeWord_35 (lv_at hl 1 rfl) ?_
            refine lv_ldc2 (v := 38) hx hb hown (hts _ (List.mem_cons_of_mem _ t_283)) dX8_takeWord_37 ?_
            refine lv_lmul hx hb dX8_takeWord_40 ?_
            refine lv_topl (fun y_103 ey_103 => ?_)
            refine lv_aload_n hx hb dX8_takeWord_41 rfl (lv_at hl 3 rfl) ?_
            refine lv_iload hx hb dX8_takeWord_42 (lv_at hl 0 rfl) ?_
            refine g_calli (va_runV (As := [.int v8_6]) (rest := [.long y_103]) ⟨hx, hb, hml, hown, hts⟩ (r_X8_byteAt l dC dI L kd tys fr_50 H.size g.2.2.2.1 a0_ ma0_ ka0_ v8_6 q0_ mq0_ kq0_ (g.fcts [1] rfl)) (cwV 1 hts (gV_ t_1004 t_1006 t_3 t_184 t_1007) rfl rfl rfl (by decide +kernel) ⟨(Nat.le_of_ble_eq_true rfl), (Nat.le_of_ble_eq_true rfl)⟩) (pre3V g hK ma0_ ka0_ (by decide) (q := (RX8, TX8, 10)) rfl) rfl rfl hl.1 rfl (lv_room (Nat.le_of_ble_eq_true rfl)) dX8_takeWord_44 ⟨(Nat.le_of_ble_eq_true rfl), (Nat.le_of_ble_eq_true rfl)⟩) g hK (by decide) (by decide) (fx' := [(8, 5, a0_, .int x_2), (8, 4, a0_, .ref q0_), (8, 9, a0_, .int y0_)]) rfl (fun r_104 fr_104 H locs hp hMr_104 g => ?_)
            obtain ⟨h_105, -⟩ := hp
            refine g_calli (va_runS (As := [.int r_104]) (rest := [.long y_103]) ⟨hx, hb, hml, hown, hts⟩ (r_X8_codeOf l dC dI L kd tys fr_104 H.size g.2.2.2.1 r_104) (va_cwS 1 hts (gS_ t_280 t_281 t_184 t_282) rfl rfl rfl (by decide +kernel) ⟨(Nat.le_of_ble_eq_true rfl), (Nat.le_of_ble_eq_true rfl)⟩) (pre3S g hK) rfl rfl hl.1 rfl (lv_room (Nat.le_of_ble_eq_true rfl)) dX8_takeWord_47 ⟨(Nat.le_of_ble_eq_true rfl), (Nat.le_of_ble_eq_true rfl)⟩) g hK (by decide) (by decide) (fx' := [(8, 5, a0_, .int x_2), (8, 4, a0_, .ref q0_), (8, 9, a0_, .int y0_)]) rfl (fun r_106 fr_106 H locs hp hMr_106 g => ?_)
            obtain ⟨h_107, -⟩ := hp
            refine lv_i2l hx hb dX8_takeWord_50 rfl ?_
            refine lv_topl (fun y_108 ey_108 => ?_)
            refine lv_ladd hx hb dX8_takeWord_51 ?_
            refine lv_topl (fun y_109 ey_109 => ?_)
            refine lv_goto (tgt := 57) hx hb dX8_takeWord_52 (by decide) ?_
            refine lv_lstore (lv' := [(4, .long y_109), (6, .int v8_6), (3, .int v8_3), (0, .ref a0_), (1, .int x1_), (2, .int x2_)]) hx hb dX8_takeWord_57 hl (by decide) rfl (fun ls hl => ?_)
            have kb_1 : bd 1 1 (1 : Int32) := ⟨by decide, by decide⟩
            obtain ⟨y_110, ey_110⟩ : ∃ z : Int32, z = v8_3 + 1 := ⟨_, rfl⟩
            refine lv_iinc (v := y_110) (lv' := [(3, .int y_110), (4, .long y_109), (6, .int v8_6), (0, .ref a0_), (1, .int x1_), (2, .int x2_)]) hx hb dX8_takeWord_59 hl (k := 2) rfl (by rw [ey_110]; rfl) (by decide) rfl (fun ls hl => ?_)
            have ty_110 := add_bd ey_110 b_102 kb_1 (by decide)
            have b_111 : bd (-2147483647) 12 y_110 := add_rg ty_110 b_102 kb_1 (by decide)
            obtain ⟨y_112, ey_112⟩ : ∃ z : Int32, z = v8_6 + 1 := ⟨_, rfl⟩
            refine lv_iinc (v := y_112) (lv' := [(6, .int y_112), (3, .int y_110), (4, .long y_109), (0, .ref a0_), (1, .int x1_), (2, .int x2_)]) hx hb dX8_takeWord_62 hl (k := 2) rfl (by rw [ey_112]; rfl) (by decide) rfl (fun ls hl => ?_)
            have ty_112 := add_bd ey_112 b_47 kb_1 (by decide)
            have b_113 : bd (-2147483647) 4000 y_112 := add_rg ty_112 b_47 kb_1 (by decide)
            refine lv_goto (tgt := 8) hx hb dX8_takeWord_65 (by decide) ?_
            have hl9 := lv_sub hl [0, 2, 1, 3, 4, 5] (by rfl : lv_pick [(6, .int y_112), (3, .int y_110), (4, .long y_109), (0, .ref a0_), (1, .int x1_), (2, .int x2_)] [0, 2, 1, 3, 4, 5] = [(6, .int y_112), (4, .long y_109), (3, .int y_110), (0, .ref a0_), (1, .int x1_), (2, .int x2_)])
            have g9 := g.sub (fx' := [(8, 4, a0_, .ref q0_), (8, 9, a0_, .int y0_)]) [1, 2] rfl
            exact ih8  y_112 y_109 y_110 (bd_sub b_113 (by decide)) (by have h9_0 := b_111; unfold bd at h9_0; have h9_1 := b_113; unfold bd at h9_1; have h9_2 := bdT v8_3; unfold bd at h9_2; have h9_3 := bv8_6; unfold bd at h9_3; have h9_4 := kb_0; unfold bd at h9_4; have h9_5 := kb_1; unfold bd at h9_5; have h9_6 := kb_12; unfold bd at h9_6; omega) _ _ _ _ g9  hl9
  have kb_0 : bd 0 0 (0 : Int32) := ⟨by decide, by decide⟩
  have hl9 := lv_sub hl [0, 1, 2, 3, 4, 5] (by rfl : lv_pick [(6, .int x2_), (4, .long 0), (3, .int 0), (0, .ref a0_), (1, .int x1_), (2, .int x2_)] [0, 1, 2, 3, 4, 5] = [(6, .int x2_), (4, .long 0), (3, .int 0), (0, .ref a0_), (1, .int x1_), (2, .int x2_)])
  have g9 := g.sub (fx' := [(8, 4, a0_, .ref q0_), (8, 9, a0_, .int y0_)]) [0, 1] rfl
  exact loop_1 (4294975299) x2_ 0 0 (bd_sub bx2_ (by decide)) (by have h9_0 := bx2_; unfold bd at h9_0; have h9_1 := kb_0; unfold bd at h9_1; omega) _ _ _ _ g9  hl9
set_option maxHeartbeats 4000000 in
set_option maxRecDepth 100000 in
theorem r_X8_takeToken_5 (l : Launch) (dC : Nat → ClassId) (dI : Nat → Nat → Nat) (L : List Nat) (kd : Nat → Nat) (tys : List (ClassId × FieldType)) (f0 : Nat → va_E) (sz : Nat) (hWT : WT L kd tys f0) (adK adV : Nat → Nat) (a0_ : Nat) (ma0_ : a0_ ∈ L) (ka0_ : kd a0_ = 8) (x1_ : Int32) (bx1_ : bd 0 1200 x1_) (x2_ : Int32) (q0_ : Nat) (mq0_ : q0_ ∈ L) (kq0_ : kd q0_ = 104) (y0_ : Int32) (by0_ : bd (-1) (-1) y0_) (hfx : Fs L kd f0 [(8, 4, a0_, .ref q0_), (8, 9, a0_, .int y0_)]) : Met l yX8_takeToken (.code yX8_takeToken cX8_takeToken 4 (some .int) :: lw_g) ({ frames := 4, cells := 0, slots := 0, locals := 91 }) (va_Pc [.ref a0_, .int x1_, .int x2_] (P3A (dC, dI) L tys f0 sz adK adV)) (va_Qi (fun (r : Int32) (f : Nat → va_E) => (True)) (Q3 (dC, dI) L kd tys [] [148, 149, 150] f0 sz) (pA L sz)) 0 0 (pA L sz) := by
  refine Met.ofW (cc := cX8_takeToken) (maxL := 4) (ret := (some .int)) (by decide) rfl ?_
  intro p e s m args below meth c s₁ B hml hv
  obtain ⟨rfl, ⟨hsz, hP, hK, hD0⟩, hAm⟩ := hv
  have hx := B.exec
  have hb := B.bytes
  have hr := B.returns
  have hts := atoms_spec (ws := (.code yX8_takeToken cX8_takeToken 4 (some .int) :: lw_g)) B.pre
  have hown : s.vm.findClass RX8 = some m.cls := findClass_of_methodNamed B.named
  have hlocks := B.notSynchronized
  subst hsz
  have g : G3 (dC, dI) L kd tys s f0 [] [148, 149, 150] f0 s.heap [] [(8, 4, a0_, .ref q0_), (8, 9, a0_, .int y0_)] := G3.start hP hD0 hWT hfx
  have hl := lv_entry ([.ref a0_, .int x1_, .int x2_]) (n := 4) (Nat.le_of_ble_eq_true rfl)
  rw [lg_entry_eq]
  generalize (lg_sl ([.ref a0_, .int x1_, .int x2_]) ++ List.replicate (4 - (lg_sl ([.ref a0_, .int x1_, .int x2_])).length) Slot.unset).toArray = ls at hl ⊢
  have hl : lv_has ls 4 [(0, .ref a0_), (1, .int x1_), (2, .int x2_)] := hl
  refine W_q (fun Q hQ => ?_)
  refine lv_aload_n hx hb dX8_takeToken_0 rfl (lv_at hl 0 rfl) ?_
  refine g_getr (K := 149) (C := RX8) (T := TX8) (N := 10) hx hb hts (mc_ inX8) hown hK g ma0_ ka0_ (by decide) rfl 1 (by decide) rfl (hts _ (List.mem_cons_of_mem _ t_286)) (fun _ h9 => h9) rfl dX8_takeToken_1 (fun a_1 ma_1 ka_1 g => ?_)
  refine lv_iload_n hx hb dX8_takeToken_4 rfl (lv_at hl 1 rfl) ?_
  refine lv_iload_n hx hb dX8_takeToken_5 rfl (lv_at hl 2 rfl) ?_
  refine g_iast hx hb hK g ma_1 ka_1 (by decide) rfl (in_bd bx1_ (by decide)) (bdT x2_) (by decide) dX8_takeToken_6 (fun f H locs hM_2 g => ?_)
  refine lv_aload_n hx hb dX8_takeToken_7 rfl (lv_at hl 0 rfl) ?_
  refine g_getr (K := 150) (C := RX8) (T := TX8) (N := 10) hx hb hts (mc_ inX8) hown hK g ma0_ ka0_ (by decide) rfl 2 (by decide) rfl (hts _ (List.mem_cons_of_mem _ t_287)) (fun _ h9 => h9) rfl dX8_takeToken_8 (fun a_3 ma_3 ka_3 g => ?_)
  refine lv_iload_n hx hb dX8_takeToken_11 rfl (lv_at hl 1 rfl) ?_
  refine lv_lconst (v := 0) hx hb dX8_takeToken_12 (by decide) ?_
  refine g_last hx hb hK g ma_3 ka_3 (by decide) rfl (in_bd bx1_ (by decide)) (by decide) dX8_takeToken_13 (fun f H locs hM_4 g => ?_)
  refine lv_aload_n hx hb dX8_takeToken_14 rfl (lv_at hl 0 rfl) ?_
  refine lv_iload_n hx hb dX8_takeToken_15 rfl (lv_at hl 2 rfl) ?_
  refine g_calli (va_runV (As := [.int x2_]) (rest := []) ⟨hx, hb, hml, hown, hts⟩ (r_X8_byteAt l dC dI L kd tys f H.size g.2.2.2.1 a0_ ma0_ ka0_ x2_ q0_ mq0_ kq0_ (g.fcts [2] rfl)) (cwV 1 hts (gV_ t_1004 t_1006 t_3 t_184 t_1007) rfl rfl rfl (by decide +kernel) ⟨(Nat.le_of_ble_eq_true rfl), (Nat.le_of_ble_eq_true rfl)⟩) (pre3V g hK ma0_ ka0_ (by decide) (q := (RX8, TX8, 10)) rfl) rfl rfl hl.1 rfl (lv_room (Nat.le_of_ble_eq_true rfl)) dX8_takeToken_16 ⟨(Nat.le_of_ble_eq_true rfl), (Nat.le_of_ble_eq_true rfl)⟩) g hK (by decide) (by decide) (fx' := [(8, 2, a0_, .ref a_3), (8, 1, a0_, .ref a_1), (8, 4, a0_, .ref q0_), (8, 9, a0_, .int y0_)]) rfl (fun r_5 fr_5 H locs hp hMr_5 g => ?_)
  obtain ⟨h_6, -⟩ := hp
  refine lv_istore_n (lv' := [(3, .int r_5), (0, .ref a0_), (1, .int x1_), (2, .int x2_)]) hx hb dX8_takeToken_19 rfl hl (by decide) rfl (fun ls hl => ?_)
  refine lv_iload_n hx hb dX8_takeToken_20 rfl (lv_at hl 3 rfl) ?_
  refine lv_aload_n hx hb dX8_takeToken_21 rfl (lv_at hl 1 rfl) ?_
  refine g_geti (C := RX8) (T := TX8) (N := 10) hx hb hts (mc_ inX8) hown hK g ma0_ ka0_ (by decide) rfl 5 (by decide) rfl (hts _ (List.mem_cons_of_mem _ t_290)) (fun _ h9 => h9) rfl dX8_takeToken_22 (fun x_7 bx_7 g => ?_)
  refine lv_icmp_lt (tgt := 37) hx hb dX8_takeToken_25 (by decide) (fun c_8 => ?_) (fun c_8 => ?_)
  · have fc_8 := lt_f c_8
    have b_9 : bd (-2147483648) 3999 x2_ := ltL fc_8 (bdT x2_) bx_7 (by decide)
    refine lv_iload_n hx hb dX8_takeToken_37 rfl (lv_at hl 0 rfl) ?_
    refine lv_bipush (v := 97) hx hb dX8_takeToken_38 (by decide) ?_
    have kb_97 : bd 97 97 (97 : Int32) := ⟨by decide, by decide⟩
    refine lv_icmp_lt (tgt := 56) hx hb dX8_takeToken_40 (by decide) (fun c_10 => ?_) (fun c_10 => ?_)
    · have fc_10 := lt_f c_10
      have b_11 : bd 0 96 r_5 := ltL fc_10 h_6 kb_97 (by decide)
      refine lv_iload_n hx hb dX8_takeToken_56 rfl (lv_at hl 0 rfl) ?_
      refine lv_bipush (v := 48) hx hb dX8_takeToken_57 (by decide) ?_
      have kb_48 : bd 48 48 (48 : Int32) := ⟨by decide, by decide⟩
      refine lv_icmp_lt (tgt := 75) hx hb dX8_takeToken_59 (by decide) (fun c_12 => ?_) (fun c_12 => ?_)
      · have fc_12 := lt_f c_12
        have b_13 : bd 0 47 r_5 := ltL fc_12 b_11 kb_48 (by decide)
        refine lv_aload_n hx hb dX8_takeToken_75 rfl (lv_at hl 1 rfl) ?_
        refine g_getr (K := 148) (C := RX8) (T := TX8) (N := 10) hx hb hts (mc_ inX8) hown hK g ma0_ ka0_ (by decide) rfl 0 (by decide) rfl (hts _ (List.mem_cons_of_mem _ t_285)) (fun _ h9 => h9) rfl dX8_takeToken_76 (fun a_14 ma_14 ka_14 g => ?_)
        refine lv_iload_n hx hb dX8_takeToken_79 rfl (lv_at hl 2 rfl) ?_
        refine lv_iload_n hx hb dX8_takeToken_80 rfl (lv_at hl 0 rfl) ?_
        refine lv_aload_n hx hb dX8_takeToken_81 rfl (lv_at hl 1 rfl) ?_
        refine lv_iload_n hx hb dX8_takeToken_82 rfl (lv_at hl 3 rfl) ?_
        refine lv_iconst (v := 1) hx hb dX8_takeToken_83 (by decide) ?_
        have kb_1 : bd 1 1 (1 : Int32) := ⟨by decide, by decide⟩
        refine lv_iadd hx hb dX8_takeToken_84 ?_
        refine lv_topi (fun y_15 ey_15 => ?_)
        have ty_15 := add_bd ey_15 b_9 kb_1 (by decide)
        have b_16 : bd (-2147483647) 4000 y_15 := add_rg ty_15 b_9 kb_1 (by decide)
        refine g_calli (va_runV (As := [.int y_15]) (rest := [.int r_5, .int x1_, .ref a_14]) ⟨hx, hb, hml, hown, hts⟩ (r_X8_byteAt l dC dI L kd tys fr_5 H.size g.2.2.2.1 a0_ ma0_ ka0_ y_15 q0_ mq0_ kq0_ (g.fcts [4] rfl)) (cwV 1 hts (gV_ t_1004 t_1006 t_3 t_184 t_1007) rfl rfl rfl (by decide +kernel) ⟨(Nat.le_of_ble_eq_true rfl), (Nat.le_of_ble_eq_true rfl)⟩) (pre3V g hK ma0_ ka0_ (by decide) (q := (RX8, TX8, 10)) rfl) rfl rfl hl.1 rfl (lv_room (Nat.le_of_ble_eq_true rfl)) dX8_takeToken_85 ⟨(Nat.le_of_ble_eq_true rfl), (Nat.le_of_ble_eq_true rfl)⟩) g hK (by decide) (by decide) (fx' := [(8, 0, a0_, .ref a_14), (8, 5, a0_, .int x_7), (8, 2, a0_, .ref a_3), (8, 1, a0_, .ref a_1), (8, 4, a0_, .ref q0_), (8, 9, a0_, .int y0_)]) rfl (fun r_17 fr_17 H locs hp hMr_17 g => ?_)
        obtain ⟨h_18, -⟩ := hp
        refine g_calli (va_runS (As := [.int r_5, .int r_17]) (rest := [.int x1_, .ref a_14]) ⟨hx, hb, hml, hown, hts⟩ (r_X8_pairKind l dC dI L kd tys fr_17 H.size g.2.2.2.1 r_5 r_17) (va_cwS 2 hts (gS_ t_1021 t_1022 t_184 t_1023) rfl rfl rfl (by decide +kernel) ⟨(Nat.le_of_ble_eq_true rfl), (Nat.le_of_ble_eq_true rfl)⟩) (pre3S g hK) rfl rfl hl.1 rfl (lv_room (Nat.le_of_ble_eq_true rfl)) dX8_takeToken_88 ⟨(Nat.le_of_ble_eq_true rfl), (Nat.le_of_ble_eq_true rfl)⟩) g hK (by decide) (by decide) (fx' := [(8, 0, a0_, .ref a_14), (8, 5, a0_, .int x_7), (8, 2, a0_, .ref a_3), (8, 1, a0_, .ref a_1), (8, 4, a0_, .ref q0_), (8, 9, a0_, .int y0_)]) rfl (fun r_19 fr_19 H locs hp hMr_19 g => ?_)
        obtain ⟨h_20, -⟩ := hp
        refine g_kast hx hb hK g ma_14 ka_14 (by decide) rfl (in_bd bx1_ (by decide)) (bd_sub h_20 (by decide)) (Or.inl (lt_bd bx1_ (by decide))) (by decide) dX8_takeToken_91 (fun f H locs hM_21 g => ?_)
        refine lv_aload_n hx hb dX8_takeToken_92 rfl (lv_at hl 1 rfl) ?_
        refine g_getk (C := RX8) (T := TX8) (N := 10) hx hb hts (mc_ inX8) hown hK g rfl 0 (by decide) rfl (hts _ (List.mem_cons_of_mem _ t_285)) (fun _ h9 => h9) 0 rfl dX8_takeToken_93 ?_
        refine lv_iload_n hx hb dX8_takeToken_96 rfl (lv_at hl 2 rfl) ?_
        refine g_kald hx hb hK g ma_14 ka_14 (by decide) rfl (in_bd bx1_ (by decide)) dX8_takeToken_97 (fun x_22 bx_22 cx_22 zx_22 => ?_)
        refine lv_iconst (v := 2) hx hb dX8_takeToken_98 (by decide) ?_
        have kb_2 : bd 2 2 (2 : Int32) := ⟨by decide, by decide⟩
        refine lv_icmp_eq (tgt := 104) hx hb dX8_takeToken_99 (by decide) (fun c_23 => ?_) (fun c_23 => ?_)
        · have fc_23 := eq_f c_23
          have b_24 : bd 2 2 x_22 := eqX fc_23 (bdT x_22) kb_2 (by decide)
          refine va_ldcS hx hb hown hAm.1.1 dX8_takeToken_104 ?_
          refine lv_iload_n hx hb dX8_takeToken_106 rfl (lv_at hl 0 rfl) ?_
          refine lv_i2c hx hb dX8_takeToken_107 rfl ?_
          refine lv_topi (fun y_25 ey_25 => ?_)
          refine g_calli (va_runV (As := [.int y_25]) (rest := []) ⟨hx, hb, hml, hown, hts⟩ (r_J0_indexOf_0f7a4 l dC dI L kd tys f H.size g.2.2.2.1 adK adV y_25) (cwV 1 hts (gV_ t_1025 t_1026 t_1027 t_185 t_1028) rfl rfl rfl (by decide +kernel) ⟨(Nat.le_of_ble_eq_true rfl), (Nat.le_of_ble_eq_true rfl)⟩) (pre3TA g hK hAm 2 (by decide)) rfl rfl hl.1 rfl (lv_room (Nat.le_of_ble_eq_true rfl)) dX8_takeToken_108 ⟨(Nat.le_of_ble_eq_true rfl), (Nat.le_of_ble_eq_true rfl)⟩) g hK (by decide) (by decide) (fx' := [(8, 0, a0_, .ref a_14), (8, 5, a0_, .int x_7), (8, 2, a0_, .ref a_3), (8, 1, a0_, .ref a_1), (8, 4, a0_, .ref q0_), (8, 9, a0_, .int y0_)]) rfl (fun r_26 fr_26 H locs hp hMr_26 g => ?_)
          obtain ⟨h_27, -⟩ := hp
          have kb_0 : bd 0 0 (0 : Int32) := ⟨by decide, by decide⟩
          refine lv_if_lt (tgt := 121) hx hb dX8_takeToken_111 (by decide) (fun c_28 => ?_) (fun c_28 => ?_)
          · have fc_28 := lt_f c_28
            have b_29 : bd (-1) (-1) r_26 := ltL fc_28 h_27 kb_0 (by decide)
            refine lv_iconst (v := 1) hx hb dX8_takeToken_121 (by decide) ?_
            subst hQ
            exact W.iret (v := 1) hx hb hr (fun t ht hW => ⟨⟨_, _, rfl, trivial, q3_of g hK ht hW⟩, g.2.2.1.F ht⟩) g.2.2.1.2.2 dX8_takeToken_122
          · have fc_28 := nlt_f c_28
            have b_30 : bd 0 17 r_26 := leR fc_28 kb_0 h_27 (by decide)
            refine lv_aload_n hx hb dX8_takeToken_114 rfl (lv_at hl 1 rfl) ?_
            refine g_getk (C := RX8) (T := TX8) (N := 10) hx hb hts (mc_ inX8) hown hK g rfl 0 (by decide) rfl (hts _ (List.mem_cons_of_mem _ t_285)) (fun _ h9 => h9) 0 rfl dX8_takeToken_115 ?_
            refine lv_iload_n hx hb dX8_takeToken_118 rfl (lv_at hl 2 rfl) ?_
            refine lv_iload_n hx hb dX8_takeToken_119 rfl (lv_at hl 0 rfl) ?_
            refine g_kast hx hb hK g ma_14 ka_14 (by decide) rfl (in_bd bx1_ (by decide)) (bd_sub b_13 (by decide)) (Or.inl (lt_bd bx1_ (by decide))) (by decide) dX8_takeToken_120 (fun f H locs hM_31 g => ?_)
            refine lv_iconst (v := 1) hx hb dX8_takeToken_121 (by decide) ?_
            subst hQ
            exact W.iret (v := 1) hx hb hr (fun t ht hW => ⟨⟨_, _, rfl, trivial, q3_of g hK ht hW⟩, g.2.2.1.F ht⟩) g.2.2.1.2.2 dX8_takeToken_122
        · have fc_23 := neq_f c_23
          refine lv_iconst (v := 2) hx hb dX8_takeToken_102 (by decide) ?_
          subst hQ
          exact W.iret (v := 2) hx hb hr (fun t ht hW => ⟨⟨_, _, rfl, trivial, q3_of g hK ht hW⟩, g.2.2.1.F ht⟩) g.2.2.1.2.2 dX8_takeToken_103
      · have fc_12 := nlt_f c_12
        have b_32 : bd 48 96 r_5 := leR fc_12 kb_48 b_11 (by decide)
        refine lv_iload_n hx hb dX8_takeToken_62 rfl (lv_at hl 0 rfl) ?_
        refine lv_bipush (v := 57) hx hb dX8_takeToken_63 (by decide) ?_
        have kb_57 : bd 57 57 (57 : Int32) := ⟨by decide, by decide⟩
        refine lv_icmp_gt (tgt := 75) hx hb dX8_takeToken_65 (by decide) (fun c_33 => ?_) (fun c_33 => ?_)
        · have fc_33 := lt_f c_33
          have b_34 : bd 58 96 r_5 := ltR fc_33 kb_57 b_32 (by decide)
          refine lv_aload_n hx hb dX8_takeToken_75 rfl (lv_at hl 1 rfl) ?_
          refine g_getr (K := 148) (C := RX8) (T := TX8) (N := 10) hx hb hts (mc_ inX8) hown hK g ma0_ ka0_ (by decide) rfl 0 (by decide) rfl (hts _ (List.mem_cons_of_mem _ t_285)) (fun _ h9 => h9) rfl dX8_takeToken_76 (fun a_35 ma_35 ka_35 g => ?_)
          refine lv_iload_n hx hb dX8_takeToken_79 rfl (lv_at hl 2 rfl) ?_
          refine lv_iload_n hx hb dX8_takeToken_80 rfl (lv_at hl 0 rfl) ?_
          refine lv_aload_n hx hb dX8_takeToken_81 rfl (lv_at hl 1 rfl) ?_
          refine lv_iload_n hx hb dX8_takeToken_82 rfl (lv_at hl 3 rfl) ?_
          refine lv_iconst (v := 1) hx hb dX8_takeToken_83 (by decide) ?_
          have kb_1 : bd 1 1 (1 : Int32) := ⟨by decide, by decide⟩
          refine lv_iadd hx hb dX8_takeToken_84 ?_
          refine lv_topi (fun y_36 ey_36 => ?_)
          have ty_36 := add_bd ey_36 b_9 kb_1 (by decide)
          have b_37 : bd (-2147483647) 4000 y_36 := add_rg ty_36 b_9 kb_1 (by decide)
          refine g_calli (va_runV (As := [.int y_36]) (rest := [.int r_5, .int x1_, .ref a_35]) ⟨hx, hb, hml, hown, hts⟩ (r_X8_byteAt l dC dI L kd tys fr_5 H.size g.2.2.2.1 a0_ ma0_ ka0_ y_36 q0_ mq0_ kq0_ (g.fcts [4] rfl)) (cwV 1 hts (gV_ t_1004 t_1006 t_3 t_184 t_1007) rfl rfl rfl (by decide +kernel) ⟨(Nat.le_of_ble_eq_true rfl), (Nat.le_of_ble_eq_true rfl)⟩) (pre3V g hK ma0_ ka0_ (by decide) (q := (RX8, TX8, 10)) rfl) rfl rfl hl.1 rfl (lv_room (Nat.le_of_ble_eq_true rfl)) dX8_takeToken_85 ⟨(Nat.le_of_ble_eq_true rfl), (Nat.le_of_ble_eq_true rfl)⟩) g hK (by decide) (by decide) (fx' := [(8, 0, a0_, .ref a_35), (8, 5, a0_, .int x_7), (8, 2, a0_, .ref a_3), (8, 1, a0_, .ref a_1), (8, 4, a0_, .ref q0_), (8, 9, a0_, .int y0_)]) rfl (fun r_38 fr_38 H locs hp hMr_38 g => ?_)
          obtain ⟨h_39, -⟩ := hp
          refine g_calli (va_runS (As := [.int r_5, .int r_38]) (rest := [.int x1_, .ref a_35]) ⟨hx, hb, hml, hown, hts⟩ (r_X8_pairKind l dC dI L kd tys fr_38 H.size g.2.2.2.1 r_5 r_38) (va_cwS 2 hts (gS_ t_1021 t_1022 t_184 t_1023) rfl rfl rfl (by decide +kernel) ⟨(Nat.le_of_ble_eq_true rfl), (Nat.le_of_ble_eq_true rfl)⟩) (pre3S g hK) rfl rfl hl.1 rfl (lv_room (Nat.le_of_ble_eq_true rfl)) dX8_takeToken_88 ⟨(Nat.le_of_ble_eq_true rfl), (Nat.le_of_ble_eq_true rfl)⟩) g hK (by decide) (by decide) (fx' := [(8, 0, a0_, .ref a_35), (8, 5, a0_, .int x_7), (8, 2, a0_, .ref a_3), (8, 1, a0_, .ref a_1), (8, 4, a0_, .ref q0_), (8, 9, a0_, .int y0_)]) rfl (fun r_40 fr_40 H locs hp hMr_40 g => ?_)
          obtain ⟨h_41, -⟩ := hp
          refine g_kast hx hb hK g ma_35 ka_35 (by decide) rfl (in_bd bx1_ (by decide)) (bd_sub h_41 (by decide)) (Or.inl (lt_bd bx1_ (by decide))) (by decide) dX8_takeToken_91 (fun f H locs hM_42 g => ?_)
          refine lv_aload_n hx hb dX8_takeToken_92 rfl (lv_at hl 1 rfl) ?_
          refine g_getk (C := RX8) (T := TX8) (N := 10) hx hb hts (mc_ inX8) hown hK g rfl 0 (by decide) rfl (hts _ (List.mem_cons_of_mem _ t_285)) (fun _ h9 => h9) 0 rfl dX8_takeToken_93 ?_
          refine lv_iload_n hx hb dX8_takeToken_96 rfl (lv_at hl 2 rfl) ?_
          refine g_kald hx hb hK g ma_35 ka_35 (by decide) rfl (in_bd bx1_ (by decide)) dX8_takeToken_97 (fun x_43 bx_43 cx_43 zx_43 => ?_)
          refine lv_iconst (v := 2) hx hb dX8_takeToken_98 (by decide) ?_
          have kb_2 : bd 2 2 (2 : Int32) := ⟨by decide, by decide⟩
          refine lv_icmp_eq (tgt := 104) hx hb dX8_takeToken_99 (by decide) (fun c_44 => ?_) (fun c_44 => ?_)
          · have fc_44 := eq_f c_44
            have b_45 : bd 2 2 x_43 := eqX fc_44 (bdT x_43) kb_2 (by decide)
            refine va_ldcS hx hb hown hAm.1.1 dX8_takeToken_104 ?_
            refine lv_iload_n hx hb dX8_takeToken_106 rfl (lv_at hl 0 rfl) ?_
            refine lv_i2c hx hb dX8_takeToken_107 rfl ?_
            refine lv_topi (fun y_46 ey_46 => ?_)
            refine g_calli (va_runV (As := [.int y_46]) (rest := []) ⟨hx, hb, hml, hown, hts⟩ (r_J0_indexOf_0f7a4 l dC dI L kd tys f H.size g.2.2.2.1 adK adV y_46) (cwV 1 hts (gV_ t_1025 t_1026 t_1027 t_185 t_1028) rfl rfl rfl (by decide +kernel) ⟨(Nat.le_of_ble_eq_true rfl), (Nat.le_of_ble_eq_true rfl)⟩) (pre3TA g hK hAm 2 (by decide)) rfl rfl hl.1 rfl (lv_room (Nat.le_of_ble_eq_true rfl)) dX8_takeToken_108 ⟨(Nat.le_of_ble_eq_true rfl), (Nat.le_of_ble_eq_true rfl)⟩) g hK (by decide) (by decide) (fx' := [(8, 0, a0_, .ref a_35), (8, 5, a0_, .int x_7), (8, 2, a0_, .ref a_3), (8, 1, a0_, .ref a_1), (8, 4, a0_, .ref q0_), (8, 9, a0_, .int y0_)]) rfl (fun r_47 fr_47 H locs hp hMr_47 g => ?_)
            obtain ⟨h_48, -⟩ := hp
            have kb_0 : bd 0 0 (0 : Int32) := ⟨by decide, by decide⟩
            refine lv_if_lt (tgt := 121) hx hb dX8_takeToken_111 (by decide) (fun c_49 => ?_) (fun c_49 => ?_)
            · have fc_49 := lt_f c_49
              have b_50 : bd (-1) (-1) r_47 := ltL fc_49 h_48 kb_0 (by decide)
              refine lv_iconst (v := 1) hx hb dX8_takeToken_121 (by decide) ?_
              subst hQ
              exact W.iret (v := 1) hx hb hr (fun t ht hW => ⟨⟨_, _, rfl, trivial, q3_of g hK ht hW⟩, g.2.2.1.F ht⟩) g.2.2.1.2.2 dX8_takeToken_122
            · have fc_49 := nlt_f c_49
              have b_51 : bd 0 17 r_47 := leR fc_49 kb_0 h_48 (by decide)
              refine lv_aload_n hx hb dX8_takeToken_114 rfl (lv_at hl 1 rfl) ?_
              refine g_getk (C := RX8) (T := TX8) (N := 10) hx hb hts (mc_ inX8) hown hK g rfl 0 (by decide) rfl (hts _ (List.mem_cons_of_mem _ t_285)) (fun _ h9 => h9) 0 rfl dX8_takeToken_115 ?_
              refine lv_iload_n hx hb dX8_takeToken_118 rfl (lv_at hl 2 rfl) ?_
              refine lv_iload_n hx hb dX8_takeToken_119 rfl (lv_at hl 0 rfl) ?_
              refine g_kast hx hb hK g ma_35 ka_35 (by decide) rfl (in_bd bx1_ (by decide)) (bd_sub b_34 (by decide)) (Or.inl (lt_bd bx1_ (by decide))) (by decide) dX8_takeToken_120 (fun f H locs hM_52 g => ?_)
              refine lv_iconst (v := 1) hx hb dX8_takeToken_121 (by decide) ?_
              subst hQ
              exact W.iret (v := 1) hx hb hr (fun t ht hW => ⟨⟨_, _, rfl, trivial, q3_of g hK ht hW⟩, g.2.2.1.F ht⟩) g.2.2.1.2.2 dX8_takeToken_122
          · have fc_44 := neq_f c_44
            refine lv_iconst (v := 2) hx hb dX8_takeToken_102 (by decide) ?_
            subst hQ
            exact W.iret (v := 2) hx hb hr (fun t ht hW => ⟨⟨_, _, rfl, trivial, q3_of g hK ht hW⟩, g.2.2.1.F ht⟩) g.2.2.1.2.2 dX8_takeToken_103
        · have fc_33 := nlt_f c_33
          have b_53 : bd 48 57 r_5 := leL fc_33 b_32 kb_57 (by decide)
          refine lv_aload_n hx hb dX8_takeToken_68 rfl (lv_at hl 1 rfl) ?_
          refine lv_iload_n hx hb dX8_takeToken_69 rfl (lv_at hl 2 rfl) ?_
          refine lv_iload_n hx hb dX8_takeToken_70 rfl (lv_at hl 3 rfl) ?_
          refine g_calli (va_runV (As := [.int x1_, .int x2_]) (rest := []) ⟨hx, hb, hml, hown, hts⟩ (r_X8_takeNumber_5 l dC dI L kd tys fr_5 H.size g.2.2.2.1 a0_ ma0_ ka0_ x1_ bx1_ x2_ b_9 q0_ mq0_ kq0_ y0_ by0_ (g.fcts [3, 4] rfl)) (cwV 2 hts (gV_ t_1016 t_1018 t_6 t_184 t_1019) rfl rfl rfl (by decide +kernel) ⟨(Nat.le_of_ble_eq_true rfl), (Nat.le_of_ble_eq_true rfl)⟩) (pre3V g hK ma0_ ka0_ (by decide) (q := (RX8, TX8, 10)) rfl) rfl rfl hl.1 rfl (lv_room (Nat.le_of_ble_eq_true rfl)) dX8_takeToken_71 ⟨(Nat.le_of_ble_eq_true rfl), (Nat.le_of_ble_eq_true rfl)⟩) g hK (by decide) (by decide) (fx' := [(8, 5, a0_, .int x_7), (8, 2, a0_, .ref a_3), (8, 1, a0_, .ref a_1), (8, 4, a0_, .ref q0_), (8, 9, a0_, .int y0_)]) rfl (fun r_54 fr_54 H locs hp hMr_54 g => ?_)
          subst hQ
          exact W.iret (v := r_54) hx hb hr (fun t ht hW => ⟨⟨_, _, rfl, trivial, q3_of g hK ht hW⟩, g.2.2.1.F ht⟩) g.2.2.1.2.2 dX8_takeToken_74
    · have fc_10 := nlt_f c_10
      have b_55 : bd 97 255 r_5 := leR fc_10 kb_97 h_6 (by decide)
      refine lv_iload_n hx hb dX8_takeToken_43 rfl (lv_at hl 0 rfl) ?_
      refine lv_bipush (v := 122) hx hb dX8_takeToken_44 (by decide) ?_
      have kb_122 : bd 122 122 (122 : Int32) := ⟨by decide, by decide⟩
      refine lv_icmp_gt (tgt := 56) hx hb dX8_takeToken_46 (by decide) (fun c_56 => ?_) (fun c_56 => ?_)
      · have fc_56 := lt_f c_56
        have b_57 : bd 123 255 r_5 := ltR fc_56 kb_122 b_55 (by decide)
        refine lv_iload_n hx hb dX8_takeToken_56 rfl (lv_at hl 0 rfl) ?_
        refine lv_bipush (v := 48) hx hb dX8_takeToken_57 (by decide) ?_
        have kb_48 : bd 48 48 (48 : Int32) := ⟨by decide, by decide⟩
        refine lv_icmp_lt (tgt := 75) hx hb dX8_takeToken_59 (by decide) (fun c_58 => ?_) (fun c_58 => ?_)
        · have fc_58 := lt_f c_58
          have b_59 : bd 123 47 r_5 := ltL fc_58 b_57 kb_48 (by decide)
          exact bd_no b_59 (by decide)
        · have fc_58 := nlt_f c_58
          refine lv_iload_n hx hb dX8_takeToken_62 rfl (lv_at hl 0 rfl) ?_
          refine lv_bipush (v := 57) hx hb dX8_takeToken_63 (by decide) ?_
          have kb_57 : bd 57 57 (57 : Int32) := ⟨by decide, by decide⟩
          refine lv_icmp_gt (tgt := 75) hx hb dX8_takeToken_65 (by decide) (fun c_60 => ?_) (fun c_60 => ?_)
          · have fc_60 := lt_f c_60
            refine lv_aload_n hx hb dX8_takeToken_75 rfl (lv_at hl 1 rfl) ?_
            refine g_getr (K := 148) (C := RX8) (T := TX8) (N := 10) hx hb hts (mc_ inX8) hown hK g ma0_ ka0_ (by decide) rfl 0 (by decide) rfl (hts _ (List.mem_cons_of_mem _ t_285)) (fun _ h9 => h9) rfl dX8_takeToken_76 (fun a_61 ma_61 ka_61 g => ?_)
            refine lv_iload_n hx hb dX8_takeToken_79 rfl (lv_at hl 2 rfl) ?_
            refine lv_iload_n hx hb dX8_takeToken_80 rfl (lv_at hl 0 rfl) ?_
            refine lv_aload_n hx hb dX8_takeToken_81 rfl (lv_at hl 1 rfl) ?_
            refine lv_iload_n hx hb dX8_takeToken_82 rfl (lv_at hl 3 rfl) ?_
            refine lv_iconst (v := 1) hx hb dX8_takeToken_83 (by decide) ?_
            have kb_1 : bd 1 1 (1 : Int32) := ⟨by decide, by decide⟩
            refine lv_iadd hx hb dX8_takeToken_84 ?_
            refine lv_topi (fun y_62 ey_62 => ?_)
            have ty_62 := add_bd ey_62 b_9 kb_1 (by decide)
            have b_63 : bd (-2147483647) 4000 y_62 := add_rg ty_62 b_9 kb_1 (by decide)
            refine g_calli (va_runV (As := [.int y_62]) (rest := [.int r_5, .int x1_, .ref a_61]) ⟨hx, hb, hml, hown, hts⟩ (r_X8_byteAt l dC dI L kd tys fr_5 H.size g.2.2.2.1 a0_ ma0_ ka0_ y_62 q0_ mq0_ kq0_ (g.fcts [4] rfl)) (cwV 1 hts (gV_ t_1004 t_1006 t_3 t_184 t_1007) rfl rfl rfl (by decide +kernel) ⟨(Nat.le_of_ble_eq_true rfl), (Nat.le_of_ble_eq_true rfl)⟩) (pre3V g hK ma0_ ka0_ (by decide) (q := (RX8, TX8, 10)) rfl) rfl rfl hl.1 rfl (lv_room (Nat.le_of_ble_eq_true rfl)) dX8_takeToken_85 ⟨(Nat.le_of_ble_eq_true rfl), (Nat.le_of_ble_eq_true rfl)⟩) g hK (by decide) (by decide) (fx' := [(8, 0, a0_, .ref a_61), (8, 5, a0_, .int x_7), (8, 2, a0_, .ref a_3), (8, 1, a0_, .ref a_1), (8, 4, a0_, .ref q0_), (8, 9, a0_, .int y0_)]) rfl (fun r_64 fr_64 H locs hp hMr_64 g => ?_)
            obtain ⟨h_65, -⟩ := hp
            refine g_calli (va_runS (As := [.int r_5, .int r_64]) (rest := [.int x1_, .ref a_61]) ⟨hx, hb, hml, hown, hts⟩ (r_X8_pairKind l dC dI L kd tys fr_64 H.size g.2.2.2.1 r_5 r_64) (va_cwS 2 hts (gS_ t_1021 t_1022 t_184 t_1023) rfl rfl rfl (by decide +kernel) ⟨(Nat.le_of_ble_eq_true rfl), (Nat.le_of_ble_eq_true rfl)⟩) (pre3S g hK) rfl rfl hl.1 rfl (lv_room (Nat.le_of_ble_eq_true rfl)) dX8_takeToken_88 ⟨(Nat.le_of_ble_eq_true rfl), (Nat.le_of_ble_eq_true rfl)⟩) g hK (by decide) (by decide) (fx' := [(8, 0, a0_, .ref a_61), (8, 5, a0_, .int x_7), (8, 2, a0_, .ref a_3), (8, 1, a0_, .ref a_1), (8, 4, a0_, .ref q0_), (8, 9, a0_, .int y0_)]) rfl (fun r_66 fr_66 H locs hp hMr_66 g => ?_)
            obtain ⟨h_67, -⟩ := hp
            refine g_kast hx hb hK g ma_61 ka_61 (by decide) rfl (in_bd bx1_ (by decide)) (bd_sub h_67 (by decide)) (Or.inl (lt_bd bx1_ (by decide))) (by decide) dX8_takeToken_91 (fun f H locs hM_68 g => ?_)
            refine lv_aload_n hx hb dX8_takeToken_92 rfl (lv_at hl 1 rfl) ?_
            refine g_getk (C := RX8) (T := TX8) (N := 10) hx hb hts (mc_ inX8) hown hK g rfl 0 (by decide) rfl (hts _ (List.mem_cons_of_mem _ t_285)) (fun _ h9 => h9) 0 rfl dX8_takeToken_93 ?_
            refine lv_iload_n hx hb dX8_takeToken_96 rfl (lv_at hl 2 rfl) ?_
            refine g_kald hx hb hK g ma_61 ka_61 (by decide) rfl (in_bd bx1_ (by decide)) dX8_takeToken_97 (fun x_69 bx_69 cx_69 zx_69 => ?_)
            refine lv_iconst (v := 2) hx hb dX8_takeToken_98 (by decide) ?_
            have kb_2 : bd 2 2 (2 : Int32) := ⟨by decide, by decide⟩
            refine lv_icmp_eq (tgt := 104) hx hb dX8_takeToken_99 (by decide) (fun c_70 => ?_) (fun c_70 => ?_)
            · have fc_70 := eq_f c_70
              have b_71 : bd 2 2 x_69 := eqX fc_70 (bdT x_69) kb_2 (by decide)
              refine va_ldcS hx hb hown hAm.1.1 dX8_takeToken_104 ?_
              refine lv_iload_n hx hb dX8_takeToken_106 rfl (lv_at hl 0 rfl) ?_
              refine lv_i2c hx hb dX8_takeToken_107 rfl ?_
              refine lv_topi (fun y_72 ey_72 => ?_)
              refine g_calli (va_runV (As := [.int y_72]) (rest := []) ⟨hx, hb, hml, hown, hts⟩ (r_J0_indexOf_0f7a4 l dC dI L kd tys f H.size g.2.2.2.1 adK adV y_72) (cwV 1 hts (gV_ t_1025 t_1026 t_1027 t_185 t_1028) rfl rfl rfl (by decide +kernel) ⟨(Nat.le_of_ble_eq_true rfl), (Nat.le_of_ble_eq_true rfl)⟩) (pre3TA g hK hAm 2 (by decide)) rfl rfl hl.1 rfl (lv_room (Nat.le_of_ble_eq_true rfl)) dX8_takeToken_108 ⟨(Nat.le_of_ble_eq_true rfl), (Nat.le_of_ble_eq_true rfl)⟩) g hK (by decide) (by decide) (fx' := [(8, 0, a0_, .ref a_61), (8, 5, a0_, .int x_7), (8, 2, a0_, .ref a_3), (8, 1, a0_, .ref a_1), (8, 4, a0_, .ref q0_), (8, 9, a0_, .int y0_)]) rfl (fun r_73 fr_73 H locs hp hMr_73 g => ?_)
              obtain ⟨h_74, -⟩ := hp
              have kb_0 : bd 0 0 (0 : Int32) := ⟨by decide, by decide⟩
              refine lv_if_lt (tgt := 121) hx hb dX8_takeToken_111 (by decide) (fun c_75 => ?_) (fun c_75 => ?_)
              · have fc_75 := lt_f c_75
                have b_76 : bd (-1) (-1) r_73 := ltL fc_75 h_74 kb_0 (by decide)
                refine lv_iconst (v := 1) hx hb dX8_takeToken_121 (by decide) ?_
                subst hQ
                exact W.iret (v := 1) hx hb hr (fun t ht hW => ⟨⟨_, _, rfl, trivial, q3_of g hK ht hW⟩, g.2.2.1.F ht⟩) g.2.2.1.2.2 dX8_takeToken_122
              · have fc_75 := nlt_f c_75
                have b_77 : bd 0 17 r_73 := leR fc_75 kb_0 h_74 (by decide)
                refine lv_aload_n hx hb dX8_takeToken_114 rfl (lv_at hl 1 rfl) ?_
                refine g_getk (C := RX8) (T := TX8) (N := 10) hx hb hts (mc_ inX8) hown hK g rfl 0 (by decide) rfl (hts _ (List.mem_cons_of_mem _ t_285)) (fun _ h9 => h9) 0 rfl dX8_takeToken_115 ?_
                refine lv_iload_n hx hb dX8_takeToken_118 rfl (lv_at hl 2 rfl) ?_
                refine lv_iload_n hx hb dX8_takeToken_119 rfl (lv_at hl 0 rfl) ?_
                refine g_kast hx hb hK g ma_61 ka_61 (by decide) rfl (in_bd bx1_ (by decide)) (bd_sub b_57 (by decide)) (Or.inl (lt_bd bx1_ (by decide))) (by decide) dX8_takeToken_120 (fun f H locs hM_78 g => ?_)
                refine lv_iconst (v := 1) hx hb dX8_takeToken_121 (by decide) ?_
                subst hQ
                exact W.iret (v := 1) hx hb hr (fun t ht hW => ⟨⟨_, _, rfl, trivial, q3_of g hK ht hW⟩, g.2.2.1.F ht⟩) g.2.2.1.2.2 dX8_takeToken_122
            · have fc_70 := neq_f c_70
              refine lv_iconst (v := 2) hx hb dX8_takeToken_102 (by decide) ?_
              subst hQ
              exact W.iret (v := 2) hx hb hr (fun t ht hW => ⟨⟨_, _, rfl, trivial, q3_of g hK ht hW⟩, g.2.2.1.F ht⟩) g.2.2.1.2.2 dX8_takeToken_103
          · have fc_60 := nlt_f c_60
            have b_79 : bd 123 57 r_5 := leL fc_60 b_57 kb_57 (by decide)
            exact bd_no b_79 (by decide)
      · have fc_56 := nlt_f c_56
        have b_80 : bd 97 122 r_5 := leL fc_56 b_55 kb_122 (by decide)
        refine lv_aload_n hx hb dX8_takeToken_49 rfl (lv_at hl 1 rfl) ?_
        refine lv_iload_n hx hb dX8_takeToken_50 rfl (lv_at hl 2 rfl) ?_
        refine lv_iload_n hx hb dX8_takeToken_51 rfl (lv_at hl 3 rfl) ?_
        refine g_calli (va_runV (As := [.int x1_, .int x2_]) (rest := []) ⟨hx, hb, hml, hown, hts⟩ (r_X8_takeWord_5 l dC dI L kd tys fr_5 H.size g.2.2.2.1 a0_ ma0_ ka0_ x1_ bx1_ x2_ b_9 q0_ mq0_ kq0_ y0_ by0_ (g.fcts [3, 4] rfl)) (cwV 2 hts (gV_ t_1012 t_1014 t_5 t_184 t_1015) rfl rfl rfl (by decide +kernel) ⟨(Nat.le_of_ble_eq_true rfl), (Nat.le_of_ble_eq_true rfl)⟩) (pre3V g hK ma0_ ka0_ (by decide) (q := (RX8, TX8, 10)) rfl) rfl rfl hl.1 rfl (lv_room (Nat.le_of_ble_eq_true rfl)) dX8_takeToken_52 ⟨(Nat.le_of_ble_eq_true rfl), (Nat.le_of_ble_eq_true rfl)⟩) g hK (by decide) (by decide) (fx' := [(8, 5, a0_, .int x_7), (8, 2, a0_, .ref a_3), (8, 1, a0_, .ref a_1), (8, 4, a0_, .ref q0_), (8, 9, a0_, .int y0_)]) rfl (fun r_81 fr_81 H locs hp hMr_81 g => ?_)
        subst hQ
        exact W.iret (v := r_81) hx hb hr (fun t ht hW => ⟨⟨_, _, rfl, trivial, q3_of g hK ht hW⟩, g.2.2.1.F ht⟩) g.2.2.1.2.2 dX8_takeToken_55
  · have fc_8 := nlt_f c_8
    have b_82 : bd 0 2147483647 x2_ := leR fc_8 bx_7 (bdT x2_) (by decide)
    refine lv_aload_n hx hb dX8_takeToken_28 rfl (lv_at hl 1 rfl) ?_
    refine g_getr (K := 148) (C := RX8) (T := TX8) (N := 10) hx hb hts (mc_ inX8) hown hK g ma0_ ka0_ (by decide) rfl 0 (by decide) rfl (hts _ (List.mem_cons_of_mem _ t_285)) (fun _ h9 => h9) rfl dX8_takeToken_29 (fun a_83 ma_83 ka_83 g => ?_)
    refine lv_iload_n hx hb dX8_takeToken_32 rfl (lv_at hl 2 rfl) ?_
    refine lv_iconst (v := 1) hx hb dX8_takeToken_33 (by decide) ?_
    have kb_1 : bd 1 1 (1 : Int32) := ⟨by decide, by decide⟩
    refine g_kast hx hb hK g ma_83 ka_83 (by decide) rfl (in_bd bx1_ (by decide)) (bd_sub kb_1 (by decide)) (Or.inl (lt_bd bx1_ (by decide))) (by decide) dX8_takeToken_34 (fun f H locs hM_84 g => ?_)
    refine lv_iconst (v := 0) hx hb dX8_takeToken_35 (by decide) ?_
    subst hQ
    exact W.iret (v := 0) hx hb hr (fun t ht hW => ⟨⟨_, _, rfl, trivial, q3_of g hK ht hW⟩, g.2.2.1.F ht⟩) g.2.2.1.2.2 dX8_takeToken_36
set_option maxHeartbeats 4000000 in
set_option maxRecDepth 100000 in
theorem r_X8_takeApart (l : Launch) (dC : Nat → ClassId) (dI : Nat → Nat → Nat) (L : List Nat) (kd : Nat → Nat) (tys : List (ClassId × FieldType)) (f0 : Nat → va_E) (sz : Nat) (hWT : WT L kd tys f0) (adK adV : Nat → Nat) (a0_ : Nat) (ma0_ : a0_ ∈ L) (ka0_ : kd a0_ = 8) (a1_ : Nat) (ma1_ : a1_ ∈ L) (ka1_ : kd a1_ = 104) (x2_ : Int32) (bx2_ : bd 0 4000 x2_) : Met l yX8_takeApart (.code yX8_takeApart cX8_takeApart 6 none :: lw_g) ({ frames := 5, cells := 0, slots := 0, locals := 114 }) (va_Pc [.ref a0_, .ref a1_, .int x2_] (P3A (dC, dI) L tys f0 sz adK adV)) (va_Qv (fun (f : Nat → va_E) => (Fs L kd f [(8, 9, a0_, .int (-1)), (8, 8, a0_, .int 0), (8, 6, a0_, .int 0), (8, 4, a0_, .ref a1_)])) (Q3 (dC, dI) L kd tys [(8, 4), (8, 5), (8, 6), (8, 7), (8, 8), (8, 9), (8, 108)] [148, 149, 150] f0 sz) (pA L sz)) 0 0 (pA L sz) := by
  refine Met.ofW (cc := cX8_takeApart) (maxL := 6) (ret := none) (by decide) rfl ?_
  intro p e s m args below meth c s₁ B hml hv
  obtain ⟨rfl, ⟨hsz, hP, hK, hD0⟩, hAm⟩ := hv
  have hx := B.exec
  have hb := B.bytes
  have hr := B.returns
  have hts := atoms_spec (ws := (.code yX8_takeApart cX8_takeApart 6 none :: lw_g)) B.pre
  have hown : s.vm.findClass RX8 = some m.cls := findClass_of_methodNamed B.named
  have hlocks := B.notSynchronized
  subst hsz
  have g : G3 (dC, dI) L kd tys s f0 [(8, 4), (8, 5), (8, 6), (8, 7), (8, 8), (8, 9), (8, 108)] [148, 149, 150] f0 s.heap [] [] := G3.start hP hD0 hWT Fs.nil
  have hl := lv_entry ([.ref a0_, .ref a1_, .int x2_]) (n := 6) (Nat.le_of_ble_eq_true rfl)
  rw [lg_entry_eq]
  generalize (lg_sl ([.ref a0_, .ref a1_, .int x2_]) ++ List.replicate (6 - (lg_sl ([.ref a0_, .ref a1_, .int x2_])).length) Slot.unset).toArray = ls at hl ⊢
  have hl : lv_has ls 6 [(0, .ref a0_), (1, .ref a1_), (2, .int x2_)] := hl
  refine W_q (fun Q hQ => ?_)
  refine lv_aload_n hx hb dX8_takeApart_0 rfl (lv_at hl 0 rfl) ?_
  refine lv_aload_n hx hb dX8_takeApart_1 rfl (lv_at hl 1 rfl) ?_
  refine g_put (C := RX8) (T := TX8) (N := 10) hx hb hts (mc_ inX8) tyX8 tyX8_ok nmX8 hown hK g ma0_ ka0_ (by decide) rfl 4 (by decide) (hts _ (List.mem_cons_of_mem _ t_289)) (fun _ h9 => h9) rfl rfl (okV_r ma1_ ka1_ (by decide)) rfl rfl (by decide) (Or.inr (Or.inl (by decide))) (fx' := []) rfl dX8_takeApart_2 (fun f H locs hM_1 g => ?_)
  refine lv_aload_n hx hb dX8_takeApart_5 rfl (lv_at hl 0 rfl) ?_
  refine lv_iload_n hx hb dX8_takeApart_6 rfl (lv_at hl 2 rfl) ?_
  refine lv_aload_n hx hb dX8_takeApart_7 rfl (lv_at hl 1 rfl) ?_
  refine g_alen (v := 4000) hx hb hK g ma1_ ka1_ (by decide) rfl dX8_takeApart_8 ?_
  have kb_4000 : bd 4000 4000 (4000 : Int32) := ⟨by decide, by decide⟩
  refine va_mmin hx hb (hml.trans hl.1.symm) hown (hts _ (List.mem_cons_of_mem _ t_997)) (hts _ (List.mem_cons_of_mem _ t_998)) (hts _ (List.mem_cons_of_mem _ t_204)) (hts _ (List.mem_cons_of_mem _ t_999)) (Nat.le_of_ble_eq_true rfl) (Nat.le_of_ble_eq_true rfl) (Nat.le_of_ble_eq_true rfl) (Nat.le_of_ble_eq_true rfl) dX8_takeApart_9 ?_
  refine lv_topi (fun y_2 ey_2 => ?_)
  have ty_2 : y_2.toInt = min x2_.toInt (4000 : Int32).toInt := by rw [ey_2]; exact mmin_ok _ _
  have b_3 : bd 0 4000 y_2 := min_rg ty_2 bx2_ kb_4000 (by decide)
  refine g_put (C := RX8) (T := TX8) (N := 10) hx hb hts (mc_ inX8) tyX8 tyX8_ok nmX8 hown hK g ma0_ ka0_ (by decide) rfl 5 (by decide) (hts _ (List.mem_cons_of_mem _ t_290)) (fun _ h9 => h9) rfl rfl (okV_i b_3) rfl rfl (by decide) (Or.inr (Or.inl (by decide))) (fx' := [(8, 4, a0_, .ref a1_)]) rfl dX8_takeApart_12 (fun f H locs hM_4 g => ?_)
  refine lv_aload_n hx hb dX8_takeApart_15 rfl (lv_at hl 0 rfl) ?_
  refine lv_iconst (v := 0) hx hb dX8_takeApart_16 (by decide) ?_
  have kb_0 : bd 0 0 (0 : Int32) := ⟨by decide, by decide⟩
  refine g_put (C := RX8) (T := TX8) (N := 10) hx hb hts (mc_ inX8) tyX8 tyX8_ok nmX8 hown hK g ma0_ ka0_ (by decide) rfl 6 (by decide) (hts _ (List.mem_cons_of_mem _ t_291)) (fun _ h9 => h9) rfl rfl (okV_i (bd_sub kb_0 (by decide))) rfl rfl (by decide) (Or.inr (Or.inl (by decide))) (fx' := [(8, 5, a0_, .int y_2), (8, 4, a0_, .ref a1_)]) rfl dX8_takeApart_17 (fun f H locs hM_5 g => ?_)
  refine lv_aload_n hx hb dX8_takeApart_20 rfl (lv_at hl 0 rfl) ?_
  refine lv_iconst (v := 0) hx hb dX8_takeApart_21 (by decide) ?_
  refine g_put (C := RX8) (T := TX8) (N := 10) hx hb hts (mc_ inX8) tyX8 tyX8_ok nmX8 hown hK g ma0_ ka0_ (by decide) rfl 8 (by decide) (hts _ (List.mem_cons_of_mem _ t_295)) (fun _ h9 => h9) rfl rfl (okV_i (bd_sub kb_0 (by decide))) rfl rfl (by decide) (Or.inl (by decide)) (fx' := [(8, 6, a0_, .int 0), (8, 5, a0_, .int y_2), (8, 4, a0_, .ref a1_)]) rfl dX8_takeApart_22 (fun f H locs hM_6 g => ?_)
  refine lv_aload_n hx hb dX8_takeApart_25 rfl (lv_at hl 0 rfl) ?_
  refine lv_iconst (v := (-1)) hx hb dX8_takeApart_26 (by decide) ?_
  have kb_m1 : bd (-1) (-1) ((-1) : Int32) := ⟨by decide, by decide⟩
  refine g_put (C := RX8) (T := TX8) (N := 10) hx hb hts (mc_ inX8) tyX8 tyX8_ok nmX8 hown hK g ma0_ ka0_ (by decide) rfl 9 (by decide) (hts _ (List.mem_cons_of_mem _ t_296)) (fun _ h9 => h9) rfl rfl (okV_i (bd_sub kb_m1 (by decide))) rfl rfl (by decide) (Or.inr (Or.inl (by decide))) (fx' := [(8, 8, a0_, .int 0), (8, 6, a0_, .int 0), (8, 5, a0_, .int y_2), (8, 4, a0_, .ref a1_)]) rfl dX8_takeApart_27 (fun f H locs hM_7 g => ?_)
  refine lv_iconst (v := 0) hx hb dX8_takeApart_30 (by decide) ?_
  refine lv_istore_n (lv' := [(3, .int 0), (0, .ref a0_), (1, .ref a1_), (2, .int x2_)]) hx hb dX8_takeApart_31 rfl hl (by decide) rfl (fun ls hl => ?_)
  refine lv_iconst (v := 0) hx hb dX8_takeApart_32 (by decide) ?_
  refine lv_istore (lv' := [(4, .int 0), (3, .int 0), (0, .ref a0_), (1, .ref a1_), (2, .int x2_)]) hx hb dX8_takeApart_33 hl (by decide) rfl (fun ls hl => ?_)
  refine lv_iconst (v := 0) hx hb dX8_takeApart_35 (by decide) ?_
  refine lv_istore (lv' := [(5, .int 0), (4, .int 0), (3, .int 0), (0, .ref a0_), (1, .ref a1_), (2, .int x2_)]) hx hb dX8_takeApart_36 hl (by decide) rfl (fun ls hl => ?_)
  have loop_8 : ∀ (n : Nat) (v38_5 : Int32) (v38_4 : Int32) (v38_3 : Int32), bd 0 1201 v38_5 → (1201 - v38_5.toInt < (n : Int)) → ∀ (f : Nat → va_E) (H : Heap) (locs : List Loc) (ls : Array Slot), G3 (dC, dI) L kd tys s f0 [(8, 4), (8, 5), (8, 6), (8, 7), (8, 8), (8, 9), (8, 108)] [148, 149, 150] f H locs [(8, 9, a0_, .int (-1)), (8, 8, a0_, .int 0), (8, 6, a0_, .int 0), (8, 5, a0_, .int y_2), (8, 4, a0_, .ref a1_)] → lv_has ls 6 [(5, .int v38_5), (4, .int v38_4), (3, .int v38_3), (0, .ref a0_), (1, .ref a1_), (2, .int x2_)] → W p l e ({ frames := 5, cells := 0, slots := 0, locals := 114 } : Room) s m [.ref a0_, .ref a1_, .int x2_].toArray below meth c H locs 0 0 Q (F0 m 38 ls []) := by
    intro n38
    induction n38 with
    | zero =>
      intro v38_5 v38_4 v38_3 bv38_5   hm38 f H locs ls g  hl
      exact absurd hm38 (by have h9_v38_5 := bv38_5; unfold bd at h9_v38_5; have h9_v38_4 := bdT v38_4; unfold bd at h9_v38_4; have h9_v38_3 := bdT v38_3; unfold bd at h9_v38_3; omega)
    | succ n38 ih38 =>
      intro v38_5 v38_4 v38_3 bv38_5   hm38 f H locs ls g  hl
      refine lv_iload hx hb dX8_takeApart_38 (lv_at hl 0 rfl) ?_
      refine lv_sipush (v := 1200) hx hb dX8_takeApart_40 (by decide) ?_
      have kb_1200 : bd 1200 1200 (1200 : Int32) := ⟨by decide, by decide⟩
      refine lv_icmp_gt (tgt := 89) hx hb dX8_takeApart_43 (by decide) (fun c_9 => ?_) (fun c_9 => ?_)
      · have fc_9 := lt_f c_9
        have b_10 : bd 1201 1201 v38_5 := ltR fc_9 kb_1200 bv38_5 (by decide)
        refine lv_aload_n hx hb dX8_takeApart_89 rfl (lv_at hl 3 rfl) ?_
        refine g_getr (K := 148) (C := RX8) (T := TX8) (N := 10) hx hb hts (mc_ inX8) hown hK g ma0_ ka0_ (by decide) rfl 0 (by decide) rfl (hts _ (List.mem_cons_of_mem _ t_285)) (fun _ h9 => h9) rfl dX8_takeApart_90 (fun a_11 ma_11 ka_11 g => ?_)
        refine lv_sipush (v := 1201) hx hb dX8_takeApart_93 (by decide) ?_
        refine lv_iconst (v := 0) hx hb dX8_takeApart_96 (by decide) ?_
        refine g_kast hx hb hK g ma_11 ka_11 (by decide) rfl (by unfold vp_in; decide) (bd_sub kb_0 (by decide)) (Or.inr rfl) (by decide) dX8_takeApart_97 (fun f H locs hM_12 g => ?_)
        refine lv_aload_n hx hb dX8_takeApart_98 rfl (lv_at hl 3 rfl) ?_
        refine g_getr (K := 149) (C := RX8) (T := TX8) (N := 10) hx hb hts (mc_ inX8) hown hK g ma0_ ka0_ (by decide) rfl 1 (by decide) rfl (hts _ (List.mem_cons_of_mem _ t_286)) (fun _ h9 => h9) rfl dX8_takeApart_99 (fun a_13 ma_13 ka_13 g => ?_)
        refine lv_sipush (v := 1201) hx hb dX8_takeApart_102 (by decide) ?_
        refine lv_aload_n hx hb dX8_takeApart_105 rfl (lv_at hl 3 rfl) ?_
        refine g_getk (C := RX8) (T := TX8) (N := 10) hx hb hts (mc_ inX8) hown hK g rfl 5 (by decide) rfl (hts _ (List.mem_cons_of_mem _ t_290)) (fun _ h9 => h9) 5 rfl dX8_takeApart_106 ?_
        refine g_iast hx hb hK g ma_13 ka_13 (by decide) rfl (by unfold vp_in; decide) (bd_sub b_3 (by decide)) (by decide) dX8_takeApart_109 (fun f H locs hM_14 g => ?_)
        refine lv_aload_n hx hb dX8_takeApart_110 rfl (lv_at hl 3 rfl) ?_
        refine lv_aload_n hx hb dX8_takeApart_111 rfl (lv_at hl 3 rfl) ?_
        refine lv_aload_n hx hb dX8_takeApart_112 rfl (lv_at hl 3 rfl) ?_
        refine lv_iload_n hx hb dX8_takeApart_113 rfl (lv_at hl 2 rfl) ?_
        refine g_calli (va_runV (As := [.int v38_3]) (rest := [.ref a0_, .ref a0_]) ⟨hx, hb, hml, hown, hts⟩ (r_X8_behindBlanks l dC dI L kd tys f H.size g.2.2.2.1 a0_ ma0_ ka0_ v38_3 a1_ ma1_ ka1_ (g.fcts [6] rfl)) (cwV 1 hts (gV_ t_1000 t_1002 t_2 t_184 t_1003) rfl rfl rfl (by decide +kernel) ⟨(Nat.le_of_ble_eq_true rfl), (Nat.le_of_ble_eq_true rfl)⟩) (pre3V g hK ma0_ ka0_ (by decide) (q := (RX8, TX8, 10)) rfl) rfl rfl hl.1 rfl (lv_room (Nat.le_of_ble_eq_true rfl)) dX8_takeApart_114 ⟨(Nat.le_of_ble_eq_true rfl), (Nat.le_of_ble_eq_true rfl)⟩) g hK (by decide) (by decide) (fx' := [(8, 1, a0_, .ref a_13), (8, 0, a0_, .ref a_11), (8, 9, a0_, .int (-1)), (8, 8, a0_, .int 0), (8, 6, a0_, .int 0), (8, 5, a0_, .int y_2), (8, 4, a0_, .ref a1_)]) rfl (fun r_15 fr_15 H locs hp hMr_15 g => ?_)
        refine g_calli (va_runV (As := [.int r_15]) (rest := [.ref a0_]) ⟨hx, hb, hml, hown, hts⟩ (r_X8_byteAt l dC dI L kd tys fr_15 H.size g.2.2.2.1 a0_ ma0_ ka0_ r_15 a1_ ma1_ ka1_ (g.fcts [6] rfl)) (cwV 1 hts (gV_ t_1004 t_1006 t_3 t_184 t_1007) rfl rfl rfl (by decide +kernel) ⟨(Nat.le_of_ble_eq_true rfl), (Nat.le_of_ble_eq_true rfl)⟩) (pre3V g hK ma0_ ka0_ (by decide) (q := (RX8, TX8, 10)) rfl) rfl rfl hl.1 rfl (lv_room (Nat.le_of_ble_eq_true rfl)) dX8_takeApart_117 ⟨(Nat.le_of_ble_eq_true rfl), (Nat.le_of_ble_eq_true rfl)⟩) g hK (by decide) (by decide) (fx' := [(8, 1, a0_, .ref a_13), (8, 0, a0_, .ref a_11), (8, 9, a0_, .int (-1)), (8, 8, a0_, .int 0), (8, 6, a0_, .int 0), (8, 5, a0_, .int y_2), (8, 4, a0_, .ref a1_)]) rfl (fun r_16 fr_16 H locs hp hMr_16 g => ?_)
        obtain ⟨h_17, -⟩ := hp
        refine lv_bipush (v := 40) hx hb dX8_takeApart_120 (by decide) ?_
        have kb_40 : bd 40 40 (40 : Int32) := ⟨by decide, by decide⟩
        refine lv_icmp_ne (tgt := 129) hx hb dX8_takeApart_122 (by decide) (fun c_18 => ?_) (fun c_18 => ?_)
        · have fc_18 := neq_f c_18
          refine lv_iconst (v := 0) hx hb dX8_takeApart_129 (by decide) ?_
          refine g_put (C := RX8) (T := TX8) (N := 10) hx hb hts (mc_ inX8) tyX8 tyX8_ok nmX8 hown hK g ma0_ ka0_ (by decide) rfl 7 (by decide) (hts _ (List.mem_cons_of_mem _ t_292)) (fun _ h9 => h9) rfl rfl (okV_i (bd_sub kb_0 (by decide))) rfl rfl (by decide) (Or.inr (Or.inl (by decide))) (fx' := [(8, 1, a0_, .ref a_13), (8, 0, a0_, .ref a_11), (8, 9, a0_, .int (-1)), (8, 8, a0_, .int 0), (8, 6, a0_, .int 0), (8, 5, a0_, .int y_2), (8, 4, a0_, .ref a1_)]) rfl dX8_takeApart_130 (fun f H locs hM_19 g => ?_)
          subst hQ
          exact W.vret hx hb hr (fun t ht hW => ⟨⟨_, rfl, (g.fcts [3, 4, 5, 7] rfl), q3_of g hK ht hW⟩, g.2.2.1.F ht⟩) g.2.2.1.2.2 dX8_takeApart_133
        · have fc_18 := eq_f c_18
          have b_20 : bd 40 40 r_16 := eqX fc_18 h_17 kb_40 (by decide)
          refine lv_iconst (v := 1) hx hb dX8_takeApart_125 (by decide) ?_
          refine lv_goto (tgt := 130) hx hb dX8_takeApart_126 (by decide) ?_
          have kb_1 : bd 1 1 (1 : Int32) := ⟨by decide, by decide⟩
          refine g_put (C := RX8) (T := TX8) (N := 10) hx hb hts (mc_ inX8) tyX8 tyX8_ok nmX8 hown hK g ma0_ ka0_ (by decide) rfl 7 (by decide) (hts _ (List.mem_cons_of_mem _ t_292)) (fun _ h9 => h9) rfl rfl (okV_i (bd_sub kb_1 (by decide))) rfl rfl (by decide) (Or.inr (Or.inl (by decide))) (fx' := [(8, 1, a0_, .ref a_13), (8, 0, a0_, .ref a_11), (8, 9, a0_, .int (-1)), (8, 8, a0_, .int 0), (8, 6, a0_, .int 0), (8, 5, a0_, .int y_2), (8, 4, a0_, .ref a1_)]) rfl dX8_takeApart_130 (fun f H locs hM_21 g => ?_)
          subst hQ
          exact W.vret hx hb hr (fun t ht hW => ⟨⟨_, rfl, (g.fcts [3, 4, 5, 7] rfl), q3_of g hK ht hW⟩, g.2.2.1.F ht⟩) g.2.2.1.2.2 dX8_takeApart_133
      · have fc_9 := nlt_f c_9
        have b_22 : bd 0 1200 v38_5 := leL fc_9 bv38_5 kb_1200 (by decide)
        refine lv_iload hx hb dX8_takeApart_46 (lv_at hl 1 rfl) ?_
        refine lv_iconst (v := 1) hx hb dX8_takeApart_48 (by decide) ?_
        have kb_1 : bd 1 1 (1 : Int32) := ⟨by decide, by decide⟩
        refine lv_icmp_eq (tgt := 89) hx hb dX8_takeApart_49 (by decide) (fun c_23 => ?_) (fun c_23 => ?_)
        · have fc_23 := eq_f c_23
          have b_24 : bd 1 1 v38_4 := eqX fc_23 (bdT v38_4) kb_1 (by decide)
          refine lv_aload_n hx hb dX8_takeApart_89 rfl (lv_at hl 3 rfl) ?_
          refine g_getr (K := 148) (C := RX8) (T := TX8) (N := 10) hx hb hts (mc_ inX8) hown hK g ma0_ ka0_ (by decide) rfl 0 (by decide) rfl (hts _ (List.mem_cons_of_mem _ t_285)) (fun _ h9 => h9) rfl dX8_takeApart_90 (fun a_25 ma_25 ka_25 g => ?_)
          refine lv_sipush (v := 1201) hx hb dX8_takeApart_93 (by decide) ?_
          refine lv_iconst (v := 0) hx hb dX8_takeApart_96 (by decide) ?_
          refine g_kast hx hb hK g ma_25 ka_25 (by decide) rfl (by unfold vp_in; decide) (bd_sub kb_0 (by decide)) (Or.inr rfl) (by decide) dX8_takeApart_97 (fun f H locs hM_26 g => ?_)
          refine lv_aload_n hx hb dX8_takeApart_98 rfl (lv_at hl 3 rfl) ?_
          refine g_getr (K := 149) (C := RX8) (T := TX8) (N := 10) hx hb hts (mc_ inX8) hown hK g ma0_ ka0_ (by decide) rfl 1 (by decide) rfl (hts _ (List.mem_cons_of_mem _ t_286)) (fun _ h9 => h9) rfl dX8_takeApart_99 (fun a_27 ma_27 ka_27 g => ?_)
          refine lv_sipush (v := 1201) hx hb dX8_takeApart_102 (by decide) ?_
          refine lv_aload_n hx hb dX8_takeApart_105 rfl (lv_at hl 3 rfl) ?_
          refine g_getk (C := RX8) (T := TX8) (N := 10) hx hb hts (mc_ inX8) hown hK g rfl 5 (by decide) rfl (hts _ (List.mem_cons_of_mem _ t_290)) (fun _ h9 => h9) 5 rfl dX8_takeApart_106 ?_
          refine g_iast hx hb hK g ma_27 ka_27 (by decide) rfl (by unfold vp_in; decide) (bd_sub b_3 (by decide)) (by decide) dX8_takeApart_109 (fun f H locs hM_28 g => ?_)
          refine lv_aload_n hx hb dX8_takeApart_110 rfl (lv_at hl 3 rfl) ?_
          refine lv_aload_n hx hb dX8_takeApart_111 rfl (lv_at hl 3 rfl) ?_
          refine lv_aload_n hx hb dX8_takeApart_112 rfl (lv_at hl 3 rfl) ?_
          refine lv_iload_n hx hb dX8_takeApart_113 rfl (lv_at hl 2 rfl) ?_
          refine g_calli (va_runV (As := [.int v38_3]) (rest := [.ref a0_, .ref a0_]) ⟨hx, hb, hml, hown, hts⟩ (r_X8_behindBlanks l dC dI L kd tys f H.size g.2.2.2.1 a0_ ma0_ ka0_ v38_3 a1_ ma1_ ka1_ (g.fcts [6] rfl)) (cwV 1 hts (gV_ t_1000 t_1002 t_2 t_184 t_1003) rfl rfl rfl (by decide +kernel) ⟨(Nat.le_of_ble_eq_true rfl), (Nat.le_of_ble_eq_true rfl)⟩) (pre3V g hK ma0_ ka0_ (by decide) (q := (RX8, TX8, 10)) rfl) rfl rfl hl.1 rfl (lv_room (Nat.le_of_ble_eq_true rfl)) dX8_takeApart_114 ⟨(Nat.le_of_ble_eq_true rfl), (Nat.le_of_ble_eq_true rfl)⟩) g hK (by decide) (by decide) (fx' := [(8, 1, a0_, .ref a_27), (8, 0, a0_, .ref a_25), (8, 9, a0_, .int (-1)), (8, 8, a0_, .int 0), (8, 6, a0_, .int 0), (8, 5, a0_, .int y_2), (8, 4, a0_, .ref a1_)]) rfl (fun r_29 fr_29 H locs hp hMr_29 g => ?_)
          refine g_calli (va_runV (As := [.int r_29]) (rest := [.ref a0_]) ⟨hx, hb, hml, hown, hts⟩ (r_X8_byteAt l dC dI L kd tys fr_29 H.size g.2.2.2.1 a0_ ma0_ ka0_ r_29 a1_ ma1_ ka1_ (g.fcts [6] rfl)) (cwV 1 hts (gV_ t_1004 t_1006 t_3 t_184 t_1007) rfl rfl rfl (by decide +kernel) ⟨(Nat.le_of_ble_eq_true rfl), (Nat.le_of_ble_eq_true rfl)⟩) (pre3V g hK ma0_ ka0_ (by decide) (q := (RX8, TX8, 10)) rfl) rfl rfl hl.1 rfl (lv_room (Nat.le_of_ble_eq_true rfl)) dX8_takeApart_117 ⟨(Nat.le_of_ble_eq_true rfl), (Nat.le_of_ble_eq_true rfl)⟩) g hK (by decide) (by decide) (fx' := [(8, 1, a0_, .ref a_27), (8, 0, a0_, .ref a_25), (8, 9, a0_, .int (-1)), (8, 8, a0_, .int 0), (8, 6, a0_, .int 0), (8, 5, a0_, .int y_2), (8, 4, a0_, .ref a1_)]) rfl (fun r_30 fr_30 H locs hp hMr_30 g => ?_)
          obtain ⟨h_31, -⟩ := hp
          refine lv_bipush (v := 40) hx hb dX8_takeApart_120 (by decide) ?_
          have kb_40 : bd 40 40 (40 : Int32) := ⟨by decide, by decide⟩
          refine lv_icmp_ne (tgt := 129) hx hb dX8_takeApart_122 (by decide) (fun c_32 => ?_) (fun c_32 => ?_)
          · have fc_32 := neq_f c_32
            refine lv_iconst (v := 0) hx hb dX8_takeApart_129 (by decide) ?_
            refine g_put (C := RX8) (T := TX8) (N := 10) hx hb hts (mc_ inX8) tyX8 tyX8_ok nmX8 hown hK g ma0_ ka0_ (by decide) rfl 7 (by decide) (hts _ (List.mem_cons_of_mem _ t_292)) (fun _ h9 => h9) rfl rfl (okV_i (bd_sub kb_0 (by decide))) rfl rfl (by decide) (Or.inr (Or.inl (by decide))) (fx' := [(8, 1, a0_, .ref a_27), (8, 0, a0_, .ref a_25), (8, 9, a0_, .int (-1)), (8, 8, a0_, .int 0), (8, 6, a0_, .int 0), (8, 5, a0_, .int y_2), (8, 4, a0_, .ref a1_)]) rfl dX8_takeApart_130 (fun f H locs hM_33 g => ?_)
            subst hQ
            exact W.vret hx hb hr (fun t ht hW => ⟨⟨_, rfl, (g.fcts [3, 4, 5, 7] rfl), q3_of g hK ht hW⟩, g.2.2.1.F ht⟩) g.2.2.1.2.2 dX8_takeApart_133
          · have fc_32 := eq_f c_32
            have b_34 : bd 40 40 r_30 := eqX fc_32 h_31 kb_40 (by decide)
            refine lv_iconst (v := 1) hx hb dX8_takeApart_125 (by decide) ?_
            refine lv_goto (tgt := 130) hx hb dX8_takeApart_126 (by decide) ?_
            refine g_put (C := RX8) (T := TX8) (N := 10) hx hb hts (mc_ inX8) tyX8 tyX8_ok nmX8 hown hK g ma0_ ka0_ (by decide) rfl 7 (by decide) (hts _ (List.mem_cons_of_mem _ t_292)) (fun _ h9 => h9) rfl rfl (okV_i (bd_sub kb_1 (by decide))) rfl rfl (by decide) (Or.inr (Or.inl (by decide))) (fx' := [(8, 1, a0_, .ref a_27), (8, 0, a0_, .ref a_25), (8, 9, a0_, .int (-1)), (8, 8, a0_, .int 0), (8, 6, a0_, .int 0), (8, 5, a0_, .int y_2), (8, 4, a0_, .ref a1_)]) rfl dX8_takeApart_130 (fun f H locs hM_35 g => ?_)
            subst hQ
            exact W.vret hx hb hr (fun t ht hW => ⟨⟨_, rfl, (g.fcts [3, 4, 5, 7] rfl), q3_of g hK ht hW⟩, g.2.2.1.F ht⟩) g.2.2.1.2.2 dX8_takeApart_133
        · have fc_23 := neq_f c_23
          refine lv_iload hx hb dX8_takeApart_52 (lv_at hl 1 rfl) ?_
          refine lv_iconst (v := 2) hx hb dX8_takeApart_54 (by decide) ?_
          have kb_2 : bd 2 2 (2 : Int32) := ⟨by decide, by decide⟩
          refine lv_icmp_eq (tgt := 89) hx hb dX8_takeApart_55 (by decide) (fun c_36 => ?_) (fun c_36 => ?_)
          · have fc_36 := eq_f c_36
            have b_37 : bd 2 2 v38_4 := eqX fc_36 (bdT v38_4) kb_2 (by decide)
            refine lv_aload_n hx hb dX8_takeApart_89 rfl (lv_at hl 3 rfl) ?_
            refine g_getr (K := 148) (C := RX8) (T := TX8) (N := 10) hx hb hts (mc_ inX8) hown hK g ma0_ ka0_ (by decide) rfl 0 (by decide) rfl (hts _ (List.mem_cons_of_mem _ t_285)) (fun _ h9 => h9) rfl dX8_takeApart_90 (fun a_38 ma_38 ka_38 g => ?_)
            refine lv_sipush (v := 1201) hx hb dX8_takeApart_93 (by decide) ?_
            refine lv_iconst (v := 0) hx hb dX8_takeApart_96 (by decide) ?_
            refine g_kast hx hb hK g ma_38 ka_38 (by decide) rfl (by unfold vp_in; decide) (bd_sub kb_0 (by decide)) (Or.inr rfl) (by decide) dX8_takeApart_97 (fun f H locs hM_39 g => ?_)
            refine lv_aload_n hx hb dX8_takeApart_98 rfl (lv_at hl 3 rfl) ?_
            refine g_getr (K := 149) (C := RX8) (T := TX8) (N := 10) hx hb hts (mc_ inX8) hown hK g ma0_ ka0_ (by decide) rfl 1 (by decide) rfl (hts _ (List.mem_cons_of_mem _ t_286)) (fun _ h9 => h9) rfl dX8_takeApart_99 (fun a_40 ma_40 ka_40 g => ?_)
            refine lv_sipush (v := 1201) hx hb dX8_takeApart_102 (by decide) ?_
            refine lv_aload_n hx hb dX8_takeApart_105 rfl (lv_at hl 3 rfl) ?_
            refine g_getk (C := RX8) (T := TX8) (N := 10) hx hb hts (mc_ inX8) hown hK g rfl 5 (by decide) rfl (hts _ (List.mem_cons_of_mem _ t_290)) (fun _ h9 => h9) 5 rfl dX8_takeApart_106 ?_
            refine g_iast hx hb hK g ma_40 ka_40 (by decide) rfl (by unfold vp_in; decide) (bd_sub b_3 (by decide)) (by decide) dX8_takeApart_109 (fun f H locs hM_41 g => ?_)
            refine lv_aload_n hx hb dX8_takeApart_110 rfl (lv_at hl 3 rfl) ?_
            refine lv_aload_n hx hb dX8_takeApart_111 rfl (lv_at hl 3 rfl) ?_
            refine lv_aload_n hx hb dX8_takeApart_112 rfl (lv_at hl 3 rfl) ?_
            refine lv_iload_n hx hb dX8_takeApart_113 rfl (lv_at hl 2 rfl) ?_
            refine g_calli (va_runV (As := [.int v38_3]) (rest := [.ref a0_, .ref a0_]) ⟨hx, hb, hml, hown, hts⟩ (r_X8_behindBlanks l dC dI L kd tys f H.size g.2.2.2.1 a0_ ma0_ ka0_ v38_3 a1_ ma1_ ka1_ (g.fcts [6] rfl)) (cwV 1 hts (gV_ t_1000 t_1002 t_2 t_184 t_1003) rfl rfl rfl (by decide +kernel) ⟨(Nat.le_of_ble_eq_true rfl), (Nat.le_of_ble_eq_true rfl)⟩) (pre3V g hK ma0_ ka0_ (by decide) (q := (RX8, TX8, 10)) rfl) rfl rfl hl.1 rfl (lv_room (Nat.le_of_ble_eq_true rfl)) dX8_takeApart_114 ⟨(Nat.le_of_ble_eq_true rfl), (Nat.le_of_ble_eq_true rfl)⟩) g hK (by decide) (by decide) (fx' := [(8, 1, a0_, .ref a_40), (8, 0, a0_, .ref a_38), (8, 9, a0_, .int (-1)), (8, 8, a0_, .int 0), (8, 6, a0_, .int 0), (8, 5, a0_, .int y_2), (8, 4, a0_, .ref a1_)]) rfl (fun r_42 fr_42 H locs hp hMr_42 g => ?_)
            refine g_calli (va_runV (As := [.int r_42]) (rest := [.ref a0_]) ⟨hx, hb, hml, hown, hts⟩ (r_X8_byteAt l dC dI L kd tys fr_42 H.size g.2.2.2.1 a0_ ma0_ ka0_ r_42 a1_ ma1_ ka1_ (g.fcts [6] rfl)) (cwV 1 hts (gV_ t_1004 t_1006 t_3 t_184 t_1007) rfl rfl rfl (by decide +kernel) ⟨(Nat.le_of_ble_eq_true rfl), (Nat.le_of_ble_eq_true rfl)⟩) (pre3V g hK ma0_ ka0_ (by decide) (q := (RX8, TX8, 10)) rfl) rfl rfl hl.1 rfl (lv_room (Nat.le_of_ble_eq_true rfl)) dX8_takeApart_117 ⟨(Nat.le_of_ble_eq_true rfl), (Nat.le_of_ble_eq_true rfl)⟩) g hK (by decide) (by decide) (fx' := [(8, 1, a0_, .ref a_40), (8, 0, a0_, .ref a_38), (8, 9, a0_, .int (-1)), (8, 8, a0_, .int 0), (8, 6, a0_, .int 0), (8, 5, a0_, .int y_2), (8, 4, a0_, .ref a1_)]) rfl (fun r_43 fr_43 H locs hp hMr_43 g => ?_)
            obtain ⟨h_44, -⟩ := hp
            refine lv_bipush (v := 40) hx hb dX8_takeApart_120 (by decide) ?_
            have kb_40 : bd 40 40 (40 : Int32) := ⟨by decide, by decide⟩
            refine lv_icmp_ne (tgt := 129) hx hb dX8_takeApart_122 (by decide) (fun c_45 => ?_) (fun c_45 => ?_)
            · have fc_45 := neq_f c_45
              refine lv_iconst (v := 0) hx hb dX8_takeApart_129 (by decide) ?_
              refine g_put (C := RX8) (T := TX8) (N := 10) hx hb hts (mc_ inX8) tyX8 tyX8_ok nmX8 hown hK g ma0_ ka0_ (by decide) rfl 7 (by decide) (hts _ (List.mem_cons_of_mem _ t_292)) (fun _ h9 => h9) rfl rfl (okV_i (bd_sub kb_0 (by decide))) rfl rfl (by decide) (Or.inr (Or.inl (by decide))) (fx' := [(8, 1, a0_, .ref a_40), (8, 0, a0_, .ref a_38), (8, 9, a0_, .int (-1)), (8, 8, a0_, .int 0), (8, 6, a0_, .int 0), (8, 5, a0_, .int y_2), (8, 4, a0_, .ref a1_)]) rfl dX8_takeApart_130 (fun f H locs hM_46 g => ?_)
              subst hQ
              exact W.vret hx hb hr (fun t ht hW => ⟨⟨_, rfl, (g.fcts [3, 4, 5, 7] rfl), q3_of g hK ht hW⟩, g.2.2.1.F ht⟩) g.2.2.1.2.2 dX8_takeApart_133
            · have fc_45 := eq_f c_45
              have b_47 : bd 40 40 r_43 := eqX fc_45 h_44 kb_40 (by decide)
              refine lv_iconst (v := 1) hx hb dX8_takeApart_125 (by decide) ?_
              refine lv_goto (tgt := 130) hx hb dX8_takeApart_126 (by decide) ?_
              refine g_put (C := RX8) (T := TX8) (N := 10) hx hb hts (mc_ inX8) tyX8 tyX8_ok nmX8 hown hK g ma0_ ka0_ (by decide) rfl 7 (by decide) (hts _ (List.mem_cons_of_mem _ t_292)) (fun _ h9 => h9) rfl rfl (okV_i (bd_sub kb_1 (by decide))) rfl rfl (by decide) (Or.inr (Or.inl (by decide))) (fx' := [(8, 1, a0_, .ref a_40), (8, 0, a0_, .ref a_38), (8, 9, a0_, .int (-1)), (8, 8, a0_, .int 0), (8, 6, a0_, .int 0), (8, 5, a0_, .int y_2), (8, 4, a0_, .ref a1_)]) rfl dX8_takeApart_130 (fun f H locs hM_48 g => ?_)
              subst hQ
              exact W.vret hx hb hr (fun t ht hW => ⟨⟨_, rfl, (g.fcts [3, 4, 5, 7] rfl), q3_of g hK ht hW⟩, g.2.2.1.F ht⟩) g.2.2.1.2.2 dX8_takeApart_133
          · have fc_36 := neq_f c_36
            refine lv_aload_n hx hb dX8_takeApart_58 rfl (lv_at hl 3 rfl) ?_
            refine lv_iload_n hx hb dX8_takeApart_59 rfl (lv_at hl 2 rfl) ?_
            refine g_calli (va_runV (As := [.int v38_3]) (rest := []) ⟨hx, hb, hml, hown, hts⟩ (r_X8_behindBlanks l dC dI L kd tys f H.size g.2.2.2.1 a0_ ma0_ ka0_ v38_3 a1_ ma1_ ka1_ (g.fcts [4] rfl)) (cwV 1 hts (gV_ t_1000 t_1002 t_2 t_184 t_1003) rfl rfl rfl (by decide +kernel) ⟨(Nat.le_of_ble_eq_true rfl), (Nat.le_of_ble_eq_true rfl)⟩) (pre3V g hK ma0_ ka0_ (by decide) (q := (RX8, TX8, 10)) rfl) rfl rfl hl.1 rfl (lv_room (Nat.le_of_ble_eq_true rfl)) dX8_takeApart_60 ⟨(Nat.le_of_ble_eq_true rfl), (Nat.le_of_ble_eq_true rfl)⟩) g hK (by decide) (by decide) (fx' := [(8, 9, a0_, .int (-1)), (8, 8, a0_, .int 0), (8, 6, a0_, .int 0), (8, 5, a0_, .int y_2), (8, 4, a0_, .ref a1_)]) rfl (fun r_49 fr_49 H locs hp hMr_49 g => ?_)
            refine lv_istore_n (lv' := [(3, .int r_49), (5, .int v38_5), (4, .int v38_4), (0, .ref a0_), (1, .ref a1_), (2, .int x2_)]) hx hb dX8_takeApart_63 rfl hl (by decide) rfl (fun ls hl => ?_)
            refine lv_iload_n hx hb dX8_takeApart_64 rfl (lv_at hl 0 rfl) ?_
            refine lv_aload_n hx hb dX8_takeApart_65 rfl (lv_at hl 3 rfl) ?_
            refine lv_iload hx hb dX8_takeApart_66 (lv_at hl 1 rfl) ?_
            refine lv_iload_n hx hb dX8_takeApart_68 rfl (lv_at hl 0 rfl) ?_
            refine g_calli (va_runV (As := [.int v38_5, .int r_49]) (rest := [.int r_49]) ⟨hx, hb, hml, hown, hts⟩ (r_X8_takeToken_5 l dC dI L kd tys fr_49 H.size g.2.2.2.1 adK adV a0_ ma0_ ka0_ v38_5 b_22 r_49 a1_ ma1_ ka1_ (-1) kb_m1 (g.fcts [4, 0] rfl)) (cwV 2 hts (gV_ t_1008 t_1010 t_4 t_184 t_1011) rfl rfl rfl (by decide +kernel) ⟨(Nat.le_of_ble_eq_true rfl), (Nat.le_of_ble_eq_true rfl)⟩) (pre3VA g hK hAm ma0_ ka0_ (by decide) (q := (RX8, TX8, 10)) rfl) rfl rfl hl.1 rfl (lv_room (Nat.le_of_ble_eq_true rfl)) dX8_takeApart_69 ⟨(Nat.le_of_ble_eq_true rfl), (Nat.le_of_ble_eq_true rfl)⟩) g hK (by decide) (by decide) (fx' := [(8, 9, a0_, .int (-1)), (8, 8, a0_, .int 0), (8, 6, a0_, .int 0), (8, 5, a0_, .int y_2), (8, 4, a0_, .ref a1_)]) rfl (fun r_50 fr_50 H locs hp hMr_50 g => ?_)
            refine lv_iadd hx hb dX8_takeApart_72 ?_
            refine lv_topi (fun y_51 ey_51 => ?_)
            refine lv_istore_n (lv' := [(3, .int y_51), (5, .int v38_5), (4, .int v38_4), (0, .ref a0_), (1, .ref a1_), (2, .int x2_)]) hx hb dX8_takeApart_73 rfl hl (by decide) rfl (fun ls hl => ?_)
            refine lv_aload_n hx hb dX8_takeApart_74 rfl (lv_at hl 3 rfl) ?_
            refine g_getr (K := 148) (C := RX8) (T := TX8) (N := 10) hx hb hts (mc_ inX8) hown hK g ma0_ ka0_ (by decide) rfl 0 (by decide) rfl (hts _ (List.mem_cons_of_mem _ t_285)) (fun _ h9 => h9) rfl dX8_takeApart_75 (fun a_52 ma_52 ka_52 g => ?_)
            refine lv_iload hx hb dX8_takeApart_78 (lv_at hl 1 rfl) ?_
            refine g_kald hx hb hK g ma_52 ka_52 (by decide) rfl (in_bd b_22 (by decide)) dX8_takeApart_80 (fun x_53 bx_53 cx_53 zx_53 => ?_)
            refine lv_istore (lv' := [(4, .int x_53), (3, .int y_51), (5, .int v38_5), (0, .ref a0_), (1, .ref a1_), (2, .int x2_)]) hx hb dX8_takeApart_81 hl (by decide) rfl (fun ls hl => ?_)
            obtain ⟨y_54, ey_54⟩ : ∃ z : Int32, z = v38_5 + 1 := ⟨_, rfl⟩
            refine lv_iinc (v := y_54) (lv' := [(5, .int y_54), (4, .int x_53), (3, .int y_51), (0, .ref a0_), (1, .ref a1_), (2, .int x2_)]) hx hb dX8_takeApart_83 hl (k := 2) rfl (by rw [ey_54]; rfl) (by decide) rfl (fun ls hl => ?_)
            have ty_54 := add_bd ey_54 b_22 kb_1 (by decide)
            have b_55 : bd 1 1201 y_54 := add_rg ty_54 b_22 kb_1 (by decide)
            refine lv_goto (tgt := 38) hx hb dX8_takeApart_86 (by decide) ?_
            have hl9 := lv_sub hl [0, 1, 2, 3, 4, 5] (by rfl : lv_pick [(5, .int y_54), (4, .int x_53), (3, .int y_51), (0, .ref a0_), (1, .ref a1_), (2, .int x2_)] [0, 1, 2, 3, 4, 5] = [(5, .int y_54), (4, .int x_53), (3, .int y_51), (0, .ref a0_), (1, .ref a1_), (2, .int x2_)])
            have g9 := g.sub (fx' := [(8, 9, a0_, .int (-1)), (8, 8, a0_, .int 0), (8, 6, a0_, .int 0), (8, 5, a0_, .int y_2), (8, 4, a0_, .ref a1_)]) [1, 2, 3, 4, 5] rfl
            exact ih38  y_54 x_53 y_51 (bd_sub b_55 (by decide)) (by have h9_0 := b_55; unfold bd at h9_0; have h9_1 := bdT v38_3; unfold bd at h9_1; have h9_2 := bdT v38_4; unfold bd at h9_2; have h9_3 := bdT x_53; unfold bd at h9_3; have h9_4 := bdT y_51; unfold bd at h9_4; have h9_5 := bv38_5; unfold bd at h9_5; have h9_6 := kb_0; unfold bd at h9_6; have h9_7 := kb_1; unfold bd at h9_7; have h9_8 := kb_1200; unfold bd at h9_8; have h9_9 := kb_2; unfold bd at h9_9; have h9_10 := kb_4000; unfold bd at h9_10; have h9_11 := kb_m1; unfold bd at h9_11; omega) _ _ _ _ g9  hl9
  have hl9 := lv_sub hl [0, 1, 2, 3, 4, 5] (by rfl : lv_pick [(5, .int 0), (4, .int 0), (3, .int 0), (0, .ref a0_), (1, .ref a1_), (2, .int x2_)] [0, 1, 2, 3, 4, 5] = [(5, .int 0), (4, .int 0), (3, .int 0), (0, .ref a0_), (1, .ref a1_), (2, .int x2_)])
  have g9 := g.sub (fx' := [(8, 9, a0_, .int (-1)), (8, 8, a0_, .int 0), (8, 6, a0_, .int 0), (8, 5, a0_, .int y_2), (8, 4, a0_, .ref a1_)]) [0, 1, 2, 3, 4] rfl
  exact loop_8 (2405) 0 0 0 (bd_sub kb_0 (by decide)) (by have h9_0 := kb_0; unfold bd at h9_0; have h9_1 := kb_4000; unfold bd at h9_1; have h9_2 := kb_m1; unfold bd at h9_2; omega) _ _ _ _ g9  hl9
