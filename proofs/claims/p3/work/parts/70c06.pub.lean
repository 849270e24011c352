set_option maxHeartbeats 4000000 in
set_option maxRecDepth 100000 in
theorem r_X1_setCell_22 (l : Launch) (dC : Nat → ClassId) (dI : Nat → Nat → Nat) (L : List Nat) (kd : Nat → Nat) (tys : List (ClassId × FieldType)) (f0 : Nat → va_E) (sz : Nat) (hWT : WT L kd tys f0) (a0_ : Nat) (ma0_ : a0_ ∈ L) (ka0_ : kd a0_ = 1) (x1_ : Int32) (bx1_ : bd 0 400 x1_) (x2_ : Int32) (x3_ : Int32) (y0_ : Int32) (by0_ : bd 0 699 y0_) (y1_ : Int32) (by1_ : bd 1 2000 y1_) (y2_ : Int32) (by2_ : bd 0 0 y2_) (y3_ : Int32) (by3_ : bd 1 20 y3_) (y4_ : Int32) (by4_ : bd 1 1 y4_) (y5_ : Int32) (by5_ : bd 0 0 y5_) (y6_ : Int32) (by6_ : bd 0 0 y6_) (hfx : Fs L kd f0 [(1, 8, a0_, .int y0_), (1, 13, a0_, .int y1_), (1, 15, a0_, .int y2_), (1, 11, a0_, .int y3_), (1, 12, a0_, .int y4_), (1, 6, a0_, .int y5_), (1, 5, a0_, .int y6_)]) : Met l yX1_setCell (.code yX1_setCell cX1_setCell 5 none :: lw_g) ({ frames := 0, cells := 0, slots := 0, locals := 0 }) (va_Pc [.ref a0_, .int x1_, .int x2_, .int x3_] (P3 (dC, dI) L tys f0 sz)) (va_Qv (fun (f : Nat → va_E) => (True)) (Q3 (dC, dI) L kd tys [] [100, 101, 102] f0 sz) (pA L sz)) 0 0 (pA L sz) := by
  refine Met.ofW (cc := cX1_setCell) (maxL := 5) (ret := none) (by decide) rfl ?_
  intro p e s m args below meth c s₁ B hml hv
  obtain ⟨rfl, hsz, hP, hK, hD0⟩ := hv
  have hx := B.exec
  have hb := B.bytes
  have hr := B.returns
  have hts := atoms_spec (ws := (.code yX1_setCell cX1_setCell 5 none :: lw_g)) B.pre
  have hown : s.vm.findClass RX1 = some m.cls := findClass_of_methodNamed B.named
  have hlocks := B.notSynchronized
  subst hsz
  have g : G3 (dC, dI) L kd tys s f0 [] [100, 101, 102] f0 s.heap [] [(1, 8, a0_, .int y0_), (1, 13, a0_, .int y1_), (1, 15, a0_, .int y2_), (1, 11, a0_, .int y3_), (1, 12, a0_, .int y4_), (1, 6, a0_, .int y5_), (1, 5, a0_, .int y6_)] := G3.start hP hD0 hWT hfx
  have hl := lv_entry ([.ref a0_, .int x1_, .int x2_, .int x3_]) (n := 5) (Nat.le_of_ble_eq_true rfl)
  rw [lg_entry_eq]
  generalize (lg_sl ([.ref a0_, .int x1_, .int x2_, .int x3_]) ++ List.replicate (5 - (lg_sl ([.ref a0_, .int x1_, .int x2_, .int x3_])).length) Slot.unset).toArray = ls at hl ⊢
  have hl : lv_has ls 5 [(0, .ref a0_), (1, .int x1_), (2, .int x2_), (3, .int x3_)] := hl
  refine W_q (fun Q hQ => ?_)
  refine lv_iload_n hx hb dX1_setCell_0 rfl (lv_at hl 1 rfl) ?_
  refine lv_iconst (v := 4) hx hb dX1_setCell_1 (by decide) ?_
  have kb_4 : bd 4 4 (4 : Int32) := ⟨by decide, by decide⟩
  refine lv_ishr hx hb dX1_setCell_2 ?_
  refine lv_topi (fun y_1 ey_1 => ?_)
  have b_2 : bd 0 25 y_1 := shr_rg ey_1 bx1_ kb_4 (by decide)
  refine lv_iload_n hx hb dX1_setCell_3 rfl (lv_at hl 2 rfl) ?_
  refine lv_iadd hx hb dX1_setCell_4 ?_
  refine lv_topi (fun y_3 ey_3 => ?_)
  refine lv_istore (lv' := [(4, .int y_3), (0, .ref a0_), (1, .int x1_), (2, .int x2_), (3, .int x3_)]) hx hb dX1_setCell_5 hl (by decide) rfl (fun ls hl => ?_)
  refine lv_aload_n hx hb dX1_setCell_7 rfl (lv_at hl 1 rfl) ?_
  refine g_getk (C := RX1) (T := TX1) (N := 18) hx hb hts (mc_ inX1) hown hK g rfl 5 (by decide) rfl (hts _ (List.mem_cons_of_mem _ t_740)) (fun _ h9 => h9) 6 rfl dX1_setCell_8 ?_
  have kb_0 : bd 0 0 (0 : Int32) := ⟨by decide, by decide⟩
  refine lv_if_eq (tgt := 22) hx hb dX1_setCell_11 (by decide) (fun c_4 => ?_) (fun c_4 => ?_)
  · have fc_4 := eq_f c_4
    refine lv_iload_n hx hb dX1_setCell_22 rfl (lv_at hl 3 rfl) ?_
    refine lv_if_lt (tgt := 52) hx hb dX1_setCell_23 (by decide) (fun c_5 => ?_) (fun c_5 => ?_)
    · have fc_5 := lt_f c_5
      have b_6 : bd (-2147483648) (-1) x2_ := ltL fc_5 (bdT x2_) kb_0 (by decide)
      have ty_3 := add_bd ey_3 b_2 b_6 (by decide)
      have b_7 : bd (-2147483648) 24 y_3 := add_rg ty_3 b_2 b_6 (by decide)
      subst hQ
      exact W.vret hx hb hr (fun t ht hW => ⟨⟨_, rfl, trivial, q3_of g hK ht hW⟩, g.2.2.1.F ht⟩) g.2.2.1.2.2 dX1_setCell_52
    · have fc_5 := nlt_f c_5
      have b_8 : bd 0 2147483647 x2_ := leR fc_5 kb_0 (bdT x2_) (by decide)
      refine lv_iload_n hx hb dX1_setCell_26 rfl (lv_at hl 3 rfl) ?_
      refine lv_iload_n hx hb dX1_setCell_27 rfl (lv_at hl 2 rfl) ?_
      refine lv_bipush (v := 15) hx hb dX1_setCell_28 (by decide) ?_
      have kb_15 : bd 15 15 (15 : Int32) := ⟨by decide, by decide⟩
      refine lv_iand hx hb dX1_setCell_30 ?_
      refine lv_topi (fun y_9 ey_9 => ?_)
      have b_10 : bd 0 15 y_9 := and_rg ey_9 bx1_ kb_15 (by decide)
      refine lv_icmp_ge (tgt := 52) hx hb dX1_setCell_31 (by decide) (fun c_11 => ?_) (fun c_11 => ?_)
      · have fc_11 := le_f c_11
        subst hQ
        exact W.vret hx hb hr (fun t ht hW => ⟨⟨_, rfl, trivial, q3_of g hK ht hW⟩, g.2.2.1.F ht⟩) g.2.2.1.2.2 dX1_setCell_52
      · have fc_11 := nle_f c_11
        have b_12 : bd 0 14 x2_ := ltL fc_11 b_8 b_10 (by decide)
        have ty_3 := add_bd ey_3 b_2 b_12 (by decide)
        have b_13 : bd 0 39 y_3 := add_rg ty_3 b_2 b_12 (by decide)
        have b_14 : bd 1 15 y_9 := ltR fc_11 b_8 b_10 (by decide)
        refine lv_iload hx hb dX1_setCell_34 (lv_at hl 0 rfl) ?_
        refine lv_aload_n hx hb dX1_setCell_36 rfl (lv_at hl 1 rfl) ?_
        refine g_getu (lo := 100) (hi := 102) (C := RX1) (T := TX1) (N := 18) hx hb hts (mc_ inX1) hown hK g ma0_ ka0_ (by decide) rfl 2 (by decide) rfl (hts _ (List.mem_cons_of_mem _ t_737)) (fun _ h9 => h9) rfl dX1_setCell_37 (fun a_15 ma_15 ka_15 g => ?_)
        refine g_alenU hx hb hK g ma_15 (by have h9 := ka_15; omega) dX1_setCell_40 (fun x_16 ex_16 bx_16 => ?_)
        refine lv_icmp_ge (tgt := 52) hx hb dX1_setCell_41 (by decide) (fun c_17 => ?_) (fun c_17 => ?_)
        · have fc_17 := le_f c_17
          have b_18 : bd 3 39 x_16 := leL fc_17 bx_16 b_13 (by decide)
          have b_19 : bd 3 39 y_3 := leR fc_17 bx_16 b_13 (by decide)
          subst hQ
          exact W.vret hx hb hr (fun t ht hW => ⟨⟨_, rfl, trivial, q3_of g hK ht hW⟩, g.2.2.1.F ht⟩) g.2.2.1.2.2 dX1_setCell_52
        · have fc_17 := nle_f c_17
          refine lv_aload_n hx hb dX1_setCell_44 rfl (lv_at hl 1 rfl) ?_
          refine g_getk (C := RX1) (T := TX1) (N := 18) hx hb hts (mc_ inX1) hown hK g rfl 2 (by decide) rfl (hts _ (List.mem_cons_of_mem _ t_737)) (fun _ h9 => h9) 0 rfl dX1_setCell_45 ?_
          refine lv_iload hx hb dX1_setCell_48 (lv_at hl 0 rfl) ?_
          refine lv_iload_n hx hb dX1_setCell_50 rfl (lv_at hl 4 rfl) ?_
          refine g_iastU hx hb hK g ma_15 (by have h9 := ka_15; omega) (in_ok (by have h9 := b_13; unfold bd at h9; omega) (by omega)) (by decide) dX1_setCell_51 (fun f H locs hM_20 g => ?_)
          subst hQ
          exact W.vret hx hb hr (fun t ht hW => ⟨⟨_, rfl, trivial, q3_of g hK ht hW⟩, g.2.2.1.F ht⟩) g.2.2.1.2.2 dX1_setCell_52
  · have fc_4 := neq_f c_4
    have b_21 : bd 1 (-1) y6_ := neX fc_4 by6_ kb_0 (by decide)
    exact bd_no b_21 (by decide)
set_option maxHeartbeats 4000000 in
set_option maxRecDepth 100000 in
theorem r_X1_use_22 (l : Launch) (dC : Nat → ClassId) (dI : Nat → Nat → Nat) (L : List Nat) (kd : Nat → Nat) (tys : List (ClassId × FieldType)) (f0 : Nat → va_E) (sz : Nat) (hWT : WT L kd tys f0) (a0_ : Nat) (ma0_ : a0_ ∈ L) (ka0_ : kd a0_ = 1) (x1_ : Int32) (bx1_ : bd 20 25 x1_) (x2_ : Int32) (x3_ : Int32) (y0_ : Int32) (by0_ : bd 0 699 y0_) (y1_ : Int32) (by1_ : bd 1 2000 y1_) (y2_ : Int32) (by2_ : bd 0 0 y2_) (y3_ : Int32) (by3_ : bd 1 20 y3_) (y4_ : Int32) (by4_ : bd 1 1 y4_) (y5_ : Int32) (by5_ : bd 0 0 y5_) (y6_ : Int32) (by6_ : bd 0 0 y6_) (hc_ : crel x1_ x2_) (hfx : Fs L kd f0 [(1, 8, a0_, .int y0_), (1, 13, a0_, .int y1_), (1, 15, a0_, .int y2_), (1, 11, a0_, .int y3_), (1, 12, a0_, .int y4_), (1, 6, a0_, .int y5_), (1, 5, a0_, .int y6_)]) : Met l yX1_use (.code yX1_use cX1_use 4 none :: lw_g) ({ frames := 0, cells := 0, slots := 0, locals := 0 }) (va_Pc [.ref a0_, .int x1_, .int x2_, .int x3_] (P3 (dC, dI) L tys f0 sz)) (va_Qv (fun (f : Nat → va_E) => (True)) (Q3 (dC, dI) L kd tys [(1, 8), (1, 13)] [100, 101, 102, 116] f0 sz) (pA L sz)) 0 0 (pA L sz) := by
  refine Met.ofW (cc := cX1_use) (maxL := 4) (ret := none) (by decide) rfl ?_
  intro p e s m args below meth c s₁ B hml hv
  obtain ⟨rfl, hsz, hP, hK, hD0⟩ := hv
  have hx := B.exec
  have hb := B.bytes
  have hr := B.returns
  have hts := atoms_spec (ws := (.code yX1_use cX1_use 4 none :: lw_g)) B.pre
  have hown : s.vm.findClass RX1 = some m.cls := findClass_of_methodNamed B.named
  have hlocks := B.notSynchronized
  subst hsz
  have g : G3 (dC, dI) L kd tys s f0 [(1, 8), (1, 13)] [100, 101, 102, 116] f0 s.heap [] [(1, 8, a0_, .int y0_), (1, 13, a0_, .int y1_), (1, 15, a0_, .int y2_), (1, 11, a0_, .int y3_), (1, 12, a0_, .int y4_), (1, 6, a0_, .int y5_), (1, 5, a0_, .int y6_)] := G3.start hP hD0 hWT hfx
  have hl := lv_entry ([.ref a0_, .int x1_, .int x2_, .int x3_]) (n := 4) (Nat.le_of_ble_eq_true rfl)
  rw [lg_entry_eq]
  generalize (lg_sl ([.ref a0_, .int x1_, .int x2_, .int x3_]) ++ List.replicate (4 - (lg_sl ([.ref a0_, .int x1_, .int x2_, .int x3_])).length) Slot.unset).toArray = ls at hl ⊢
  have hl : lv_has ls 4 [(0, .ref a0_), (1, .int x1_), (2, .int x2_), (3, .int x3_)] := hl
  refine W_q (fun Q hQ => ?_)
  refine lv_iload_n hx hb dX1_use_0 rfl (lv_at hl 1 rfl) ?_
  refine lv_bipush (v := 20) hx hb dX1_use_1 (by decide) ?_
  have kb_20 : bd 20 20 (20 : Int32) := ⟨by decide, by decide⟩
  refine lv_icmp_ne (tgt := 24) hx hb dX1_use_3 (by decide) (fun c_1 => ?_) (fun c_1 => ?_)
  · have fc_1 := neq_f c_1
    have b_2 : bd 21 25 x1_ := neX fc_1 bx1_ kb_20 (by decide)
    refine lv_iload_n hx hb dX1_use_24 rfl (lv_at hl 1 rfl) ?_
    refine lv_bipush (v := 21) hx hb dX1_use_25 (by decide) ?_
    have kb_21 : bd 21 21 (21 : Int32) := ⟨by decide, by decide⟩
    refine lv_icmp_ne (tgt := 45) hx hb dX1_use_27 (by decide) (fun c_3 => ?_) (fun c_3 => ?_)
    · have fc_3 := neq_f c_3
      have b_4 : bd 22 25 x1_ := neX fc_3 b_2 kb_21 (by decide)
      refine lv_iload_n hx hb dX1_use_45 rfl (lv_at hl 1 rfl) ?_
      refine lv_bipush (v := 21) hx hb dX1_use_46 (by decide) ?_
      refine lv_icmp_ne (tgt := 74) hx hb dX1_use_48 (by decide) (fun c_5 => ?_) (fun c_5 => ?_)
      · have fc_5 := neq_f c_5
        refine lv_iload_n hx hb dX1_use_74 rfl (lv_at hl 1 rfl) ?_
        refine lv_bipush (v := 23) hx hb dX1_use_75 (by decide) ?_
        have kb_23 : bd 23 23 (23 : Int32) := ⟨by decide, by decide⟩
        refine lv_icmp_ne (tgt := 92) hx hb dX1_use_77 (by decide) (fun c_6 => ?_) (fun c_6 => ?_)
        · have fc_6 := neq_f c_6
          refine lv_iload_n hx hb dX1_use_92 rfl (lv_at hl 1 rfl) ?_
          refine lv_bipush (v := 24) hx hb dX1_use_93 (by decide) ?_
          have kb_24 : bd 24 24 (24 : Int32) := ⟨by decide, by decide⟩
          refine lv_icmp_ne (tgt := 102) hx hb dX1_use_95 (by decide) (fun c_7 => ?_) (fun c_7 => ?_)
          · have fc_7 := neq_f c_7
            refine lv_iload_n hx hb dX1_use_102 rfl (lv_at hl 1 rfl) ?_
            refine lv_bipush (v := 25) hx hb dX1_use_103 (by decide) ?_
            have kb_25 : bd 25 25 (25 : Int32) := ⟨by decide, by decide⟩
            refine lv_icmp_ne (tgt := 145) hx hb dX1_use_105 (by decide) (fun c_8 => ?_) (fun c_8 => ?_)
            · have fc_8 := neq_f c_8
              have b_9 : bd 22 24 x1_ := neX fc_8 b_4 kb_25 (by decide)
              subst hQ
              exact W.vret hx hb hr (fun t ht hW => ⟨⟨_, rfl, trivial, q3_of g hK ht hW⟩, g.2.2.1.F ht⟩) g.2.2.1.2.2 dX1_use_145
            · have fc_8 := eq_f c_8
              have b_10 : bd 25 25 x1_ := eqX fc_8 b_4 kb_25 (by decide)
              refine lv_iload_n hx hb dX1_use_108 rfl (lv_at hl 3 rfl) ?_
              have kb_0 : bd 0 0 (0 : Int32) := ⟨by decide, by decide⟩
              refine lv_if_eq (tgt := 145) hx hb dX1_use_109 (by decide) (fun c_11 => ?_) (fun c_11 => ?_)
              · have fc_11 := eq_f c_11
                have b_12 : bd 0 0 x3_ := eqX fc_11 (bdT x3_) kb_0 (by decide)
                subst hQ
                exact W.vret hx hb hr (fun t ht hW => ⟨⟨_, rfl, trivial, q3_of g hK ht hW⟩, g.2.2.1.F ht⟩) g.2.2.1.2.2 dX1_use_145
              · have fc_11 := neq_f c_11
                refine lv_aload_n hx hb dX1_use_112 rfl (lv_at hl 0 rfl) ?_
                refine g_getr (K := 100) (C := RX1) (T := TX1) (N := 18) hx hb hts (mc_ inX1) hown hK g ma0_ ka0_ (by decide) rfl 7 (by decide) rfl (hts _ (List.mem_cons_of_mem _ t_742)) (fun _ h9 => h9) rfl dX1_use_113 (fun a_13 ma_13 ka_13 g => ?_)
                refine lv_aload_n hx hb dX1_use_116 rfl (lv_at hl 0 rfl) ?_
                refine g_getk (C := RX1) (T := TX1) (N := 18) hx hb hts (mc_ inX1) hown hK g rfl 8 (by decide) rfl (hts _ (List.mem_cons_of_mem _ t_743)) (fun _ h9 => h9) 1 rfl dX1_use_117 ?_
                refine lv_iload_n hx hb dX1_use_120 rfl (lv_at hl 3 rfl) ?_
                refine lv_if_ne (tgt := 128) hx hb dX1_use_121 (by decide) (fun c_14 => ?_) (fun c_14 => ?_)
                · have fc_14 := neq_f c_14
                  refine lv_iconst (v := 1) hx hb dX1_use_128 (by decide) ?_
                  have kb_1 : bd 1 1 (1 : Int32) := ⟨by decide, by decide⟩
                  refine g_iast hx hb hK g ma_13 ka_13 (by decide) rfl (in_bd by0_ (by decide)) (bd_sub kb_1 (by decide)) (by decide) dX1_use_129 (fun f H locs hM_15 g => ?_)
                  refine lv_aload_n hx hb dX1_use_130 rfl (lv_at hl 0 rfl) ?_
                  refine lv_dup hx hb dX1_use_131 rfl ?_
                  refine g_getk (C := RX1) (T := TX1) (N := 18) hx hb hts (mc_ inX1) hown hK g rfl 8 (by decide) rfl (hts _ (List.mem_cons_of_mem _ t_743)) (fun _ h9 => h9) 1 rfl dX1_use_132 ?_
                  refine lv_iconst (v := 1) hx hb dX1_use_135 (by decide) ?_
                  refine lv_iadd hx hb dX1_use_136 ?_
                  refine lv_topi (fun y_16 ey_16 => ?_)
                  have ty_16 := add_bd ey_16 by0_ kb_1 (by decide)
                  have b_17 : bd 1 700 y_16 := add_rg ty_16 by0_ kb_1 (by decide)
                  refine g_put (C := RX1) (T := TX1) (N := 18) hx hb hts (mc_ inX1) tyX1 tyX1_ok nmX1 hown hK g ma0_ ka0_ (by decide) rfl 8 (by decide) (hts _ (List.mem_cons_of_mem _ t_743)) (fun _ h9 => h9) rfl rfl (okV_i (bd_sub b_17 (by decide))) rfl rfl (by decide) (Or.inr (Or.inl (by decide))) (fx' := [(1, 7, a0_, .ref a_13), (1, 13, a0_, .int y1_), (1, 15, a0_, .int y2_), (1, 11, a0_, .int y3_), (1, 12, a0_, .int y4_), (1, 6, a0_, .int y5_), (1, 5, a0_, .int y6_)]) rfl dX1_use_137 (fun f H locs hM_18 g => ?_)
                  refine lv_aload_n hx hb dX1_use_140 rfl (lv_at hl 0 rfl) ?_
                  refine lv_iload_n hx hb dX1_use_141 rfl (lv_at hl 2 rfl) ?_
                  refine g_put (C := RX1) (T := TX1) (N := 18) hx hb hts (mc_ inX1) tyX1 tyX1_ok nmX1 hown hK g ma0_ ka0_ (by decide) rfl 13 (by decide) (hts _ (List.mem_cons_of_mem _ t_748)) (fun _ h9 => h9) rfl rfl (okV_i (bdT x2_)) rfl rfl (by decide) (Or.inr (Or.inl (by decide))) (fx' := [(1, 8, a0_, .int y_16), (1, 7, a0_, .ref a_13), (1, 15, a0_, .int y2_), (1, 11, a0_, .int y3_), (1, 12, a0_, .int y4_), (1, 6, a0_, .int y5_), (1, 5, a0_, .int y6_)]) rfl dX1_use_142 (fun f H locs hM_19 g => ?_)
                  subst hQ
                  exact W.vret hx hb hr (fun t ht hW => ⟨⟨_, rfl, trivial, q3_of g hK ht hW⟩, g.2.2.1.F ht⟩) g.2.2.1.2.2 dX1_use_145
                · have fc_14 := eq_f c_14
                  exact absurd fc_14 fc_11
          · have fc_7 := eq_f c_7
            have b_20 : bd 24 24 x1_ := eqX fc_7 b_4 kb_24 (by decide)
            refine lv_iload_n hx hb dX1_use_98 rfl (lv_at hl 3 rfl) ?_
            have kb_0 : bd 0 0 (0 : Int32) := ⟨by decide, by decide⟩
            refine lv_if_eq (tgt := 112) hx hb dX1_use_99 (by decide) (fun c_21 => ?_) (fun c_21 => ?_)
            · have fc_21 := eq_f c_21
              have b_22 : bd 0 0 x3_ := eqX fc_21 (bdT x3_) kb_0 (by decide)
              refine lv_aload_n hx hb dX1_use_112 rfl (lv_at hl 0 rfl) ?_
              refine g_getr (K := 100) (C := RX1) (T := TX1) (N := 18) hx hb hts (mc_ inX1) hown hK g ma0_ ka0_ (by decide) rfl 7 (by decide) rfl (hts _ (List.mem_cons_of_mem _ t_742)) (fun _ h9 => h9) rfl dX1_use_113 (fun a_23 ma_23 ka_23 g => ?_)
              refine lv_aload_n hx hb dX1_use_116 rfl (lv_at hl 0 rfl) ?_
              refine g_getk (C := RX1) (T := TX1) (N := 18) hx hb hts (mc_ inX1) hown hK g rfl 8 (by decide) rfl (hts _ (List.mem_cons_of_mem _ t_743)) (fun _ h9 => h9) 1 rfl dX1_use_117 ?_
              refine lv_iload_n hx hb dX1_use_120 rfl (lv_at hl 3 rfl) ?_
              refine lv_if_ne (tgt := 128) hx hb dX1_use_121 (by decide) (fun c_24 => ?_) (fun c_24 => ?_)
              · have fc_24 := neq_f c_24
                have b_25 : bd 1 (-1) x3_ := neX fc_24 b_22 kb_0 (by decide)
                exact bd_no b_25 (by decide)
              · have fc_24 := eq_f c_24
                refine lv_iconst (v := 0) hx hb dX1_use_124 (by decide) ?_
                refine lv_goto (tgt := 129) hx hb dX1_use_125 (by decide) ?_
                refine g_iast hx hb hK g ma_23 ka_23 (by decide) rfl (in_bd by0_ (by decide)) (bd_sub kb_0 (by decide)) (by decide) dX1_use_129 (fun f H locs hM_26 g => ?_)
                refine lv_aload_n hx hb dX1_use_130 rfl (lv_at hl 0 rfl) ?_
                refine lv_dup hx hb dX1_use_131 rfl ?_
                refine g_getk (C := RX1) (T := TX1) (N := 18) hx hb hts (mc_ inX1) hown hK g rfl 8 (by decide) rfl (hts _ (List.mem_cons_of_mem _ t_743)) (fun _ h9 => h9) 1 rfl dX1_use_132 ?_
                refine lv_iconst (v := 1) hx hb dX1_use_135 (by decide) ?_
                have kb_1 : bd 1 1 (1 : Int32) := ⟨by decide, by decide⟩
                refine lv_iadd hx hb dX1_use_136 ?_
                refine lv_topi (fun y_27 ey_27 => ?_)
                have ty_27 := add_bd ey_27 by0_ kb_1 (by decide)
                have b_28 : bd 1 700 y_27 := add_rg ty_27 by0_ kb_1 (by decide)
                refine g_put (C := RX1) (T := TX1) (N := 18) hx hb hts (mc_ inX1) tyX1 tyX1_ok nmX1 hown hK g ma0_ ka0_ (by decide) rfl 8 (by decide) (hts _ (List.mem_cons_of_mem _ t_743)) (fun _ h9 => h9) rfl rfl (okV_i (bd_sub b_28 (by decide))) rfl rfl (by decide) (Or.inr (Or.inl (by decide))) (fx' := [(1, 7, a0_, .ref a_23), (1, 13, a0_, .int y1_), (1, 15, a0_, .int y2_), (1, 11, a0_, .int y3_), (1, 12, a0_, .int y4_), (1, 6, a0_, .int y5_), (1, 5, a0_, .int y6_)]) rfl dX1_use_137 (fun f H locs hM_29 g => ?_)
                refine lv_aload_n hx hb dX1_use_140 rfl (lv_at hl 0 rfl) ?_
                refine lv_iload_n hx hb dX1_use_141 rfl (lv_at hl 2 rfl) ?_
                refine g_put (C := RX1) (T := TX1) (N := 18) hx hb hts (mc_ inX1) tyX1 tyX1_ok nmX1 hown hK g ma0_ ka0_ (by decide) rfl 13 (by decide) (hts _ (List.mem_cons_of_mem _ t_748)) (fun _ h9 => h9) rfl rfl (okV_i (bdT x2_)) rfl rfl (by decide) (Or.inr (Or.inl (by decide))) (fx' := [(1, 8, a0_, .int y_27), (1, 7, a0_, .ref a_23), (1, 15, a0_, .int y2_), (1, 11, a0_, .int y3_), (1, 12, a0_, .int y4_), (1, 6, a0_, .int y5_), (1, 5, a0_, .int y6_)]) rfl dX1_use_142 (fun f H locs hM_30 g => ?_)
                subst hQ
                exact W.vret hx hb hr (fun t ht hW => ⟨⟨_, rfl, trivial, q3_of g hK ht hW⟩, g.2.2.1.F ht⟩) g.2.2.1.2.2 dX1_use_145
            · have fc_21 := neq_f c_21
              refine lv_iload_n hx hb dX1_use_102 rfl (lv_at hl 1 rfl) ?_
              refine lv_bipush (v := 25) hx hb dX1_use_103 (by decide) ?_
              have kb_25 : bd 25 25 (25 : Int32) := ⟨by decide, by decide⟩
              refine lv_icmp_ne (tgt := 145) hx hb dX1_use_105 (by decide) (fun c_31 => ?_) (fun c_31 => ?_)
              · have fc_31 := neq_f c_31
                subst hQ
                exact W.vret hx hb hr (fun t ht hW => ⟨⟨_, rfl, trivial, q3_of g hK ht hW⟩, g.2.2.1.F ht⟩) g.2.2.1.2.2 dX1_use_145
              · have fc_31 := eq_f c_31
                have b_32 : bd 25 24 x1_ := eqX fc_31 b_20 kb_25 (by decide)
                exact bd_no b_32 (by decide)
        · have fc_6 := eq_f c_6
          have b_33 : bd 23 23 x1_ := eqX fc_6 b_4 kb_23 (by decide)
          refine lv_iload_n hx hb dX1_use_80 rfl (lv_at hl 3 rfl) ?_
          have kb_0 : bd 0 0 (0 : Int32) := ⟨by decide, by decide⟩
          refine lv_if_ne (tgt := 92) hx hb dX1_use_81 (by decide) (fun c_34 => ?_) (fun c_34 => ?_)
          · have fc_34 := neq_f c_34
            refine lv_iload_n hx hb dX1_use_92 rfl (lv_at hl 1 rfl) ?_
            refine lv_bipush (v := 24) hx hb dX1_use_93 (by decide) ?_
            have kb_24 : bd 24 24 (24 : Int32) := ⟨by decide, by decide⟩
            refine lv_icmp_ne (tgt := 102) hx hb dX1_use_95 (by decide) (fun c_35 => ?_) (fun c_35 => ?_)
            · have fc_35 := neq_f c_35
              refine lv_iload_n hx hb dX1_use_102 rfl (lv_at hl 1 rfl) ?_
              refine lv_bipush (v := 25) hx hb dX1_use_103 (by decide) ?_
              have kb_25 : bd 25 25 (25 : Int32) := ⟨by decide, by decide⟩
              refine lv_icmp_ne (tgt := 145) hx hb dX1_use_105 (by decide) (fun c_36 => ?_) (fun c_36 => ?_)
              · have fc_36 := neq_f c_36
                subst hQ
                exact W.vret hx hb hr (fun t ht hW => ⟨⟨_, rfl, trivial, q3_of g hK ht hW⟩, g.2.2.1.F ht⟩) g.2.2.1.2.2 dX1_use_145
              · have fc_36 := eq_f c_36
                have b_37 : bd 25 23 x1_ := eqX fc_36 b_33 kb_25 (by decide)
                exact bd_no b_37 (by decide)
            · have fc_35 := eq_f c_35
              have b_38 : bd 24 23 x1_ := eqX fc_35 b_33 kb_24 (by decide)
              exact bd_no b_38 (by decide)
          · have fc_34 := eq_f c_34
            have b_39 : bd 0 0 x3_ := eqX fc_34 (bdT x3_) kb_0 (by decide)
            refine lv_aload_n hx hb dX1_use_84 rfl (lv_at hl 0 rfl) ?_
            refine lv_iload_n hx hb dX1_use_85 rfl (lv_at hl 2 rfl) ?_
            refine g_put (C := RX1) (T := TX1) (N := 18) hx hb hts (mc_ inX1) tyX1 tyX1_ok nmX1 hown hK g ma0_ ka0_ (by decide) rfl 13 (by decide) (hts _ (List.mem_cons_of_mem _ t_748)) (fun _ h9 => h9) rfl rfl (okV_i (bdT x2_)) rfl rfl (by decide) (Or.inr (Or.inl (by decide))) (fx' := [(1, 8, a0_, .int y0_), (1, 15, a0_, .int y2_), (1, 11, a0_, .int y3_), (1, 12, a0_, .int y4_), (1, 6, a0_, .int y5_), (1, 5, a0_, .int y6_)]) rfl dX1_use_86 (fun f H locs hM_40 g => ?_)
            refine lv_goto (tgt := 145) hx hb dX1_use_89 (by decide) ?_
            subst hQ
            exact W.vret hx hb hr (fun t ht hW => ⟨⟨_, rfl, trivial, q3_of g hK ht hW⟩, g.2.2.1.F ht⟩) g.2.2.1.2.2 dX1_use_145
      · have fc_5 := eq_f c_5
        exact absurd fc_5 fc_3
    · have fc_3 := eq_f c_3
      have b_41 : bd 21 21 x1_ := eqX fc_3 b_2 kb_21 (by decide)
      have b_42 : bd 0 400 x2_ := eqX rfl (bdT x2_) (cr400 hc_ b_41 (by decide)) (by decide)
      refine lv_aload_n hx hb dX1_use_30 rfl (lv_at hl 0 rfl) ?_
      refine g_getk (C := RX1) (T := TX1) (N := 18) hx hb hts (mc_ inX1) hown hK g rfl 5 (by decide) rfl (hts _ (List.mem_cons_of_mem _ t_740)) (fun _ h9 => h9) 6 rfl dX1_use_31 ?_
      have kb_0 : bd 0 0 (0 : Int32) := ⟨by decide, by decide⟩
      refine lv_if_eq (tgt := 45) hx hb dX1_use_34 (by decide) (fun c_43 => ?_) (fun c_43 => ?_)
      · have fc_43 := eq_f c_43
        refine lv_iload_n hx hb dX1_use_45 rfl (lv_at hl 1 rfl) ?_
        refine lv_bipush (v := 21) hx hb dX1_use_46 (by decide) ?_
        refine lv_icmp_ne (tgt := 74) hx hb dX1_use_48 (by decide) (fun c_44 => ?_) (fun c_44 => ?_)
        · have fc_44 := neq_f c_44
          have b_45 : bd 22 20 x1_ := neX fc_44 b_41 kb_21 (by decide)
          exact bd_no b_45 (by decide)
        · have fc_44 := eq_f c_44
          refine lv_iload_n hx hb dX1_use_51 rfl (lv_at hl 2 rfl) ?_
          refine lv_iconst (v := 4) hx hb dX1_use_52 (by decide) ?_
          have kb_4 : bd 4 4 (4 : Int32) := ⟨by decide, by decide⟩
          refine lv_ishr hx hb dX1_use_53 ?_
          refine lv_topi (fun y_46 ey_46 => ?_)
          have b_47 : bd 0 25 y_46 := shr_rg ey_46 b_42 kb_4 (by decide)
          refine lv_aload_n hx hb dX1_use_54 rfl (lv_at hl 0 rfl) ?_
          refine g_getu (lo := 100) (hi := 102) (C := RX1) (T := TX1) (N := 18) hx hb hts (mc_ inX1) hown hK g ma0_ ka0_ (by decide) rfl 2 (by decide) rfl (hts _ (List.mem_cons_of_mem _ t_737)) (fun _ h9 => h9) rfl dX1_use_55 (fun a_48 ma_48 ka_48 g => ?_)
          refine g_alenU hx hb hK g ma_48 (by have h9 := ka_48; omega) dX1_use_58 (fun x_49 ex_49 bx_49 => ?_)
          refine lv_icmp_ge (tgt := 74) hx hb dX1_use_59 (by decide) (fun c_50 => ?_) (fun c_50 => ?_)
          · have fc_50 := le_f c_50
            have b_51 : bd 3 25 x_49 := leL fc_50 bx_49 b_47 (by decide)
            have b_52 : bd 3 25 y_46 := leR fc_50 bx_49 b_47 (by decide)
            refine lv_iload_n hx hb dX1_use_74 rfl (lv_at hl 1 rfl) ?_
            refine lv_bipush (v := 23) hx hb dX1_use_75 (by decide) ?_
            have kb_23 : bd 23 23 (23 : Int32) := ⟨by decide, by decide⟩
            refine lv_icmp_ne (tgt := 92) hx hb dX1_use_77 (by decide) (fun c_53 => ?_) (fun c_53 => ?_)
            · have fc_53 := neq_f c_53
              refine lv_iload_n hx hb dX1_use_92 rfl (lv_at hl 1 rfl) ?_
              refine lv_bipush (v := 24) hx hb dX1_use_93 (by decide) ?_
              have kb_24 : bd 24 24 (24 : Int32) := ⟨by decide, by decide⟩
              refine lv_icmp_ne (tgt := 102) hx hb dX1_use_95 (by decide) (fun c_54 => ?_) (fun c_54 => ?_)
              · have fc_54 := neq_f c_54
                refine lv_iload_n hx hb dX1_use_102 rfl (lv_at hl 1 rfl) ?_
                refine lv_bipush (v := 25) hx hb dX1_use_103 (by decide) ?_
                have kb_25 : bd 25 25 (25 : Int32) := ⟨by decide, by decide⟩
                refine lv_icmp_ne (tgt := 145) hx hb dX1_use_105 (by decide) (fun c_55 => ?_) (fun c_55 => ?_)
                · have fc_55 := neq_f c_55
                  subst hQ
                  exact W.vret hx hb hr (fun t ht hW => ⟨⟨_, rfl, trivial, q3_of g hK ht hW⟩, g.2.2.1.F ht⟩) g.2.2.1.2.2 dX1_use_145
                · have fc_55 := eq_f c_55
                  have b_56 : bd 25 21 x1_ := eqX fc_55 b_41 kb_25 (by decide)
                  exact bd_no b_56 (by decide)
              · have fc_54 := eq_f c_54
                have b_57 : bd 24 21 x1_ := eqX fc_54 b_41 kb_24 (by decide)
                exact bd_no b_57 (by decide)
            · have fc_53 := eq_f c_53
              have b_58 : bd 23 21 x1_ := eqX fc_53 b_41 kb_23 (by decide)
              exact bd_no b_58 (by decide)
          · have fc_50 := nle_f c_50
            refine lv_aload_n hx hb dX1_use_62 rfl (lv_at hl 0 rfl) ?_
            refine g_getk (C := RX1) (T := TX1) (N := 18) hx hb hts (mc_ inX1) hown hK g rfl 2 (by decide) rfl (hts _ (List.mem_cons_of_mem _ t_737)) (fun _ h9 => h9) 0 rfl dX1_use_63 ?_
            refine lv_iload_n hx hb dX1_use_66 rfl (lv_at hl 2 rfl) ?_
            refine lv_iconst (v := 4) hx hb dX1_use_67 (by decide) ?_
            refine lv_ishr hx hb dX1_use_68 ?_
            refine lv_topi (fun y_59 ey_59 => ?_)
            obtain rfl : y_46 = y_59 := ey_46.trans ey_59.symm
            refine lv_iload_n hx hb dX1_use_69 rfl (lv_at hl 3 rfl) ?_
            refine g_iastU hx hb hK g ma_48 (by have h9 := ka_48; omega) (in_ok (by have h9 := b_47; unfold bd at h9; omega) (by omega)) (by decide) dX1_use_70 (fun f H locs hM_60 g => ?_)
            refine lv_goto (tgt := 145) hx hb dX1_use_71 (by decide) ?_
            subst hQ
            exact W.vret hx hb hr (fun t ht hW => ⟨⟨_, rfl, trivial, q3_of g hK ht hW⟩, g.2.2.1.F ht⟩) g.2.2.1.2.2 dX1_use_145
      · have fc_43 := neq_f c_43
        have b_61 : bd 1 (-1) y6_ := neX fc_43 by6_ kb_0 (by decide)
        exact bd_no b_61 (by decide)
  · have fc_1 := eq_f c_1
    have b_62 : bd 20 20 x1_ := eqX fc_1 bx1_ kb_20 (by decide)
    have b_63 : bd 0 10 x2_ := eqX rfl (bdT x2_) (cr10 hc_ b_62 (by decide)) (by decide)
    refine lv_aload_n hx hb dX1_use_6 rfl (lv_at hl 0 rfl) ?_
    refine g_getr (K := 116) (C := RX1) (T := TX1) (N := 18) hx hb hts (mc_ inX1) hown hK g ma0_ ka0_ (by decide) rfl 9 (by decide) rfl (hts _ (List.mem_cons_of_mem _ t_744)) (fun _ h9 => h9) rfl dX1_use_7 (fun a_64 ma_64 ka_64 g => ?_)
    refine lv_aload_n hx hb dX1_use_10 rfl (lv_at hl 0 rfl) ?_
    refine g_getk (C := RX1) (T := TX1) (N := 18) hx hb hts (mc_ inX1) hown hK g rfl 11 (by decide) rfl (hts _ (List.mem_cons_of_mem _ t_746)) (fun _ h9 => h9) 4 rfl dX1_use_11 ?_
    refine lv_bipush (v := 11) hx hb dX1_use_14 (by decide) ?_
    refine lv_imul hx hb dX1_use_16 ?_
    refine lv_topi (fun y_65 ey_65 => ?_)
    have ty_65 := mulc_bd ey_65 (c := 11) (by decide) by3_ (by decide)
    have b_66 : bd 11 220 y_65 := mulc_rg ty_65 by3_ (by decide)
    refine lv_iload_n hx hb dX1_use_17 rfl (lv_at hl 2 rfl) ?_
    refine lv_iadd hx hb dX1_use_18 ?_
    refine lv_topi (fun y_67 ey_67 => ?_)
    have ty_67 := add_bd ey_67 b_66 b_63 (by decide)
    have b_68 : bd 11 230 y_67 := add_rg ty_67 b_66 b_63 (by decide)
    refine lv_iload_n hx hb dX1_use_19 rfl (lv_at hl 3 rfl) ?_
    refine g_iast hx hb hK g ma_64 ka_64 (by decide) rfl (in_bd b_68 (by decide)) (bdT x3_) (by decide) dX1_use_20 (fun f H locs hM_69 g => ?_)
    refine lv_goto (tgt := 145) hx hb dX1_use_21 (by decide) ?_
    subst hQ
    exact W.vret hx hb hr (fun t ht hW => ⟨⟨_, rfl, trivial, q3_of g hK ht hW⟩, g.2.2.1.F ht⟩) g.2.2.1.2.2 dX1_use_145
set_option maxHeartbeats 4000000 in
set_option maxRecDepth 100000 in
theorem r_X1_leave_55 (l : Launch) (dC : Nat → ClassId) (dI : Nat → Nat → Nat) (L : List Nat) (kd : Nat → Nat) (tys : List (ClassId × FieldType)) (f0 : Nat → va_E) (sz : Nat) (hWT : WT L kd tys f0) (a0_ : Nat) (ma0_ : a0_ ∈ L) (ka0_ : kd a0_ = 1) (x1_ : Int32) (y0_ : Int32) (by0_ : bd 0 699 y0_) (y1_ : Int32) (by1_ : bd 1 2000 y1_) (y2_ : Int32) (by2_ : bd 0 0 y2_) (y3_ : Int32) (by3_ : bd 1 20 y3_) (y4_ : Int32) (by4_ : bd 1 1 y4_) (y5_ : Int32) (by5_ : bd 0 0 y5_) (y6_ : Int32) (by6_ : bd 0 0 y6_) (hfx : Fs L kd f0 [(1, 8, a0_, .int y0_), (1, 13, a0_, .int y1_), (1, 15, a0_, .int y2_), (1, 11, a0_, .int y3_), (1, 12, a0_, .int y4_), (1, 6, a0_, .int y5_), (1, 5, a0_, .int y6_)]) : Met l yX1_leave (.code yX1_leave cX1_leave 2 none :: lw_g) ({ frames := 0, cells := 0, slots := 0, locals := 0 }) (va_Pc [.ref a0_, .int x1_] (P3 (dC, dI) L tys f0 sz)) (va_Qv (fun (f : Nat → va_E) => (∃ z0_ : Int32, bd 1 19 z0_ ∧ ∃ z1_ : Int32, bd 0 1 z1_ ∧ Fs L kd f [(1, 11, a0_, .int z0_), (1, 15, a0_, .int z1_)])) (Q3 (dC, dI) L kd tys [(1, 8), (1, 11), (1, 13), (1, 15), (1, 16)] [100] f0 sz) (pA L sz)) 0 0 (pA L sz) := by
  refine Met.ofW (cc := cX1_leave) (maxL := 2) (ret := none) (by decide) rfl ?_
  intro p e s m args below meth c s₁ B hml hv
  obtain ⟨rfl, hsz, hP, hK, hD0⟩ := hv
  have hx := B.exec
  have hb := B.bytes
  have hr := B.returns
  have hts := atoms_spec (ws := (.code yX1_leave cX1_leave 2 none :: lw_g)) B.pre
  have hown : s.vm.findClass RX1 = some m.cls := findClass_of_methodNamed B.named
  have hlocks := B.notSynchronized
  subst hsz
  have g : G3 (dC, dI) L kd tys s f0 [(1, 8), (1, 11), (1, 13), (1, 15), (1, 16)] [100] f0 s.heap [] [(1, 8, a0_, .int y0_), (1, 13, a0_, .int y1_), (1, 15, a0_, .int y2_), (1, 11, a0_, .int y3_), (1, 12, a0_, .int y4_), (1, 6, a0_, .int y5_), (1, 5, a0_, .int y6_)] := G3.start hP hD0 hWT hfx
  have hl := lv_entry ([.ref a0_, .int x1_]) (n := 2) (Nat.le_of_ble_eq_true rfl)
  rw [lg_entry_eq]
  generalize (lg_sl ([.ref a0_, .int x1_]) ++ List.replicate (2 - (lg_sl ([.ref a0_, .int x1_])).length) Slot.unset).toArray = ls at hl ⊢
  have hl : lv_has ls 2 [(0, .ref a0_), (1, .int x1_)] := hl
  refine W_q (fun Q hQ => ?_)
  refine lv_aload_n hx hb dX1_leave_0 rfl (lv_at hl 0 rfl) ?_
  refine g_getk (C := RX1) (T := TX1) (N := 18) hx hb hts (mc_ inX1) hown hK g rfl 11 (by decide) rfl (hts _ (List.mem_cons_of_mem _ t_746)) (fun _ h9 => h9) 3 rfl dX1_leave_1 ?_
  refine lv_aload_n hx hb dX1_leave_4 rfl (lv_at hl 0 rfl) ?_
  refine g_getk (C := RX1) (T := TX1) (N := 18) hx hb hts (mc_ inX1) hown hK g rfl 12 (by decide) rfl (hts _ (List.mem_cons_of_mem _ t_747)) (fun _ h9 => h9) 4 rfl dX1_leave_5 ?_
  refine lv_icmp_ne (tgt := 22) hx hb dX1_leave_8 (by decide) (fun c_1 => ?_) (fun c_1 => ?_)
  · have fc_1 := neq_f c_1
    have b_2 : bd 2 20 y3_ := neX fc_1 by3_ by4_ (by decide)
    refine lv_aload_n hx hb dX1_leave_22 rfl (lv_at hl 0 rfl) ?_
    refine lv_aload_n hx hb dX1_leave_23 rfl (lv_at hl 0 rfl) ?_
    refine g_getr (K := 117) (C := RX1) (T := TX1) (N := 18) hx hb hts (mc_ inX1) hown hK g ma0_ ka0_ (by decide) rfl 10 (by decide) rfl (hts _ (List.mem_cons_of_mem _ t_745)) (fun _ h9 => h9) rfl dX1_leave_24 (fun a_3 ma_3 ka_3 g => ?_)
    refine lv_aload_n hx hb dX1_leave_27 rfl (lv_at hl 0 rfl) ?_
    refine g_getk (C := RX1) (T := TX1) (N := 18) hx hb hts (mc_ inX1) hown hK g rfl 11 (by decide) rfl (hts _ (List.mem_cons_of_mem _ t_746)) (fun _ h9 => h9) 4 rfl dX1_leave_28 ?_
    refine g_iald hx hb hK g ma_3 ka_3 (by decide) rfl (in_bd b_2 (by decide)) dX1_leave_31 (fun x_4 bx_4 cx_4 => ?_)
    refine g_put (C := RX1) (T := TX1) (N := 18) hx hb hts (mc_ inX1) tyX1 tyX1_ok nmX1 hown hK g ma0_ ka0_ (by decide) rfl 13 (by decide) (hts _ (List.mem_cons_of_mem _ t_748)) (fun _ h9 => h9) rfl rfl (okV_i (bdT x_4)) rfl rfl (by decide) (Or.inr (Or.inl (by decide))) (fx' := [(1, 10, a0_, .ref a_3), (1, 8, a0_, .int y0_), (1, 15, a0_, .int y2_), (1, 11, a0_, .int y3_), (1, 12, a0_, .int y4_), (1, 6, a0_, .int y5_), (1, 5, a0_, .int y6_)]) rfl dX1_leave_32 (fun f H locs hM_5 g => ?_)
    refine lv_aload_n hx hb dX1_leave_35 rfl (lv_at hl 0 rfl) ?_
    refine lv_dup hx hb dX1_leave_36 rfl ?_
    refine g_getk (C := RX1) (T := TX1) (N := 18) hx hb hts (mc_ inX1) hown hK g rfl 11 (by decide) rfl (hts _ (List.mem_cons_of_mem _ t_746)) (fun _ h9 => h9) 4 rfl dX1_leave_37 ?_
    refine lv_iconst (v := 1) hx hb dX1_leave_40 (by decide) ?_
    have kb_1 : bd 1 1 (1 : Int32) := ⟨by decide, by decide⟩
    refine lv_isub hx hb dX1_leave_41 ?_
    refine lv_topi (fun y_6 ey_6 => ?_)
    have ty_6 := sub_bd ey_6 b_2 kb_1 (by decide)
    have b_7 : bd 1 19 y_6 := sub_rg ty_6 b_2 kb_1 (by decide)
    refine g_put (C := RX1) (T := TX1) (N := 18) hx hb hts (mc_ inX1) tyX1 tyX1_ok nmX1 hown hK g ma0_ ka0_ (by decide) rfl 11 (by decide) (hts _ (List.mem_cons_of_mem _ t_746)) (fun _ h9 => h9) rfl rfl (okV_i (bd_sub b_7 (by decide))) rfl rfl (by decide) (Or.inr (Or.inl (by decide))) (fx' := [(1, 13, a0_, .int x_4), (1, 10, a0_, .ref a_3), (1, 8, a0_, .int y0_), (1, 15, a0_, .int y2_), (1, 12, a0_, .int y4_), (1, 6, a0_, .int y5_), (1, 5, a0_, .int y6_)]) rfl dX1_leave_42 (fun f H locs hM_8 g => ?_)
    refine lv_aload_n hx hb dX1_leave_45 rfl (lv_at hl 0 rfl) ?_
    refine g_getk (C := RX1) (T := TX1) (N := 18) hx hb hts (mc_ inX1) hown hK g rfl 8 (by decide) rfl (hts _ (List.mem_cons_of_mem _ t_743)) (fun _ h9 => h9) 3 rfl dX1_leave_46 ?_
    refine lv_sipush (v := 700) hx hb dX1_leave_49 (by decide) ?_
    have kb_700 : bd 700 700 (700 : Int32) := ⟨by decide, by decide⟩
    refine lv_icmp_ge (tgt := 75) hx hb dX1_leave_52 (by decide) (fun c_9 => ?_) (fun c_9 => ?_)
    · have fc_9 := le_f c_9
      have b_10 : bd 700 699 (700 : Int32) := leL fc_9 kb_700 by0_ (by decide)
      exact bd_no (eqX rfl b_10 kb_700 (lo := 700) (hi := 699) (by decide)) (by decide)
    · have fc_9 := nle_f c_9
      refine lv_aload_n hx hb dX1_leave_55 rfl (lv_at hl 0 rfl) ?_
      refine g_getr (K := 100) (C := RX1) (T := TX1) (N := 18) hx hb hts (mc_ inX1) hown hK g ma0_ ka0_ (by decide) rfl 7 (by decide) rfl (hts _ (List.mem_cons_of_mem _ t_742)) (fun _ h9 => h9) rfl dX1_leave_56 (fun a_11 ma_11 ka_11 g => ?_)
      refine lv_aload_n hx hb dX1_leave_59 rfl (lv_at hl 0 rfl) ?_
      refine g_getk (C := RX1) (T := TX1) (N := 18) hx hb hts (mc_ inX1) hown hK g rfl 8 (by decide) rfl (hts _ (List.mem_cons_of_mem _ t_743)) (fun _ h9 => h9) 4 rfl dX1_leave_60 ?_
      refine lv_iload_n hx hb dX1_leave_63 rfl (lv_at hl 1 rfl) ?_
      refine g_iast hx hb hK g ma_11 ka_11 (by decide) rfl (in_bd by0_ (by decide)) (bdT x1_) (by decide) dX1_leave_64 (fun f H locs hM_12 g => ?_)
      refine lv_aload_n hx hb dX1_leave_65 rfl (lv_at hl 0 rfl) ?_
      refine lv_dup hx hb dX1_leave_66 rfl ?_
      refine g_getk (C := RX1) (T := TX1) (N := 18) hx hb hts (mc_ inX1) hown hK g rfl 8 (by decide) rfl (hts _ (List.mem_cons_of_mem _ t_743)) (fun _ h9 => h9) 4 rfl dX1_leave_67 ?_
      refine lv_iconst (v := 1) hx hb dX1_leave_70 (by decide) ?_
      refine lv_iadd hx hb dX1_leave_71 ?_
      refine lv_topi (fun y_13 ey_13 => ?_)
      have ty_13 := add_bd ey_13 by0_ kb_1 (by decide)
      have b_14 : bd 1 700 y_13 := add_rg ty_13 by0_ kb_1 (by decide)
      refine g_put (C := RX1) (T := TX1) (N := 18) hx hb hts (mc_ inX1) tyX1 tyX1_ok nmX1 hown hK g ma0_ ka0_ (by decide) rfl 8 (by decide) (hts _ (List.mem_cons_of_mem _ t_743)) (fun _ h9 => h9) rfl rfl (okV_i (bd_sub b_14 (by decide))) rfl rfl (by decide) (Or.inr (Or.inl (by decide))) (fx' := [(1, 7, a0_, .ref a_11), (1, 11, a0_, .int y_6), (1, 13, a0_, .int x_4), (1, 10, a0_, .ref a_3), (1, 15, a0_, .int y2_), (1, 12, a0_, .int y4_), (1, 6, a0_, .int y5_), (1, 5, a0_, .int y6_)]) rfl dX1_leave_72 (fun f H locs hM_15 g => ?_)
      subst hQ
      exact W.vret hx hb hr (fun t ht hW => ⟨⟨_, rfl, ⟨y_6, b_7, y2_, (bd_sub by2_ (by decide)), (g.fcts [2, 5] rfl)⟩, q3_of g hK ht hW⟩, g.2.2.1.F ht⟩) g.2.2.1.2.2 dX1_leave_75
  · have fc_1 := eq_f c_1
    have b_16 : bd 1 1 y3_ := eqX fc_1 by3_ by4_ (by decide)
    refine lv_aload_n hx hb dX1_leave_11 rfl (lv_at hl 0 rfl) ?_
    refine lv_iload_n hx hb dX1_leave_12 rfl (lv_at hl 1 rfl) ?_
    refine g_put (C := RX1) (T := TX1) (N := 18) hx hb hts (mc_ inX1) tyX1 tyX1_ok nmX1 hown hK g ma0_ ka0_ (by decide) rfl 16 (by decide) (hts _ (List.mem_cons_of_mem _ t_752)) (fun _ h9 => h9) rfl rfl (okV_i (bdT x1_)) rfl rfl (by decide) (Or.inr (Or.inl (by decide))) (fx' := [(1, 8, a0_, .int y0_), (1, 13, a0_, .int y1_), (1, 15, a0_, .int y2_), (1, 11, a0_, .int y3_), (1, 12, a0_, .int y4_), (1, 6, a0_, .int y5_), (1, 5, a0_, .int y6_)]) rfl dX1_leave_13 (fun f H locs hM_17 g => ?_)
    refine lv_aload_n hx hb dX1_leave_16 rfl (lv_at hl 0 rfl) ?_
    refine lv_iconst (v := 1) hx hb dX1_leave_17 (by decide) ?_
    have kb_1 : bd 1 1 (1 : Int32) := ⟨by decide, by decide⟩
    refine g_put (C := RX1) (T := TX1) (N := 18) hx hb hts (mc_ inX1) tyX1 tyX1_ok nmX1 hown hK g ma0_ ka0_ (by decide) rfl 15 (by decide) (hts _ (List.mem_cons_of_mem _ t_750)) (fun _ h9 => h9) rfl rfl (okV_i (bd_sub kb_1 (by decide))) rfl rfl (by decide) (Or.inr (Or.inl (by decide))) (fx' := [(1, 16, a0_, .int x1_), (1, 8, a0_, .int y0_), (1, 13, a0_, .int y1_), (1, 11, a0_, .int y3_), (1, 12, a0_, .int y4_), (1, 6, a0_, .int y5_), (1, 5, a0_, .int y6_)]) rfl dX1_leave_18 (fun f H locs hM_18 g => ?_)
    subst hQ
    exact W.vret hx hb hr (fun t ht hW => ⟨⟨_, rfl, ⟨y3_, (bd_sub b_16 (by decide)), 1, (bd_sub kb_1 (by decide)), (g.fcts [4, 0] rfl)⟩, q3_of g hK ht hW⟩, g.2.2.1.F ht⟩) g.2.2.1.2.2 dX1_leave_21
set_option maxHeartbeats 4000000 in
set_option maxRecDepth 100000 in
theorem r_X1_leave_56 (l : Launch) (dC : Nat → ClassId) (dI : Nat → Nat → Nat) (L : List Nat) (kd : Nat → Nat) (tys : List (ClassId × FieldType)) (f0 : Nat → va_E) (sz : Nat) (hWT : WT L kd tys f0) (a0_ : Nat) (ma0_ : a0_ ∈ L) (ka0_ : kd a0_ = 1) (x1_ : Int32) (bx1_ : bd 0 0 x1_) (y0_ : Int32) (by0_ : bd 1 2000 y0_) (y1_ : Int32) (by1_ : bd 0 0 y1_) (y2_ : Int32) (by2_ : bd 1 20 y2_) (y3_ : Int32) (by3_ : bd 1 1 y3_) (y4_ : Int32) (by4_ : bd 0 0 y4_) (y5_ : Int32) (by5_ : bd 0 0 y5_) (hfx : Fs L kd f0 [(1, 13, a0_, .int y0_), (1, 15, a0_, .int y1_), (1, 11, a0_, .int y2_), (1, 12, a0_, .int y3_), (1, 6, a0_, .int y4_), (1, 5, a0_, .int y5_)]) : Met l yX1_leave (.code yX1_leave cX1_leave 2 none :: lw_g) ({ frames := 0, cells := 0, slots := 0, locals := 0 }) (va_Pc [.ref a0_, .int x1_] (P3 (dC, dI) L tys f0 sz)) (va_Qv (fun (f : Nat → va_E) => (∃ z0_ : Int32, bd 1 19 z0_ ∧ ∃ z1_ : Int32, bd 0 1 z1_ ∧ Fs L kd f [(1, 11, a0_, .int z0_), (1, 15, a0_, .int z1_)])) (Q3 (dC, dI) L kd tys [(1, 8), (1, 11), (1, 13), (1, 15), (1, 16)] [100] f0 sz) (pA L sz)) 0 0 (pA L sz) := by
  refine Met.ofW (cc := cX1_leave) (maxL := 2) (ret := none) (by decide) rfl ?_
  intro p e s m args below meth c s₁ B hml hv
  obtain ⟨rfl, hsz, hP, hK, hD0⟩ := hv
  have hx := B.exec
  have hb := B.bytes
  have hr := B.returns
  have hts := atoms_spec (ws := (.code yX1_leave cX1_leave 2 none :: lw_g)) B.pre
  have hown : s.vm.findClass RX1 = some m.cls := findClass_of_methodNamed B.named
  have hlocks := B.notSynchronized
  subst hsz
  have g : G3 (dC, dI) L kd tys s f0 [(1, 8), (1, 11), (1, 13), (1, 15), (1, 16)] [100] f0 s.heap [] [(1, 13, a0_, .int y0_), (1, 15, a0_, .int y1_), (1, 11, a0_, .int y2_), (1, 12, a0_, .int y3_), (1, 6, a0_, .int y4_), (1, 5, a0_, .int y5_)] := G3.start hP hD0 hWT hfx
  have hl := lv_entry ([.ref a0_, .int x1_]) (n := 2) (Nat.le_of_ble_eq_true rfl)
  rw [lg_entry_eq]
  generalize (lg_sl ([.ref a0_, .int x1_]) ++ List.replicate (2 - (lg_sl ([.ref a0_, .int x1_])).length) Slot.unset).toArray = ls at hl ⊢
  have hl : lv_has ls 2 [(0, .ref a0_), (1, .int x1_)] := hl
  refine W_q (fun Q hQ => ?_)
  refine lv_aload_n hx hb dX1_leave_0 rfl (lv_at hl 0 rfl) ?_
  refine g_getk (C := RX1) (T := TX1) (N := 18) hx hb hts (mc_ inX1) hown hK g rfl 11 (by decide) rfl (hts _ (List.mem_cons_of_mem _ t_746)) (fun _ h9 => h9) 2 rfl dX1_leave_1 ?_
  refine lv_aload_n hx hb dX1_leave_4 rfl (lv_at hl 0 rfl) ?_
  refine g_getk (C := RX1) (T := TX1) (N := 18) hx hb hts (mc_ inX1) hown hK g rfl 12 (by decide) rfl (hts _ (List.mem_cons_of_mem _ t_747)) (fun _ h9 => h9) 3 rfl dX1_leave_5 ?_
  refine lv_icmp_ne (tgt := 22) hx hb dX1_leave_8 (by decide) (fun c_1 => ?_) (fun c_1 => ?_)
  · have fc_1 := neq_f c_1
    have b_2 : bd 2 20 y2_ := neX fc_1 by2_ by3_ (by decide)
    refine lv_aload_n hx hb dX1_leave_22 rfl (lv_at hl 0 rfl) ?_
    refine lv_aload_n hx hb dX1_leave_23 rfl (lv_at hl 0 rfl) ?_
    refine g_getr (K := 117) (C := RX1) (T := TX1) (N := 18) hx hb hts (mc_ inX1) hown hK g ma0_ ka0_ (by decide) rfl 10 (by decide) rfl (hts _ (List.mem_cons_of_mem _ t_745)) (fun _ h9 => h9) rfl dX1_leave_24 (fun a_3 ma_3 ka_3 g => ?_)
    refine lv_aload_n hx hb dX1_leave_27 rfl (lv_at hl 0 rfl) ?_
    refine g_getk (C := RX1) (T := TX1) (N := 18) hx hb hts (mc_ inX1) hown hK g rfl 11 (by decide) rfl (hts _ (List.mem_cons_of_mem _ t_746)) (fun _ h9 => h9) 3 rfl dX1_leave_28 ?_
    refine g_iald hx hb hK g ma_3 ka_3 (by decide) rfl (in_bd b_2 (by decide)) dX1_leave_31 (fun x_4 bx_4 cx_4 => ?_)
    refine g_put (C := RX1) (T := TX1) (N := 18) hx hb hts (mc_ inX1) tyX1 tyX1_ok nmX1 hown hK g ma0_ ka0_ (by decide) rfl 13 (by decide) (hts _ (List.mem_cons_of_mem _ t_748)) (fun _ h9 => h9) rfl rfl (okV_i (bdT x_4)) rfl rfl (by decide) (Or.inr (Or.inl (by decide))) (fx' := [(1, 10, a0_, .ref a_3), (1, 15, a0_, .int y1_), (1, 11, a0_, .int y2_), (1, 12, a0_, .int y3_), (1, 6, a0_, .int y4_), (1, 5, a0_, .int y5_)]) rfl dX1_leave_32 (fun f H locs hM_5 g => ?_)
    refine lv_aload_n hx hb dX1_leave_35 rfl (lv_at hl 0 rfl) ?_
    refine lv_dup hx hb dX1_leave_36 rfl ?_
    refine g_getk (C := RX1) (T := TX1) (N := 18) hx hb hts (mc_ inX1) hown hK g rfl 11 (by decide) rfl (hts _ (List.mem_cons_of_mem _ t_746)) (fun _ h9 => h9) 3 rfl dX1_leave_37 ?_
    refine lv_iconst (v := 1) hx hb dX1_leave_40 (by decide) ?_
    have kb_1 : bd 1 1 (1 : Int32) := ⟨by decide, by decide⟩
    refine lv_isub hx hb dX1_leave_41 ?_
    refine lv_topi (fun y_6 ey_6 => ?_)
    have ty_6 := sub_bd ey_6 b_2 kb_1 (by decide)
    have b_7 : bd 1 19 y_6 := sub_rg ty_6 b_2 kb_1 (by decide)
    refine g_put (C := RX1) (T := TX1) (N := 18) hx hb hts (mc_ inX1) tyX1 tyX1_ok nmX1 hown hK g ma0_ ka0_ (by decide) rfl 11 (by decide) (hts _ (List.mem_cons_of_mem _ t_746)) (fun _ h9 => h9) rfl rfl (okV_i (bd_sub b_7 (by decide))) rfl rfl (by decide) (Or.inr (Or.inl (by decide))) (fx' := [(1, 13, a0_, .int x_4), (1, 10, a0_, .ref a_3), (1, 15, a0_, .int y1_), (1, 12, a0_, .int y3_), (1, 6, a0_, .int y4_), (1, 5, a0_, .int y5_)]) rfl dX1_leave_42 (fun f H locs hM_8 g => ?_)
    refine lv_aload_n hx hb dX1_leave_45 rfl (lv_at hl 0 rfl) ?_
    refine g_geti (C := RX1) (T := TX1) (N := 18) hx hb hts (mc_ inX1) hown hK g ma0_ ka0_ (by decide) rfl 8 (by decide) rfl (hts _ (List.mem_cons_of_mem _ t_743)) (fun _ h9 => h9) rfl dX1_leave_46 (fun x_9 bx_9 g => ?_)
    refine lv_sipush (v := 700) hx hb dX1_leave_49 (by decide) ?_
    have kb_700 : bd 700 700 (700 : Int32) := ⟨by decide, by decide⟩
    refine lv_icmp_ge (tgt := 75) hx hb dX1_leave_52 (by decide) (fun c_10 => ?_) (fun c_10 => ?_)
    · have fc_10 := le_f c_10
      have b_11 : bd 700 700 x_9 := leR fc_10 kb_700 bx_9 (by decide)
      subst hQ
      exact W.vret hx hb hr (fun t ht hW => ⟨⟨_, rfl, ⟨y_6, b_7, y1_, (bd_sub by1_ (by decide)), (g.fcts [1, 4] rfl)⟩, q3_of g hK ht hW⟩, g.2.2.1.F ht⟩) g.2.2.1.2.2 dX1_leave_75
    · have fc_10 := nle_f c_10
      have b_12 : bd 0 699 x_9 := ltL fc_10 bx_9 kb_700 (by decide)
      refine lv_aload_n hx hb dX1_leave_55 rfl (lv_at hl 0 rfl) ?_
      refine g_getr (K := 100) (C := RX1) (T := TX1) (N := 18) hx hb hts (mc_ inX1) hown hK g ma0_ ka0_ (by decide) rfl 7 (by decide) rfl (hts _ (List.mem_cons_of_mem _ t_742)) (fun _ h9 => h9) rfl dX1_leave_56 (fun a_13 ma_13 ka_13 g => ?_)
      refine lv_aload_n hx hb dX1_leave_59 rfl (lv_at hl 0 rfl) ?_
      refine g_getk (C := RX1) (T := TX1) (N := 18) hx hb hts (mc_ inX1) hown hK g rfl 8 (by decide) rfl (hts _ (List.mem_cons_of_mem _ t_743)) (fun _ h9 => h9) 1 rfl dX1_leave_60 ?_
      refine lv_iload_n hx hb dX1_leave_63 rfl (lv_at hl 1 rfl) ?_
      refine g_iast hx hb hK g ma_13 ka_13 (by decide) rfl (in_bd b_12 (by decide)) (bd_sub bx1_ (by decide)) (by decide) dX1_leave_64 (fun f H locs hM_14 g => ?_)
      refine lv_aload_n hx hb dX1_leave_65 rfl (lv_at hl 0 rfl) ?_
      refine lv_dup hx hb dX1_leave_66 rfl ?_
      refine g_getk (C := RX1) (T := TX1) (N := 18) hx hb hts (mc_ inX1) hown hK g rfl 8 (by decide) rfl (hts _ (List.mem_cons_of_mem _ t_743)) (fun _ h9 => h9) 1 rfl dX1_leave_67 ?_
      refine lv_iconst (v := 1) hx hb dX1_leave_70 (by decide) ?_
      refine lv_iadd hx hb dX1_leave_71 ?_
      refine lv_topi (fun y_15 ey_15 => ?_)
      have ty_15 := add_bd ey_15 b_12 kb_1 (by decide)
      have b_16 : bd 1 700 y_15 := add_rg ty_15 b_12 kb_1 (by decide)
      refine g_put (C := RX1) (T := TX1) (N := 18) hx hb hts (mc_ inX1) tyX1 tyX1_ok nmX1 hown hK g ma0_ ka0_ (by decide) rfl 8 (by decide) (hts _ (List.mem_cons_of_mem _ t_743)) (fun _ h9 => h9) rfl rfl (okV_i (bd_sub b_16 (by decide))) rfl rfl (by decide) (Or.inr (Or.inl (by decide))) (fx' := [(1, 7, a0_, .ref a_13), (1, 11, a0_, .int y_6), (1, 13, a0_, .int x_4), (1, 10, a0_, .ref a_3), (1, 15, a0_, .int y1_), (1, 12, a0_, .int y3_), (1, 6, a0_, .int y4_), (1, 5, a0_, .int y5_)]) rfl dX1_leave_72 (fun f H locs hM_17 g => ?_)
      subst hQ
      exact W.vret hx hb hr (fun t ht hW => ⟨⟨_, rfl, ⟨y_6, b_7, y1_, (bd_sub by1_ (by decide)), (g.fcts [2, 5] rfl)⟩, q3_of g hK ht hW⟩, g.2.2.1.F ht⟩) g.2.2.1.2.2 dX1_leave_75
  · have fc_1 := eq_f c_1
    have b_18 : bd 1 1 y2_ := eqX fc_1 by2_ by3_ (by decide)
    refine lv_aload_n hx hb dX1_leave_11 rfl (lv_at hl 0 rfl) ?_
    refine lv_iload_n hx hb dX1_leave_12 rfl (lv_at hl 1 rfl) ?_
    refine g_put (C := RX1) (T := TX1) (N := 18) hx hb hts (mc_ inX1) tyX1 tyX1_ok nmX1 hown hK g ma0_ ka0_ (by decide) rfl 16 (by decide) (hts _ (List.mem_cons_of_mem _ t_752)) (fun _ h9 => h9) rfl rfl (okV_i (bd_sub bx1_ (by decide))) rfl rfl (by decide) (Or.inr (Or.inl (by decide))) (fx' := [(1, 13, a0_, .int y0_), (1, 15, a0_, .int y1_), (1, 11, a0_, .int y2_), (1, 12, a0_, .int y3_), (1, 6, a0_, .int y4_), (1, 5, a0_, .int y5_)]) rfl dX1_leave_13 (fun f H locs hM_19 g => ?_)
    refine lv_aload_n hx hb dX1_leave_16 rfl (lv_at hl 0 rfl) ?_
    refine lv_iconst (v := 1) hx hb dX1_leave_17 (by decide) ?_
    have kb_1 : bd 1 1 (1 : Int32) := ⟨by decide, by decide⟩
    refine g_put (C := RX1) (T := TX1) (N := 18) hx hb hts (mc_ inX1) tyX1 tyX1_ok nmX1 hown hK g ma0_ ka0_ (by decide) rfl 15 (by decide) (hts _ (List.mem_cons_of_mem _ t_750)) (fun _ h9 => h9) rfl rfl (okV_i (bd_sub kb_1 (by decide))) rfl rfl (by decide) (Or.inr (Or.inl (by decide))) (fx' := [(1, 16, a0_, .int x1_), (1, 13, a0_, .int y0_), (1, 11, a0_, .int y2_), (1, 12, a0_, .int y3_), (1, 6, a0_, .int y4_), (1, 5, a0_, .int y5_)]) rfl dX1_leave_18 (fun f H locs hM_20 g => ?_)
    subst hQ
    exact W.vret hx hb hr (fun t ht hW => ⟨⟨_, rfl, ⟨y2_, (bd_sub b_18 (by decide)), 1, (bd_sub kb_1 (by decide)), (g.fcts [3, 0] rfl)⟩, q3_of g hK ht hW⟩, g.2.2.1.F ht⟩) g.2.2.1.2.2 dX1_leave_21
set_option maxHeartbeats 4000000 in
set_option maxRecDepth 100000 in
theorem r_X1_enter_14 (l : Launch) (dC : Nat → ClassId) (dI : Nat → Nat → Nat) (L : List Nat) (kd : Nat → Nat) (tys : List (ClassId × FieldType)) (f0 : Nat → va_E) (sz : Nat) (hWT : WT L kd tys f0) (a0_ : Nat) (ma0_ : a0_ ∈ L) (ka0_ : kd a0_ = 1) (x1_ : Int32) (q0_ : Nat) (mq0_ : q0_ ∈ L) (kq0_ : kd q0_ = 7) (y0_ : Int32) (by0_ : bd 1 20 y0_) (hfx : Fs L kd f0 [(1, 0, a0_, .ref q0_), (1, 11, a0_, .int y0_)]) : Met l yX1_enter (.code yX1_enter cX1_enter 4 none :: lw_g) ({ frames := 0, cells := 0, slots := 0, locals := 0 }) (va_Pc [.ref a0_, .int x1_] (P3 (dC, dI) L tys f0 sz)) (va_Qv (fun (f : Nat → va_E) => (∃ z0_ : Int32, bd 1 20 z0_ ∧ Fs L kd f [(1, 11, a0_, .int z0_)])) (Q3 (dC, dI) L kd tys [(1, 8), (1, 11), (1, 13), (1, 15)] [116, 117] f0 sz) (pA L sz)) 0 0 (pA L sz) := by
  refine Met.ofW (cc := cX1_enter) (maxL := 4) (ret := none) (by decide) rfl ?_
  intro p e s m args below meth c s₁ B hml hv
  obtain ⟨rfl, hsz, hP, hK, hD0⟩ := hv
  have hx := B.exec
  have hb := B.bytes
  have hr := B.returns
  have hts := atoms_spec (ws := (.code yX1_enter cX1_enter 4 none :: lw_g)) B.pre
  have hown : s.vm.findClass RX1 = some m.cls := findClass_of_methodNamed B.named
  have hlocks := B.notSynchronized
  subst hsz
  have g : G3 (dC, dI) L kd tys s f0 [(1, 8), (1, 11), (1, 13), (1, 15)] [116, 117] f0 s.heap [] [(1, 0, a0_, .ref q0_), (1, 11, a0_, .int y0_)] := G3.start hP hD0 hWT hfx
  have hl := lv_entry ([.ref a0_, .int x1_]) (n := 4) (Nat.le_of_ble_eq_true rfl)
  rw [lg_entry_eq]
  generalize (lg_sl ([.ref a0_, .int x1_]) ++ List.replicate (4 - (lg_sl ([.ref a0_, .int x1_])).length) Slot.unset).toArray = ls at hl ⊢
  have hl : lv_has ls 4 [(0, .ref a0_), (1, .int x1_)] := hl
  refine W_q (fun Q hQ => ?_)
  refine lv_aload_n hx hb dX1_enter_0 rfl (lv_at hl 0 rfl) ?_
  refine g_getk (C := RX1) (T := TX1) (N := 18) hx hb hts (mc_ inX1) hown hK g rfl 11 (by decide) rfl (hts _ (List.mem_cons_of_mem _ t_746)) (fun _ h9 => h9) 1 rfl dX1_enter_1 ?_
  refine lv_bipush (v := 20) hx hb dX1_enter_4 (by decide) ?_
  have kb_20 : bd 20 20 (20 : Int32) := ⟨by decide, by decide⟩
  refine lv_icmp_ge (tgt := 24) hx hb dX1_enter_6 (by decide) (fun c_1 => ?_) (fun c_1 => ?_)
  · have fc_1 := le_f c_1
    have b_2 : bd 20 20 y0_ := leR fc_1 kb_20 by0_ (by decide)
    refine lv_aload_n hx hb dX1_enter_24 rfl (lv_at hl 0 rfl) ?_
    refine lv_iconst (v := 3) hx hb dX1_enter_25 (by decide) ?_
    have kb_3 : bd 3 3 (3 : Int32) := ⟨by decide, by decide⟩
    refine g_put (C := RX1) (T := TX1) (N := 18) hx hb hts (mc_ inX1) tyX1 tyX1_ok nmX1 hown hK g ma0_ ka0_ (by decide) rfl 15 (by decide) (hts _ (List.mem_cons_of_mem _ t_750)) (fun _ h9 => h9) rfl rfl (okV_i (bd_sub kb_3 (by decide))) rfl rfl (by decide) (Or.inr (Or.inl (by decide))) (fx' := [(1, 0, a0_, .ref q0_), (1, 11, a0_, .int y0_)]) rfl dX1_enter_26 (fun f H locs hM_3 g => ?_)
    subst hQ
    exact W.vret hx hb hr (fun t ht hW => ⟨⟨_, rfl, ⟨y0_, (bd_sub b_2 (by decide)), (g.fcts [2] rfl)⟩, q3_of g hK ht hW⟩, g.2.2.1.F ht⟩) g.2.2.1.2.2 dX1_enter_29
  · have fc_1 := nle_f c_1
    have b_4 : bd 1 19 y0_ := ltL fc_1 by0_ kb_20 (by decide)
    refine lv_iload_n hx hb dX1_enter_9 rfl (lv_at hl 1 rfl) ?_
    have kb_0 : bd 0 0 (0 : Int32) := ⟨by decide, by decide⟩
    refine lv_if_lt (tgt := 24) hx hb dX1_enter_10 (by decide) (fun c_5 => ?_) (fun c_5 => ?_)
    · have fc_5 := lt_f c_5
      have b_6 : bd (-2147483648) (-1) x1_ := ltL fc_5 (bdT x1_) kb_0 (by decide)
      refine lv_aload_n hx hb dX1_enter_24 rfl (lv_at hl 0 rfl) ?_
      refine lv_iconst (v := 3) hx hb dX1_enter_25 (by decide) ?_
      have kb_3 : bd 3 3 (3 : Int32) := ⟨by decide, by decide⟩
      refine g_put (C := RX1) (T := TX1) (N := 18) hx hb hts (mc_ inX1) tyX1 tyX1_ok nmX1 hown hK g ma0_ ka0_ (by decide) rfl 15 (by decide) (hts _ (List.mem_cons_of_mem _ t_750)) (fun _ h9 => h9) rfl rfl (okV_i (bd_sub kb_3 (by decide))) rfl rfl (by decide) (Or.inr (Or.inl (by decide))) (fx' := [(1, 0, a0_, .ref q0_), (1, 11, a0_, .int y0_)]) rfl dX1_enter_26 (fun f H locs hM_7 g => ?_)
      subst hQ
      exact W.vret hx hb hr (fun t ht hW => ⟨⟨_, rfl, ⟨y0_, (bd_sub b_4 (by decide)), (g.fcts [2] rfl)⟩, q3_of g hK ht hW⟩, g.2.2.1.F ht⟩) g.2.2.1.2.2 dX1_enter_29
    · have fc_5 := nlt_f c_5
      have b_8 : bd 0 2147483647 x1_ := leR fc_5 kb_0 (bdT x1_) (by decide)
      refine lv_iload_n hx hb dX1_enter_13 rfl (lv_at hl 1 rfl) ?_
      refine lv_aload_n hx hb dX1_enter_14 rfl (lv_at hl 0 rfl) ?_
      refine g_getk (C := RX1) (T := TX1) (N := 18) hx hb hts (mc_ inX1) hown hK g rfl 0 (by decide) rfl (hts _ (List.mem_cons_of_mem _ t_735)) (fun _ h9 => h9) 0 rfl dX1_enter_15 ?_
      refine g_geti (C := RX7) (T := TX7) (N := 19) hx hb hts (mc_ inX7) hown hK g mq0_ kq0_ (by decide) rfl 3 (by decide) rfl (hts _ (List.mem_cons_of_mem _ t_637)) (fun _ h9 => h9) rfl dX1_enter_18 (fun x_9 bx_9 g => ?_)
      refine lv_icmp_lt (tgt := 30) hx hb dX1_enter_21 (by decide) (fun c_10 => ?_) (fun c_10 => ?_)
      · have fc_10 := lt_f c_10
        have b_11 : bd 0 95 x1_ := ltL fc_10 b_8 bx_9 (by decide)
        have b_12 : bd 1 96 x_9 := ltR fc_10 b_8 bx_9 (by decide)
        refine lv_aload_n hx hb dX1_enter_30 rfl (lv_at hl 0 rfl) ?_
        refine g_getk (C := RX1) (T := TX1) (N := 18) hx hb hts (mc_ inX1) hown hK g rfl 0 (by decide) rfl (hts _ (List.mem_cons_of_mem _ t_735)) (fun _ h9 => h9) 1 rfl dX1_enter_31 ?_
        refine g_getr (K := 137) (C := RX7) (T := TX7) (N := 19) hx hb hts (mc_ inX7) hown hK g mq0_ kq0_ (by decide) rfl 2 (by decide) rfl (hts _ (List.mem_cons_of_mem _ t_635)) (fun _ h9 => h9) rfl dX1_enter_34 (fun a_13 ma_13 ka_13 g => ?_)
        refine lv_iload_n hx hb dX1_enter_37 rfl (lv_at hl 1 rfl) ?_
        refine g_aald hx hb hK g ma_13 ka_13 (by decide) rfl (by decide) (in_bd b_11 (by decide)) dX1_enter_38 (fun a_14 ma_14 ua_14 wa_14 => ?_)
        have ka_14 : kd a_14 = 6 := by omega
        refine lv_astore_n (lv' := [(2, .ref a_14), (0, .ref a0_), (1, .int x1_)]) hx hb dX1_enter_39 rfl hl (by decide) rfl (fun ls hl => ?_)
        refine lv_aload_n hx hb dX1_enter_40 rfl (lv_at hl 1 rfl) ?_
        refine lv_dup hx hb dX1_enter_41 rfl ?_
        refine g_getk (C := RX1) (T := TX1) (N := 18) hx hb hts (mc_ inX1) hown hK g rfl 11 (by decide) rfl (hts _ (List.mem_cons_of_mem _ t_746)) (fun _ h9 => h9) 3 rfl dX1_enter_42 ?_
        refine lv_iconst (v := 1) hx hb dX1_enter_45 (by decide) ?_
        have kb_1 : bd 1 1 (1 : Int32) := ⟨by decide, by decide⟩
        refine lv_iadd hx hb dX1_enter_46 ?_
        refine lv_topi (fun y_15 ey_15 => ?_)
        have ty_15 := add_bd ey_15 b_4 kb_1 (by decide)
        have b_16 : bd 2 20 y_15 := add_rg ty_15 b_4 kb_1 (by decide)
        refine g_put (C := RX1) (T := TX1) (N := 18) hx hb hts (mc_ inX1) tyX1 tyX1_ok nmX1 hown hK g ma0_ ka0_ (by decide) rfl 11 (by decide) (hts _ (List.mem_cons_of_mem _ t_746)) (fun _ h9 => h9) rfl rfl (okV_i (bd_sub b_16 (by decide))) rfl rfl (by decide) (Or.inr (Or.inl (by decide))) (fx' := [(7, 2, q0_, .ref a_13), (7, 3, q0_, .int x_9), (1, 0, a0_, .ref q0_)]) rfl dX1_enter_47 (fun f H locs hM_17 g => ?_)
        refine lv_aload_n hx hb dX1_enter_50 rfl (lv_at hl 1 rfl) ?_
        refine g_getr (K := 117) (C := RX1) (T := TX1) (N := 18) hx hb hts (mc_ inX1) hown hK g ma0_ ka0_ (by decide) rfl 10 (by decide) rfl (hts _ (List.mem_cons_of_mem _ t_745)) (fun _ h9 => h9) rfl dX1_enter_51 (fun a_18 ma_18 ka_18 g => ?_)
        refine lv_aload_n hx hb dX1_enter_54 rfl (lv_at hl 1 rfl) ?_
        refine g_getk (C := RX1) (T := TX1) (N := 18) hx hb hts (mc_ inX1) hown hK g rfl 11 (by decide) rfl (hts _ (List.mem_cons_of_mem _ t_746)) (fun _ h9 => h9) 1 rfl dX1_enter_55 ?_
        refine lv_aload_n hx hb dX1_enter_58 rfl (lv_at hl 1 rfl) ?_
        refine g_geti (C := RX1) (T := TX1) (N := 18) hx hb hts (mc_ inX1) hown hK g ma0_ ka0_ (by decide) rfl 13 (by decide) rfl (hts _ (List.mem_cons_of_mem _ t_748)) (fun _ h9 => h9) rfl dX1_enter_59 (fun x_19 bx_19 g => ?_)
        refine g_iast hx hb hK g ma_18 ka_18 (by decide) rfl (in_bd b_16 (by decide)) (bdT x_19) (by decide) dX1_enter_62 (fun f H locs hM_20 g => ?_)
        refine lv_aload_n hx hb dX1_enter_63 rfl (lv_at hl 1 rfl) ?_
        refine lv_aload_n hx hb dX1_enter_64 rfl (lv_at hl 0 rfl) ?_
        refine g_geti (C := RX6) (T := TX6) (N := 13) hx hb hts (mc_ inX6) hown hK g ma_14 ka_14 (by decide) rfl 8 (by decide) rfl (hts _ (List.mem_cons_of_mem _ t_582)) (fun _ h9 => h9) rfl dX1_enter_65 (fun x_21 bx_21 g => ?_)
        refine g_put (C := RX1) (T := TX1) (N := 18) hx hb hts (mc_ inX1) tyX1 tyX1_ok nmX1 hown hK g ma0_ ka0_ (by decide) rfl 13 (by decide) (hts _ (List.mem_cons_of_mem _ t_748)) (fun _ h9 => h9) rfl rfl (okV_i (bdT x_21)) rfl rfl (by decide) (Or.inr (Or.inl (by decide))) (fx' := [(6, 8, a_14, .int x_21), (1, 10, a0_, .ref a_18), (1, 11, a0_, .int y_15), (7, 2, q0_, .ref a_13), (7, 3, q0_, .int x_9), (1, 0, a0_, .ref q0_)]) rfl dX1_enter_68 (fun f H locs hM_22 g => ?_)
        refine lv_aload_n hx hb dX1_enter_71 rfl (lv_at hl 1 rfl) ?_
        refine lv_aload_n hx hb dX1_enter_72 rfl (lv_at hl 1 rfl) ?_
        refine g_geti (C := RX1) (T := TX1) (N := 18) hx hb hts (mc_ inX1) hown hK g ma0_ ka0_ (by decide) rfl 8 (by decide) rfl (hts _ (List.mem_cons_of_mem _ t_743)) (fun _ h9 => h9) rfl dX1_enter_73 (fun x_23 bx_23 g => ?_)
        refine lv_aload_n hx hb dX1_enter_76 rfl (lv_at hl 0 rfl) ?_
        refine g_geti (C := RX6) (T := TX6) (N := 13) hx hb hts (mc_ inX6) hown hK g ma_14 ka_14 (by decide) rfl 3 (by decide) rfl (hts _ (List.mem_cons_of_mem _ t_567)) (fun _ h9 => h9) rfl dX1_enter_77 (fun x_24 bx_24 g => ?_)
        refine lv_icmp_le (tgt := 95) hx hb dX1_enter_80 (by decide) (fun c_25 => ?_) (fun c_25 => ?_)
        · have fc_25 := le_f c_25
          have b_26 : bd 0 3 x_23 := leL fc_25 bx_23 bx_24 (by decide)
          refine lv_iconst (v := 0) hx hb dX1_enter_95 (by decide) ?_
          refine g_put (C := RX1) (T := TX1) (N := 18) hx hb hts (mc_ inX1) tyX1 tyX1_ok nmX1 hown hK g ma0_ ka0_ (by decide) rfl 8 (by decide) (hts _ (List.mem_cons_of_mem _ t_743)) (fun _ h9 => h9) rfl rfl (okV_i (bd_sub kb_0 (by decide))) rfl rfl (by decide) (Or.inr (Or.inl (by decide))) (fx' := [(6, 3, a_14, .int x_24), (1, 13, a0_, .int x_21), (6, 8, a_14, .int x_21), (1, 10, a0_, .ref a_18), (1, 11, a0_, .int y_15), (7, 2, q0_, .ref a_13), (7, 3, q0_, .int x_9), (1, 0, a0_, .ref q0_)]) rfl dX1_enter_96 (fun f H locs hM_27 g => ?_)
          refine lv_iconst (v := 0) hx hb dX1_enter_99 (by decide) ?_
          refine lv_istore_n (lv' := [(3, .int 0), (2, .ref a_14), (0, .ref a0_), (1, .int x1_)]) hx hb dX1_enter_100 rfl hl (by decide) rfl (fun ls hl => ?_)
          have loop_28 : ∀ (n : Nat) (v101_3 : Int32), bd 0 3 v101_3 → (3 - v101_3.toInt < (n : Int)) → ∀ (f : Nat → va_E) (H : Heap) (locs : List Loc) (ls : Array Slot), G3 (dC, dI) L kd tys s f0 [(1, 8), (1, 11), (1, 13), (1, 15)] [116, 117] f H locs [(1, 8, a0_, .int 0), (6, 3, a_14, .int x_24), (1, 13, a0_, .int x_21), (6, 8, a_14, .int x_21), (1, 10, a0_, .ref a_18), (1, 11, a0_, .int y_15), (7, 2, q0_, .ref a_13), (7, 3, q0_, .int x_9), (1, 0, a0_, .ref q0_)] → lv_has ls 4 [(3, .int v101_3), (2, .ref a_14), (0, .ref a0_), (1, .int x1_)] → W p l e ({ frames := 0, cells := 0, slots := 0, locals := 0 } : Room) s m [.ref a0_, .int x1_].toArray below meth c H locs 0 0 Q (F0 m 101 ls []) := by
            intro n101
            induction n101 with
            | zero =>
              intro v101_3 bv101_3 hm101 f H locs ls g  hl
              exact absurd hm101 (by have h9_v101_3 := bv101_3; unfold bd at h9_v101_3; omega)
            | succ n101 ih101 =>
              intro v101_3 bv101_3 hm101 f H locs ls g  hl
              refine lv_iload_n hx hb dX1_enter_101 rfl (lv_at hl 0 rfl) ?_
              refine lv_aload_n hx hb dX1_enter_102 rfl (lv_at hl 1 rfl) ?_
              refine g_getk (C := RX6) (T := TX6) (N := 13) hx hb hts (mc_ inX6) hown hK g rfl 3 (by decide) rfl (hts _ (List.mem_cons_of_mem _ t_567)) (fun _ h9 => h9) 1 rfl dX1_enter_103 ?_
              refine lv_icmp_ge (tgt := 140) hx hb dX1_enter_106 (by decide) (fun c_29 => ?_) (fun c_29 => ?_)
              · have fc_29 := le_f c_29
                subst hQ
                exact W.vret hx hb hr (fun t ht hW => ⟨⟨_, rfl, ⟨y_15, (bd_sub b_16 (by decide)), (g.fcts [5] rfl)⟩, q3_of g hK ht hW⟩, g.2.2.1.F ht⟩) g.2.2.1.2.2 dX1_enter_140
              · have fc_29 := nle_f c_29
                have b_30 : bd 0 2 v101_3 := ltL fc_29 bv101_3 bx_24 (by decide)
                have b_31 : bd 1 3 x_24 := ltR fc_29 bv101_3 bx_24 (by decide)
                refine lv_aload_n hx hb dX1_enter_109 rfl (lv_at hl 2 rfl) ?_
                refine g_getr (K := 116) (C := RX1) (T := TX1) (N := 18) hx hb hts (mc_ inX1) hown hK g ma0_ ka0_ (by decide) rfl 9 (by decide) rfl (hts _ (List.mem_cons_of_mem _ t_744)) (fun _ h9 => h9) rfl dX1_enter_110 (fun a_32 ma_32 ka_32 g => ?_)
                refine lv_aload_n hx hb dX1_enter_113 rfl (lv_at hl 2 rfl) ?_
                refine g_getk (C := RX1) (T := TX1) (N := 18) hx hb hts (mc_ inX1) hown hK g rfl 11 (by decide) rfl (hts _ (List.mem_cons_of_mem _ t_746)) (fun _ h9 => h9) 6 rfl dX1_enter_114 ?_
                refine lv_bipush (v := 11) hx hb dX1_enter_117 (by decide) ?_
                refine lv_imul hx hb dX1_enter_119 ?_
                refine lv_topi (fun y_33 ey_33 => ?_)
                have ty_33 := mulc_bd ey_33 (c := 11) (by decide) b_16 (by decide)
                have b_34 : bd 22 220 y_33 := mulc_rg ty_33 b_16 (by decide)
                refine lv_iload_n hx hb dX1_enter_120 rfl (lv_at hl 0 rfl) ?_
                refine lv_iadd hx hb dX1_enter_121 ?_
                refine lv_topi (fun y_35 ey_35 => ?_)
                have ty_35 := add_bd ey_35 b_34 b_30 (by decide)
                have b_36 : bd 22 222 y_35 := add_rg ty_35 b_34 b_30 (by decide)
                refine lv_aload_n hx hb dX1_enter_122 rfl (lv_at hl 2 rfl) ?_
                refine g_getr (K := 100) (C := RX1) (T := TX1) (N := 18) hx hb hts (mc_ inX1) hown hK g ma0_ ka0_ (by decide) rfl 7 (by decide) rfl (hts _ (List.mem_cons_of_mem _ t_742)) (fun _ h9 => h9) rfl dX1_enter_123 (fun a_37 ma_37 ka_37 g => ?_)
                refine lv_aload_n hx hb dX1_enter_126 rfl (lv_at hl 2 rfl) ?_
                refine g_getk (C := RX1) (T := TX1) (N := 18) hx hb hts (mc_ inX1) hown hK g rfl 8 (by decide) rfl (hts _ (List.mem_cons_of_mem _ t_743)) (fun _ h9 => h9) 2 rfl dX1_enter_127 ?_
                refine lv_iload_n hx hb dX1_enter_130 rfl (lv_at hl 0 rfl) ?_
                refine lv_iadd hx hb dX1_enter_131 ?_
                refine lv_topi (fun y_38 ey_38 => ?_)
                have ty_38 := add_bd ey_38 kb_0 b_30 (by decide)
                have b_39 : bd 0 2 y_38 := add_rg ty_38 kb_0 b_30 (by decide)
                refine g_iald hx hb hK g ma_37 ka_37 (by decide) rfl (in_bd b_39 (by decide)) dX1_enter_132 (fun x_40 bx_40 cx_40 => ?_)
                refine g_iast hx hb hK g ma_32 ka_32 (by decide) rfl (in_bd b_36 (by decide)) (bdT x_40) (by decide) dX1_enter_133 (fun f H locs hM_41 g => ?_)
                obtain ⟨y_42, ey_42⟩ : ∃ z : Int32, z = v101_3 + 1 := ⟨_, rfl⟩
                refine lv_iinc (v := y_42) (lv' := [(3, .int y_42), (2, .ref a_14), (0, .ref a0_), (1, .int x1_)]) hx hb dX1_enter_134 hl (k := 0) rfl (by rw [ey_42]; rfl) (by decide) rfl (fun ls hl => ?_)
                have ty_42 := add_bd ey_42 b_30 kb_1 (by decide)
                have b_43 : bd 1 3 y_42 := add_rg ty_42 b_30 kb_1 (by decide)
                refine lv_goto (tgt := 101) hx hb dX1_enter_137 (by decide) ?_
                have hl9 := lv_sub hl [0, 1, 2, 3] (by rfl : lv_pick [(3, .int y_42), (2, .ref a_14), (0, .ref a0_), (1, .int x1_)] [0, 1, 2, 3] = [(3, .int y_42), (2, .ref a_14), (0, .ref a0_), (1, .int x1_)])
                have g9 := g.sub (fx' := [(1, 8, a0_, .int 0), (6, 3, a_14, .int x_24), (1, 13, a0_, .int x_21), (6, 8, a_14, .int x_21), (1, 10, a0_, .ref a_18), (1, 11, a0_, .int y_15), (7, 2, q0_, .ref a_13), (7, 3, q0_, .int x_9), (1, 0, a0_, .ref q0_)]) [2, 3, 4, 5, 6, 7, 8, 9, 10] rfl
                exact ih101  y_42 (bd_sub b_43 (by decide)) (by have h9_0 := b_43; unfold bd at h9_0; have h9_1 := bv101_3; unfold bd at h9_1; have h9_2 := kb_0; unfold bd at h9_2; have h9_3 := kb_1; unfold bd at h9_3; have h9_4 := kb_20; unfold bd at h9_4; omega) _ _ _ _ g9  hl9
          have hl9 := lv_sub hl [0, 1, 2, 3] (by rfl : lv_pick [(3, .int 0), (2, .ref a_14), (0, .ref a0_), (1, .int x1_)] [0, 1, 2, 3] = [(3, .int 0), (2, .ref a_14), (0, .ref a0_), (1, .int x1_)])
          have g9 := g.sub (fx' := [(1, 8, a0_, .int 0), (6, 3, a_14, .int x_24), (1, 13, a0_, .int x_21), (6, 8, a_14, .int x_21), (1, 10, a0_, .ref a_18), (1, 11, a0_, .int y_15), (7, 2, q0_, .ref a_13), (7, 3, q0_, .int x_9), (1, 0, a0_, .ref q0_)]) [0, 1, 2, 3, 4, 5, 6, 7, 8] rfl
          exact loop_28 (9) 0 (bd_sub kb_0 (by decide)) (by have h9_0 := kb_0; unfold bd at h9_0; have h9_1 := kb_1; unfold bd at h9_1; have h9_2 := kb_20; unfold bd at h9_2; omega) _ _ _ _ g9  hl9
        · have fc_25 := nle_f c_25
          have b_44 : bd 1 700 x_23 := ltR fc_25 bx_24 bx_23 (by decide)
          refine lv_aload_n hx hb dX1_enter_83 rfl (lv_at hl 1 rfl) ?_
          refine g_getk (C := RX1) (T := TX1) (N := 18) hx hb hts (mc_ inX1) hown hK g rfl 8 (by decide) rfl (hts _ (List.mem_cons_of_mem _ t_743)) (fun _ h9 => h9) 1 rfl dX1_enter_84 ?_
          refine lv_aload_n hx hb dX1_enter_87 rfl (lv_at hl 0 rfl) ?_
          refine g_getk (C := RX6) (T := TX6) (N := 13) hx hb hts (mc_ inX6) hown hK g rfl 3 (by decide) rfl (hts _ (List.mem_cons_of_mem _ t_567)) (fun _ h9 => h9) 0 rfl dX1_enter_88 ?_
          refine lv_isub hx hb dX1_enter_91 ?_
          refine lv_topi (fun y_45 ey_45 => ?_)
          have ty_45 := sub_bd ey_45 b_44 bx_24 (by decide)
          have b_46 : bd 1 700 y_45 := sub_rel1 ty_45 fc_25 b_44 bx_24 (by decide)
          refine lv_goto (tgt := 96) hx hb dX1_enter_92 (by decide) ?_
          refine g_put (C := RX1) (T := TX1) (N := 18) hx hb hts (mc_ inX1) tyX1 tyX1_ok nmX1 hown hK g ma0_ ka0_ (by decide) rfl 8 (by decide) (hts _ (List.mem_cons_of_mem _ t_743)) (fun _ h9 => h9) rfl rfl (okV_i (bd_sub b_46 (by decide))) rfl rfl (by decide) (Or.inr (Or.inl (by decide))) (fx' := [(6, 3, a_14, .int x_24), (1, 13, a0_, .int x_21), (6, 8, a_14, .int x_21), (1, 10, a0_, .ref a_18), (1, 11, a0_, .int y_15), (7, 2, q0_, .ref a_13), (7, 3, q0_, .int x_9), (1, 0, a0_, .ref q0_)]) rfl dX1_enter_96 (fun f H locs hM_47 g => ?_)
          refine lv_iconst (v := 0) hx hb dX1_enter_99 (by decide) ?_
          refine lv_istore_n (lv' := [(3, .int 0), (2, .ref a_14), (0, .ref a0_), (1, .int x1_)]) hx hb dX1_enter_100 rfl hl (by decide) rfl (fun ls hl => ?_)
          have loop_48 : ∀ (n : Nat) (v101_3 : Int32), bd 0 3 v101_3 → (3 - v101_3.toInt < (n : Int)) → ∀ (f : Nat → va_E) (H : Heap) (locs : List Loc) (ls : Array Slot), G3 (dC, dI) L kd tys s f0 [(1, 8), (1, 11), (1, 13), (1, 15)] [116, 117] f H locs [(1, 8, a0_, .int y_45), (6, 3, a_14, .int x_24), (1, 13, a0_, .int x_21), (6, 8, a_14, .int x_21), (1, 10, a0_, .ref a_18), (1, 11, a0_, .int y_15), (7, 2, q0_, .ref a_13), (7, 3, q0_, .int x_9), (1, 0, a0_, .ref q0_)] → lv_has ls 4 [(3, .int v101_3), (2, .ref a_14), (0, .ref a0_), (1, .int x1_)] → W p l e ({ frames := 0, cells := 0, slots := 0, locals := 0 } : Room) s m [.ref a0_, .int x1_].toArray below meth c H locs 0 0 Q (F0 m 101 ls []) := by
            intro n101
            induction n101 with
            | zero =>
              intro v101_3 bv101_3 hm101 f H locs ls g  hl
              exact absurd hm101 (by have h9_v101_3 := bv101_3; unfold bd at h9_v101_3; omega)
            | succ n101 ih101 =>
              intro v101_3 bv101_3 hm101 f H locs ls g  hl
              refine lv_iload_n hx hb dX1_enter_101 rfl (lv_at hl 0 rfl) ?_
              refine lv_aload_n hx hb dX1_enter_102 rfl (lv_at hl 1 rfl) ?_
              refine g_getk (C := RX6) (T := TX6) (N := 13) hx hb hts (mc_ inX6) hown hK g rfl 3 (by decide) rfl (hts _ (List.mem_cons_of_mem _ t_567)) (fun _ h9 => h9) 1 rfl dX1_enter_103 ?_
              refine lv_icmp_ge (tgt := 140) hx hb dX1_enter_106 (by decide) (fun c_49 => ?_) (fun c_49 => ?_)
              · have fc_49 := le_f c_49
                subst hQ
                exact W.vret hx hb hr (fun t ht hW => ⟨⟨_, rfl, ⟨y_15, (bd_sub b_16 (by decide)), (g.fcts [5] rfl)⟩, q3_of g hK ht hW⟩, g.2.2.1.F ht⟩) g.2.2.1.2.2 dX1_enter_140
              · have fc_49 := nle_f c_49
                have b_50 : bd 0 2 v101_3 := ltL fc_49 bv101_3 bx_24 (by decide)
                have b_51 : bd 1 3 x_24 := ltR fc_49 bv101_3 bx_24 (by decide)
                refine lv_aload_n hx hb dX1_enter_109 rfl (lv_at hl 2 rfl) ?_
                refine g_getr (K := 116) (C := RX1) (T := TX1) (N := 18) hx hb hts (mc_ inX1) hown hK g ma0_ ka0_ (by decide) rfl 9 (by decide) rfl (hts _ (List.mem_cons_of_mem _ t_744)) (fun _ h9 => h9) rfl dX1_enter_110 (fun a_52 ma_52 ka_52 g => ?_)
                refine lv_aload_n hx hb dX1_enter_113 rfl (lv_at hl 2 rfl) ?_
                refine g_getk (C := RX1) (T := TX1) (N := 18) hx hb hts (mc_ inX1) hown hK g rfl 11 (by decide) rfl (hts _ (List.mem_cons_of_mem _ t_746)) (fun _ h9 => h9) 6 rfl dX1_enter_114 ?_
                refine lv_bipush (v := 11) hx hb dX1_enter_117 (by decide) ?_
                refine lv_imul hx hb dX1_enter_119 ?_
                refine lv_topi (fun y_53 ey_53 => ?_)
                have ty_53 := mulc_bd ey_53 (c := 11) (by decide) b_16 (by decide)
                have b_54 : bd 22 220 y_53 := mulc_rg ty_53 b_16 (by decide)
                refine lv_iload_n hx hb dX1_enter_120 rfl (lv_at hl 0 rfl) ?_
                refine lv_iadd hx hb dX1_enter_121 ?_
                refine lv_topi (fun y_55 ey_55 => ?_)
                have ty_55 := add_bd ey_55 b_54 b_50 (by decide)
                have b_56 : bd 22 222 y_55 := add_rg ty_55 b_54 b_50 (by decide)
                refine lv_aload_n hx hb dX1_enter_122 rfl (lv_at hl 2 rfl) ?_
                refine g_getr (K := 100) (C := RX1) (T := TX1) (N := 18) hx hb hts (mc_ inX1) hown hK g ma0_ ka0_ (by decide) rfl 7 (by decide) rfl (hts _ (List.mem_cons_of_mem _ t_742)) (fun _ h9 => h9) rfl dX1_enter_123 (fun a_57 ma_57 ka_57 g => ?_)
                refine lv_aload_n hx hb dX1_enter_126 rfl (lv_at hl 2 rfl) ?_
                refine g_getk (C := RX1) (T := TX1) (N := 18) hx hb hts (mc_ inX1) hown hK g rfl 8 (by decide) rfl (hts _ (List.mem_cons_of_mem _ t_743)) (fun _ h9 => h9) 2 rfl dX1_enter_127 ?_
                refine lv_iload_n hx hb dX1_enter_130 rfl (lv_at hl 0 rfl) ?_
                refine lv_iadd hx hb dX1_enter_131 ?_
                refine lv_topi (fun y_58 ey_58 => ?_)
                have ty_58 := add_bd ey_58 b_46 b_50 (by decide)
                have b_59 : bd 1 702 y_58 := add_rg ty_58 b_46 b_50 (by decide)
                refine g_iald hx hb hK g ma_57 ka_57 (by decide) rfl (in_ok (by have h9_0 := b_50; unfold bd at h9_0; have h9_1 := b_11; unfold bd at h9_1; have h9_2 := b_44; unfold bd at h9_2; have h9_3 := b_51; unfold bd at h9_3; have h9_4 := b_12; unfold bd at h9_4; have h9_5 := b_4; unfold bd at h9_5; have h9_6 := b_16; unfold bd at h9_6; have h9_7 := b_46; unfold bd at h9_7; have h9_8 := b_54; unfold bd at h9_8; have h9_9 := b_56; unfold bd at h9_9; have h9_10 := b_59; unfold bd at h9_10; omega) (by have h9_0 := b_50; unfold bd at h9_0; have h9_1 := b_11; unfold bd at h9_1; have h9_2 := b_44; unfold bd at h9_2; have h9_3 := b_51; unfold bd at h9_3; have h9_4 := b_12; unfold bd at h9_4; have h9_5 := b_4; unfold bd at h9_5; have h9_6 := b_16; unfold bd at h9_6; have h9_7 := b_46; unfold bd at h9_7; have h9_8 := b_54; unfold bd at h9_8; have h9_9 := b_56; unfold bd at h9_9; have h9_10 := b_59; unfold bd at h9_10; omega)) dX1_enter_132 (fun x_60 bx_60 cx_60 => ?_)
                refine g_iast hx hb hK g ma_52 ka_52 (by decide) rfl (in_bd b_56 (by decide)) (bdT x_60) (by decide) dX1_enter_133 (fun f H locs hM_61 g => ?_)
                obtain ⟨y_62, ey_62⟩ : ∃ z : Int32, z = v101_3 + 1 := ⟨_, rfl⟩
                refine lv_iinc (v := y_62) (lv' := [(3, .int y_62), (2, .ref a_14), (0, .ref a0_), (1, .int x1_)]) hx hb dX1_enter_134 hl (k := 0) rfl (by rw [ey_62]; rfl) (by decide) rfl (fun ls hl => ?_)
                have ty_62 := add_bd ey_62 b_50 kb_1 (by decide)
                have b_63 : bd 1 3 y_62 := add_rg ty_62 b_50 kb_1 (by decide)
                refine lv_goto (tgt := 101) hx hb dX1_enter_137 (by decide) ?_
                have hl9 := lv_sub hl [0, 1, 2, 3] (by rfl : lv_pick [(3, .int y_62), (2, .ref a_14), (0, .ref a0_), (1, .int x1_)] [0, 1, 2, 3] = [(3, .int y_62), (2, .ref a_14), (0, .ref a0_), (1, .int x1_)])
                have g9 := g.sub (fx' := [(1, 8, a0_, .int y_45), (6, 3, a_14, .int x_24), (1, 13, a0_, .int x_21), (6, 8, a_14, .int x_21), (1, 10, a0_, .ref a_18), (1, 11, a0_, .int y_15), (7, 2, q0_, .ref a_13), (7, 3, q0_, .int x_9), (1, 0, a0_, .ref q0_)]) [2, 3, 4, 5, 6, 7, 8, 9, 10] rfl
                exact ih101  y_62 (bd_sub b_63 (by decide)) (by have h9_0 := b_63; unfold bd at h9_0; have h9_1 := bv101_3; unfold bd at h9_1; have h9_2 := kb_0; unfold bd at h9_2; have h9_3 := kb_1; unfold bd at h9_3; have h9_4 := kb_20; unfold bd at h9_4; omega) _ _ _ _ g9  hl9
          have hl9 := lv_sub hl [0, 1, 2, 3] (by rfl : lv_pick [(3, .int 0), (2, .ref a_14), (0, .ref a0_), (1, .int x1_)] [0, 1, 2, 3] = [(3, .int 0), (2, .ref a_14), (0, .ref a0_), (1, .int x1_)])
          have g9 := g.sub (fx' := [(1, 8, a0_, .int y_45), (6, 3, a_14, .int x_24), (1, 13, a0_, .int x_21), (6, 8, a_14, .int x_21), (1, 10, a0_, .ref a_18), (1, 11, a0_, .int y_15), (7, 2, q0_, .ref a_13), (7, 3, q0_, .int x_9), (1, 0, a0_, .ref q0_)]) [0, 1, 2, 3, 4, 5, 6, 7, 8] rfl
          exact loop_48 (9) 0 (bd_sub kb_0 (by decide)) (by have h9_0 := kb_0; unfold bd at h9_0; have h9_1 := kb_1; unfold bd at h9_1; have h9_2 := kb_20; unfold bd at h9_2; omega) _ _ _ _ g9  hl9
      · have fc_10 := nlt_f c_10
        refine lv_aload_n hx hb dX1_enter_24 rfl (lv_at hl 0 rfl) ?_
        refine lv_iconst (v := 3) hx hb dX1_enter_25 (by decide) ?_
        have kb_3 : bd 3 3 (3 : Int32) := ⟨by decide, by decide⟩
        refine g_put (C := RX1) (T := TX1) (N := 18) hx hb hts (mc_ inX1) tyX1 tyX1_ok nmX1 hown hK g ma0_ ka0_ (by decide) rfl 15 (by decide) (hts _ (List.mem_cons_of_mem _ t_750)) (fun _ h9 => h9) rfl rfl (okV_i (bd_sub kb_3 (by decide))) rfl rfl (by decide) (Or.inr (Or.inl (by decide))) (fx' := [(7, 3, q0_, .int x_9), (1, 0, a0_, .ref q0_), (1, 11, a0_, .int y0_)]) rfl dX1_enter_26 (fun f H locs hM_64 g => ?_)
        subst hQ
        exact W.vret hx hb hr (fun t ht hW => ⟨⟨_, rfl, ⟨y0_, (bd_sub b_4 (by decide)), (g.fcts [3] rfl)⟩, q3_of g hK ht hW⟩, g.2.2.1.F ht⟩) g.2.2.1.2.2 dX1_enter_29
set_option maxHeartbeats 4000000 in
set_option maxRecDepth 100000 in
theorem r_X1_turn_22 (l : Launch) (dC : Nat → ClassId) (dI : Nat → Nat → Nat) (L : List Nat) (kd : Nat → Nat) (tys : List (ClassId × FieldType)) (f0 : Nat → va_E) (sz : Nat) (hWT : WT L kd tys f0) (a0_ : Nat) (ma0_ : a0_ ∈ L) (ka0_ : kd a0_ = 1) (x1_ : Int32) (bx1_ : bd 6 11 x1_) (x2_ : Int32) (x3_ : Int32) (y0_ : Int32) (by0_ : bd 0 699 y0_) (y1_ : Int32) (by1_ : bd 1 2000 y1_) (y2_ : Int32) (by2_ : bd 0 0 y2_) (y3_ : Int32) (by3_ : bd 1 20 y3_) (y4_ : Int32) (by4_ : bd 1 1 y4_) (y5_ : Int32) (by5_ : bd 0 0 y5_) (y6_ : Int32) (by6_ : bd 0 0 y6_) (hc_ : crel x1_ x2_) (hfx : Fs L kd f0 [(1, 8, a0_, .int y0_), (1, 13, a0_, .int y1_), (1, 15, a0_, .int y2_), (1, 11, a0_, .int y3_), (1, 12, a0_, .int y4_), (1, 6, a0_, .int y5_), (1, 5, a0_, .int y6_)]) : Met l yX1_turn (.code yX1_turn cX1_turn 5 (some .int) :: lw_g) ({ frames := 0, cells := 0, slots := 0, locals := 0 }) (va_Pc [.ref a0_, .int x1_, .int x2_, .int x3_] (P3 (dC, dI) L tys f0 sz)) (va_Qi (fun (r : Int32) (f : Nat → va_E) => (∃ z0_ : Int32, bd 0 2 z0_ ∧ Fs L kd f [(1, 15, a0_, .int z0_)])) (Q3 (dC, dI) L kd tys [(1, 15), (1, 17)] [] f0 sz) (pA L sz)) 0 0 (pA L sz) := by
  refine Met.ofW (cc := cX1_turn) (maxL := 5) (ret := (some .int)) (by decide) rfl ?_
  intro p e s m args below meth c s₁ B hml hv
  obtain ⟨rfl, hsz, hP, hK, hD0⟩ := hv
  have hx := B.exec
  have hb := B.bytes
  have hr := B.returns
  have hts := atoms_spec (ws := (.code yX1_turn cX1_turn 5 (some .int) :: lw_g)) B.pre
  have hown : s.vm.findClass RX1 = some m.cls := findClass_of_methodNamed B.named
  have hlocks := B.notSynchronized
  subst hsz
  have g : G3 (dC, dI) L kd tys s f0 [(1, 15), (1, 17)] [] f0 s.heap [] [(1, 8, a0_, .int y0_), (1, 13, a0_, .int y1_), (1, 15, a0_, .int y2_), (1, 11, a0_, .int y3_), (1, 12, a0_, .int y4_), (1, 6, a0_, .int y5_), (1, 5, a0_, .int y6_)] := G3.start hP hD0 hWT hfx
  have hl := lv_entry ([.ref a0_, .int x1_, .int x2_, .int x3_]) (n := 5) (Nat.le_of_ble_eq_true rfl)
  rw [lg_entry_eq]
  generalize (lg_sl ([.ref a0_, .int x1_, .int x2_, .int x3_]) ++ List.replicate (5 - (lg_sl ([.ref a0_, .int x1_, .int x2_, .int x3_])).length) Slot.unset).toArray = ls at hl ⊢
  have hl : lv_has ls 5 [(0, .ref a0_), (1, .int x1_), (2, .int x2_), (3, .int x3_)] := hl
  refine W_q (fun Q hQ => ?_)
  refine lv_iload_n hx hb dX1_turn_0 rfl (lv_at hl 1 rfl) ?_
  refine lv_bipush (v := 6) hx hb dX1_turn_1 (by decide) ?_
  have kb_6 : bd 6 6 (6 : Int32) := ⟨by decide, by decide⟩
  refine lv_icmp_ne (tgt := 9) hx hb dX1_turn_3 (by decide) (fun c_1 => ?_) (fun c_1 => ?_)
  · have fc_1 := neq_f c_1
    have b_2 : bd 7 11 x1_ := neX fc_1 bx1_ kb_6 (by decide)
    refine lv_iload_n hx hb dX1_turn_9 rfl (lv_at hl 1 rfl) ?_
    refine lv_bipush (v := 7) hx hb dX1_turn_10 (by decide) ?_
    have kb_7 : bd 7 7 (7 : Int32) := ⟨by decide, by decide⟩
    refine lv_icmp_ne (tgt := 25) hx hb dX1_turn_12 (by decide) (fun c_3 => ?_) (fun c_3 => ?_)
    · have fc_3 := neq_f c_3
      have b_4 : bd 8 11 x1_ := neX fc_3 b_2 kb_7 (by decide)
      refine lv_iload_n hx hb dX1_turn_25 rfl (lv_at hl 1 rfl) ?_
      refine lv_bipush (v := 8) hx hb dX1_turn_26 (by decide) ?_
      have kb_8 : bd 8 8 (8 : Int32) := ⟨by decide, by decide⟩
      refine lv_icmp_ne (tgt := 41) hx hb dX1_turn_28 (by decide) (fun c_5 => ?_) (fun c_5 => ?_)
      · have fc_5 := neq_f c_5
        have b_6 : bd 9 11 x1_ := neX fc_5 b_4 kb_8 (by decide)
        have b_7 : bd 0 400 x2_ := eqX rfl (bdT x2_) (cr400 hc_ b_6 (by decide)) (by decide)
        refine lv_iload_n hx hb dX1_turn_41 rfl (lv_at hl 3 rfl) ?_
        have kb_0 : bd 0 0 (0 : Int32) := ⟨by decide, by decide⟩
        refine lv_if_lt (tgt := 53) hx hb dX1_turn_42 (by decide) (fun c_8 => ?_) (fun c_8 => ?_)
        · have fc_8 := lt_f c_8
          have b_9 : bd (-2147483648) (-1) x3_ := ltL fc_8 (bdT x3_) kb_0 (by decide)
          refine lv_aload_n hx hb dX1_turn_53 rfl (lv_at hl 0 rfl) ?_
          refine lv_iconst (v := 2) hx hb dX1_turn_54 (by decide) ?_
          have kb_2 : bd 2 2 (2 : Int32) := ⟨by decide, by decide⟩
          refine g_put (C := RX1) (T := TX1) (N := 18) hx hb hts (mc_ inX1) tyX1 tyX1_ok nmX1 hown hK g ma0_ ka0_ (by decide) rfl 15 (by decide) (hts _ (List.mem_cons_of_mem _ t_750)) (fun _ h9 => h9) rfl rfl (okV_i (bd_sub kb_2 (by decide))) rfl rfl (by decide) (Or.inr (Or.inl (by decide))) (fx' := [(1, 8, a0_, .int y0_), (1, 13, a0_, .int y1_), (1, 11, a0_, .int y3_), (1, 12, a0_, .int y4_), (1, 6, a0_, .int y5_), (1, 5, a0_, .int y6_)]) rfl dX1_turn_55 (fun f H locs hM_10 g => ?_)
          refine lv_aload_n hx hb dX1_turn_58 rfl (lv_at hl 0 rfl) ?_
          refine lv_ldc2 (v := 19540422) hx hb hown (hts _ (List.mem_cons_of_mem _ t_1580)) dX1_turn_59 ?_
          refine g_put (C := RX1) (T := TX1) (N := 18) hx hb hts (mc_ inX1) tyX1 tyX1_ok nmX1 hown hK g ma0_ ka0_ (by decide) rfl 17 (by decide) (hts _ (List.mem_cons_of_mem _ t_754)) (fun _ h9 => h9) rfl rfl okV_l rfl rfl (by decide) (Or.inr (Or.inl (by decide))) (fx' := [(1, 15, a0_, .int 2), (1, 8, a0_, .int y0_), (1, 13, a0_, .int y1_), (1, 11, a0_, .int y3_), (1, 12, a0_, .int y4_), (1, 6, a0_, .int y5_), (1, 5, a0_, .int y6_)]) rfl dX1_turn_62 (fun f H locs hM_11 g => ?_)
          refine lv_iconst (v := 0) hx hb dX1_turn_65 (by decide) ?_
          subst hQ
          exact W.iret (v := 0) hx hb hr (fun t ht hW => ⟨⟨_, _, rfl, ⟨2, (bd_sub kb_2 (by decide)), (g.fcts [1] rfl)⟩, q3_of g hK ht hW⟩, g.2.2.1.F ht⟩) g.2.2.1.2.2 dX1_turn_66
        · have fc_8 := nlt_f c_8
          have b_12 : bd 0 2147483647 x3_ := leR fc_8 kb_0 (bdT x3_) (by decide)
          refine lv_iload_n hx hb dX1_turn_45 rfl (lv_at hl 3 rfl) ?_
          refine lv_iload_n hx hb dX1_turn_46 rfl (lv_at hl 2 rfl) ?_
          refine lv_bipush (v := 15) hx hb dX1_turn_47 (by decide) ?_
          have kb_15 : bd 15 15 (15 : Int32) := ⟨by decide, by decide⟩
          refine lv_iand hx hb dX1_turn_49 ?_
          refine lv_topi (fun y_13 ey_13 => ?_)
          have b_14 : bd 0 15 y_13 := and_rg ey_13 b_7 kb_15 (by decide)
          refine lv_icmp_lt (tgt := 67) hx hb dX1_turn_50 (by decide) (fun c_15 => ?_) (fun c_15 => ?_)
          · have fc_15 := lt_f c_15
            have b_16 : bd 0 14 x3_ := ltL fc_15 b_12 b_14 (by decide)
            have b_17 : bd 1 15 y_13 := ltR fc_15 b_12 b_14 (by decide)
            refine lv_iload_n hx hb dX1_turn_67 rfl (lv_at hl 2 rfl) ?_
            refine lv_iconst (v := 4) hx hb dX1_turn_68 (by decide) ?_
            have kb_4 : bd 4 4 (4 : Int32) := ⟨by decide, by decide⟩
            refine lv_ishr hx hb dX1_turn_69 ?_
            refine lv_topi (fun y_18 ey_18 => ?_)
            have b_19 : bd 0 25 y_18 := shr_rg ey_18 b_7 kb_4 (by decide)
            refine lv_iload_n hx hb dX1_turn_70 rfl (lv_at hl 3 rfl) ?_
            refine lv_iadd hx hb dX1_turn_71 ?_
            refine lv_topi (fun y_20 ey_20 => ?_)
            have ty_20 := add_bd ey_20 b_19 b_16 (by decide)
            have b_21 : bd 0 39 y_20 := add_rg ty_20 b_19 b_16 (by decide)
            refine lv_istore (lv' := [(4, .int y_20), (0, .ref a0_), (1, .int x1_), (2, .int x2_), (3, .int x3_)]) hx hb dX1_turn_72 hl (by decide) rfl (fun ls hl => ?_)
            refine lv_iload_n hx hb dX1_turn_74 rfl (lv_at hl 2 rfl) ?_
            refine lv_bipush (v := 11) hx hb dX1_turn_75 (by decide) ?_
            have kb_11 : bd 11 11 (11 : Int32) := ⟨by decide, by decide⟩
            refine lv_icmp_eq (tgt := 100) hx hb dX1_turn_77 (by decide) (fun c_22 => ?_) (fun c_22 => ?_)
            · have fc_22 := eq_f c_22
              have b_23 : bd 11 11 x1_ := eqX fc_22 b_6 kb_11 (by decide)
              refine lv_iload_n hx hb dX1_turn_100 rfl (lv_at hl 4 rfl) ?_
              subst hQ
              exact W.iret (v := x3_) hx hb hr (fun t ht hW => ⟨⟨_, _, rfl, ⟨y2_, (bd_sub by2_ (by decide)), (g.fcts [2] rfl)⟩, q3_of g hK ht hW⟩, g.2.2.1.F ht⟩) g.2.2.1.2.2 dX1_turn_101
            · have fc_22 := neq_f c_22
              have b_24 : bd 9 10 x1_ := neX fc_22 b_6 kb_11 (by decide)
              refine lv_iload hx hb dX1_turn_80 (lv_at hl 0 rfl) ?_
              refine lv_aload_n hx hb dX1_turn_82 rfl (lv_at hl 1 rfl) ?_
              refine g_getu (lo := 100) (hi := 102) (C := RX1) (T := TX1) (N := 18) hx hb hts (mc_ inX1) hown hK g ma0_ ka0_ (by decide) rfl 2 (by decide) rfl (hts _ (List.mem_cons_of_mem _ t_737)) (fun _ h9 => h9) rfl dX1_turn_83 (fun a_25 ma_25 ka_25 g => ?_)
              refine g_alenU hx hb hK g ma_25 (by have h9 := ka_25; omega) dX1_turn_86 (fun x_26 ex_26 bx_26 => ?_)
              refine lv_icmp_ge (tgt := 100) hx hb dX1_turn_87 (by decide) (fun c_27 => ?_) (fun c_27 => ?_)
              · have fc_27 := le_f c_27
                have b_28 : bd 3 39 x_26 := leL fc_27 bx_26 b_21 (by decide)
                have b_29 : bd 3 39 y_20 := leR fc_27 bx_26 b_21 (by decide)
                refine lv_iload_n hx hb dX1_turn_100 rfl (lv_at hl 4 rfl) ?_
                subst hQ
                exact W.iret (v := x3_) hx hb hr (fun t ht hW => ⟨⟨_, _, rfl, ⟨y2_, (bd_sub by2_ (by decide)), (g.fcts [3] rfl)⟩, q3_of g hK ht hW⟩, g.2.2.1.F ht⟩) g.2.2.1.2.2 dX1_turn_101
              · have fc_27 := nle_f c_27
                refine lv_iload hx hb dX1_turn_90 (lv_at hl 0 rfl) ?_
                refine lv_aload_n hx hb dX1_turn_92 rfl (lv_at hl 1 rfl) ?_
                refine g_getu (lo := 100) (hi := 102) (C := RX1) (T := TX1) (N := 18) hx hb hts (mc_ inX1) hown hK g ma0_ ka0_ (by decide) rfl 3 (by decide) rfl (hts _ (List.mem_cons_of_mem _ t_738)) (fun _ h9 => h9) rfl dX1_turn_93 (fun a_30 ma_30 ka_30 g => ?_)
                refine g_alenU hx hb hK g ma_30 (by have h9 := ka_30; omega) dX1_turn_96 (fun x_31 ex_31 bx_31 => ?_)
                refine lv_icmp_lt (tgt := 102) hx hb dX1_turn_97 (by decide) (fun c_32 => ?_) (fun c_32 => ?_)
                · have fc_32 := lt_f c_32
                  refine lv_iload_n hx hb dX1_turn_102 rfl (lv_at hl 2 rfl) ?_
                  refine lv_bipush (v := 9) hx hb dX1_turn_103 (by decide) ?_
                  have kb_9 : bd 9 9 (9 : Int32) := ⟨by decide, by decide⟩
                  refine lv_icmp_ne (tgt := 118) hx hb dX1_turn_105 (by decide) (fun c_33 => ?_) (fun c_33 => ?_)
                  · have fc_33 := neq_f c_33
                    have b_34 : bd 10 10 x1_ := neX fc_33 b_24 kb_9 (by decide)
                    refine lv_aload_n hx hb dX1_turn_118 rfl (lv_at hl 1 rfl) ?_
                    refine g_getk (C := RX1) (T := TX1) (N := 18) hx hb hts (mc_ inX1) hown hK g rfl 3 (by decide) rfl (hts _ (List.mem_cons_of_mem _ t_738)) (fun _ h9 => h9) 0 rfl dX1_turn_119 ?_
                    refine lv_iload hx hb dX1_turn_122 (lv_at hl 0 rfl) ?_
                    refine g_ialdU hx hb hK g ma_30 (by have h9 := ka_30; omega) (in_ok (by have h9 := b_21; unfold bd at h9; omega) (by omega)) dX1_turn_124 (fun x_35 => ?_)
                    subst hQ
                    exact W.iret (v := x_35) hx hb hr (fun t ht hW => ⟨⟨_, _, rfl, ⟨y2_, (bd_sub by2_ (by decide)), (g.fcts [4] rfl)⟩, q3_of g hK ht hW⟩, g.2.2.1.F ht⟩) g.2.2.1.2.2 dX1_turn_125
                  · have fc_33 := eq_f c_33
                    have b_36 : bd 9 9 x1_ := eqX fc_33 b_24 kb_9 (by decide)
                    refine lv_aload_n hx hb dX1_turn_108 rfl (lv_at hl 1 rfl) ?_
                    refine g_getk (C := RX1) (T := TX1) (N := 18) hx hb hts (mc_ inX1) hown hK g rfl 2 (by decide) rfl (hts _ (List.mem_cons_of_mem _ t_737)) (fun _ h9 => h9) 1 rfl dX1_turn_109 ?_
                    refine lv_iload hx hb dX1_turn_112 (lv_at hl 0 rfl) ?_
                    refine g_ialdU hx hb hK g ma_25 (by have h9 := ka_25; omega) (in_ok (by have h9 := b_21; unfold bd at h9; omega) (by omega)) dX1_turn_114 (fun x_37 => ?_)
                    refine lv_goto (tgt := 125) hx hb dX1_turn_115 (by decide) ?_
                    subst hQ
                    exact W.iret (v := x_37) hx hb hr (fun t ht hW => ⟨⟨_, _, rfl, ⟨y2_, (bd_sub by2_ (by decide)), (g.fcts [4] rfl)⟩, q3_of g hK ht hW⟩, g.2.2.1.F ht⟩) g.2.2.1.2.2 dX1_turn_125
                · have fc_32 := nlt_f c_32
                  have b_38 : bd 3 39 x_31 := leL fc_32 bx_31 b_21 (by decide)
                  have b_39 : bd 3 39 y_20 := leR fc_32 bx_31 b_21 (by decide)
                  refine lv_iload_n hx hb dX1_turn_100 rfl (lv_at hl 4 rfl) ?_
                  subst hQ
                  exact W.iret (v := x3_) hx hb hr (fun t ht hW => ⟨⟨_, _, rfl, ⟨y2_, (bd_sub by2_ (by decide)), (g.fcts [4] rfl)⟩, q3_of g hK ht hW⟩, g.2.2.1.F ht⟩) g.2.2.1.2.2 dX1_turn_101
          · have fc_15 := nlt_f c_15
            refine lv_aload_n hx hb dX1_turn_53 rfl (lv_at hl 0 rfl) ?_
            refine lv_iconst (v := 2) hx hb dX1_turn_54 (by decide) ?_
            have kb_2 : bd 2 2 (2 : Int32) := ⟨by decide, by decide⟩
            refine g_put (C := RX1) (T := TX1) (N := 18) hx hb hts (mc_ inX1) tyX1 tyX1_ok nmX1 hown hK g ma0_ ka0_ (by decide) rfl 15 (by decide) (hts _ (List.mem_cons_of_mem _ t_750)) (fun _ h9 => h9) rfl rfl (okV_i (bd_sub kb_2 (by decide))) rfl rfl (by decide) (Or.inr (Or.inl (by decide))) (fx' := [(1, 8, a0_, .int y0_), (1, 13, a0_, .int y1_), (1, 11, a0_, .int y3_), (1, 12, a0_, .int y4_), (1, 6, a0_, .int y5_), (1, 5, a0_, .int y6_)]) rfl dX1_turn_55 (fun f H locs hM_40 g => ?_)
            refine lv_aload_n hx hb dX1_turn_58 rfl (lv_at hl 0 rfl) ?_
            refine lv_ldc2 (v := 19540422) hx hb hown (hts _ (List.mem_cons_of_mem _ t_1580)) dX1_turn_59 ?_
            refine g_put (C := RX1) (T := TX1) (N := 18) hx hb hts (mc_ inX1) tyX1 tyX1_ok nmX1 hown hK g ma0_ ka0_ (by decide) rfl 17 (by decide) (hts _ (List.mem_cons_of_mem _ t_754)) (fun _ h9 => h9) rfl rfl okV_l rfl rfl (by decide) (Or.inr (Or.inl (by decide))) (fx' := [(1, 15, a0_, .int 2), (1, 8, a0_, .int y0_), (1, 13, a0_, .int y1_), (1, 11, a0_, .int y3_), (1, 12, a0_, .int y4_), (1, 6, a0_, .int y5_), (1, 5, a0_, .int y6_)]) rfl dX1_turn_62 (fun f H locs hM_41 g => ?_)
            refine lv_iconst (v := 0) hx hb dX1_turn_65 (by decide) ?_
            subst hQ
            exact W.iret (v := 0) hx hb hr (fun t ht hW => ⟨⟨_, _, rfl, ⟨2, (bd_sub kb_2 (by decide)), (g.fcts [1] rfl)⟩, q3_of g hK ht hW⟩, g.2.2.1.F ht⟩) g.2.2.1.2.2 dX1_turn_66
      · have fc_5 := eq_f c_5
        have b_42 : bd 8 8 x1_ := eqX fc_5 b_4 kb_8 (by decide)
        refine lv_iload_n hx hb dX1_turn_31 rfl (lv_at hl 3 rfl) ?_
        have kb_0 : bd 0 0 (0 : Int32) := ⟨by decide, by decide⟩
        refine lv_if_ne (tgt := 39) hx hb dX1_turn_32 (by decide) (fun c_43 => ?_) (fun c_43 => ?_)
        · have fc_43 := neq_f c_43
          refine lv_iconst (v := 1) hx hb dX1_turn_39 (by decide) ?_
          subst hQ
          exact W.iret (v := 1) hx hb hr (fun t ht hW => ⟨⟨_, _, rfl, ⟨y2_, (bd_sub by2_ (by decide)), (g.fcts [2] rfl)⟩, q3_of g hK ht hW⟩, g.2.2.1.F ht⟩) g.2.2.1.2.2 dX1_turn_40
        · have fc_43 := eq_f c_43
          have b_44 : bd 0 0 x3_ := eqX fc_43 (bdT x3_) kb_0 (by decide)
          refine lv_iconst (v := 0) hx hb dX1_turn_35 (by decide) ?_
          refine lv_goto (tgt := 40) hx hb dX1_turn_36 (by decide) ?_
          subst hQ
          exact W.iret (v := 0) hx hb hr (fun t ht hW => ⟨⟨_, _, rfl, ⟨y2_, (bd_sub by2_ (by decide)), (g.fcts [2] rfl)⟩, q3_of g hK ht hW⟩, g.2.2.1.F ht⟩) g.2.2.1.2.2 dX1_turn_40
    · have fc_3 := eq_f c_3
      have b_45 : bd 7 7 x1_ := eqX fc_3 b_2 kb_7 (by decide)
      refine lv_iload_n hx hb dX1_turn_15 rfl (lv_at hl 3 rfl) ?_
      have kb_0 : bd 0 0 (0 : Int32) := ⟨by decide, by decide⟩
      refine lv_if_ne (tgt := 23) hx hb dX1_turn_16 (by decide) (fun c_46 => ?_) (fun c_46 => ?_)
      · have fc_46 := neq_f c_46
        refine lv_iconst (v := 0) hx hb dX1_turn_23 (by decide) ?_
        subst hQ
        exact W.iret (v := 0) hx hb hr (fun t ht hW => ⟨⟨_, _, rfl, ⟨y2_, (bd_sub by2_ (by decide)), (g.fcts [2] rfl)⟩, q3_of g hK ht hW⟩, g.2.2.1.F ht⟩) g.2.2.1.2.2 dX1_turn_24
      · have fc_46 := eq_f c_46
        have b_47 : bd 0 0 x3_ := eqX fc_46 (bdT x3_) kb_0 (by decide)
        refine lv_iconst (v := 1) hx hb dX1_turn_19 (by decide) ?_
        refine lv_goto (tgt := 24) hx hb dX1_turn_20 (by decide) ?_
        subst hQ
        exact W.iret (v := 1) hx hb hr (fun t ht hW => ⟨⟨_, _, rfl, ⟨y2_, (bd_sub by2_ (by decide)), (g.fcts [2] rfl)⟩, q3_of g hK ht hW⟩, g.2.2.1.F ht⟩) g.2.2.1.2.2 dX1_turn_24
  · have fc_1 := eq_f c_1
    have b_48 : bd 6 6 x1_ := eqX fc_1 bx1_ kb_6 (by decide)
    refine lv_iload_n hx hb dX1_turn_6 rfl (lv_at hl 3 rfl) ?_
    refine lv_ineg hx hb dX1_turn_7 ?_
    refine lv_topi (fun y_49 ey_49 => ?_)
    subst hQ
    exact W.iret (v := y_49) hx hb hr (fun t ht hW => ⟨⟨_, _, rfl, ⟨y2_, (bd_sub by2_ (by decide)), (g.fcts [2] rfl)⟩, q3_of g hK ht hW⟩, g.2.2.1.F ht⟩) g.2.2.1.2.2 dX1_turn_8
