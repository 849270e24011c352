set_option maxHeartbeats 4000000 in
set_option maxRecDepth 100000 in
theorem r_X14_see (l : Launch) (dC : Nat → ClassId) (dI : Nat → Nat → Nat) (L : List Nat) (kd : Nat → Nat) (tys : List (ClassId × FieldType)) (f0 : Nat → va_E) (sz : Nat) (hWT : WT L kd tys f0) (a0_ : Nat) (ma0_ : a0_ ∈ L) (ka0_ : kd a0_ = 14) (x1_ : Int32) (bx1_ : bd 0 2147483647 x1_) : Met l yX14_see (.code yX14_see cX14_see 2 (some .int) :: lw_g) ({ frames := 0, cells := 0, slots := 0, locals := 0 }) (va_Pc [.ref a0_, .int x1_] (P3 (dC, dI) L tys f0 sz)) (va_Qi (fun (r : Int32) (f : Nat → va_E) => (r = (-1) ∧ True) ∨ (bd 0 255 r ∧ bd 0 3999 x1_ ∧ ∃ z0_ : Int32, bd 1 4000 z0_ ∧ Fs L kd f [(14, 5, a0_, .int z0_)])) (Q3 (dC, dI) L kd tys [] [] f0 sz) (pA L sz)) 0 0 (pA L sz) := by
  refine Met.ofW (cc := cX14_see) (maxL := 2) (ret := (some .int)) (by decide) rfl ?_
  intro p e s m args below meth c s₁ B hml hv
  obtain ⟨rfl, hsz, hP, hK, hD0⟩ := hv
  have hx := B.exec
  have hb := B.bytes
  have hr := B.returns
  have hts := atoms_spec (ws := (.code yX14_see cX14_see 2 (some .int) :: lw_g)) B.pre
  have hown : s.vm.findClass RX14 = some m.cls := findClass_of_methodNamed B.named
  have hlocks := B.notSynchronized
  subst hsz
  have g : G3 (dC, dI) L kd tys s f0 [] [] f0 s.heap [] [] := G3.start hP hD0 hWT Fs.nil
  have hl := lv_entry ([.ref a0_, .int x1_]) (n := 2) (Nat.le_of_ble_eq_true rfl)
  rw [lg_entry_eq]
  generalize (lg_sl ([.ref a0_, .int x1_]) ++ List.replicate (2 - (lg_sl ([.ref a0_, .int x1_])).length) Slot.unset).toArray = ls at hl ⊢
  have hl : lv_has ls 2 [(0, .ref a0_), (1, .int x1_)] := hl
  refine W_q (fun Q hQ => ?_)
  refine lv_iload_n hx hb dX14_see_0 rfl (lv_at hl 1 rfl) ?_
  refine lv_aload_n hx hb dX14_see_1 rfl (lv_at hl 0 rfl) ?_
  refine g_geti (C := RX14) (T := TX14) (N := 67) hx hb hts (mc_ inX14) hown hK g ma0_ ka0_ (by decide) rfl 5 (by decide) rfl (hts _ (List.mem_cons_of_mem _ t_2151)) (fun _ h9 => h9) rfl dX14_see_2 (fun x_1 bx_1 g => ?_)
  refine lv_icmp_ge (tgt := 21) hx hb dX14_see_5 (by decide) (fun c_2 => ?_) (fun c_2 => ?_)
  · have fc_2 := le_f c_2
    refine lv_iconst (v := (-1)) hx hb dX14_see_21 (by decide) ?_
    subst hQ
    exact W.iret (v := (-1)) hx hb hr (fun t ht hW => ⟨⟨_, _, rfl, Or.inl ⟨rfl, trivial⟩, q3_of g hK ht hW⟩, g.2.2.1.F ht⟩) g.2.2.1.2.2 dX14_see_22
  · have fc_2 := nle_f c_2
    have b_3 : bd 0 3999 x1_ := ltL fc_2 bx1_ bx_1 (by decide)
    have b_4 : bd 1 4000 x_1 := ltR fc_2 bx1_ bx_1 (by decide)
    refine lv_aload_n hx hb dX14_see_8 rfl (lv_at hl 0 rfl) ?_
    refine g_getr (K := 212) (C := RX14) (T := TX14) (N := 67) hx hb hts (mc_ inX14) hown hK g ma0_ ka0_ (by decide) rfl 3 (by decide) rfl (hts _ (List.mem_cons_of_mem _ t_2149)) (fun _ h9 => h9) rfl dX14_see_9 (fun a_5 ma_5 ka_5 g => ?_)
    refine lv_iload_n hx hb dX14_see_12 rfl (lv_at hl 1 rfl) ?_
    refine g_bald hx hb hK g ma_5 ka_5 (by decide) rfl (in_bd b_3 (by decide)) dX14_see_13 (fun x_6 bx_6 => ?_)
    refine lv_sipush (v := 255) hx hb dX14_see_14 (by decide) ?_
    have kb_255 : bd 255 255 (255 : Int32) := ⟨by decide, by decide⟩
    refine lv_iand hx hb dX14_see_17 ?_
    refine lv_topi (fun y_7 ey_7 => ?_)
    have b_8 : bd 0 255 y_7 := and_rg ey_7 bx_6 kb_255 (by decide)
    refine lv_goto (tgt := 22) hx hb dX14_see_18 (by decide) ?_
    subst hQ
    exact W.iret (v := y_7) hx hb hr (fun t ht hW => ⟨⟨_, _, rfl, Or.inr (⟨b_8, b_3, x_1, b_4, (g.fcts [1] rfl)⟩), q3_of g hK ht hW⟩, g.2.2.1.F ht⟩) g.2.2.1.2.2 dX14_see_22
set_option maxHeartbeats 4000000 in
set_option maxRecDepth 100000 in
theorem r_X14_scanSign (l : Launch) (dC : Nat → ClassId) (dI : Nat → Nat → Nat) (L : List Nat) (kd : Nat → Nat) (tys : List (ClassId × FieldType)) (f0 : Nat → va_E) (sz : Nat) (hWT : WT L kd tys f0) (a0_ : Nat) (ma0_ : a0_ ∈ L) (ka0_ : kd a0_ = 14) (x1_ : Int32) (bx1_ : bd 0 3999 x1_) (x2_ : Int32) (bx2_ : bd 0 255 x2_) : Met l yX14_scanSign (.code yX14_scanSign cX14_scanSign 6 none :: lw_g) ({ frames := 1, cells := 0, slots := 0, locals := 21 }) (va_Pc [.ref a0_, .int x1_, .int x2_] (P3 (dC, dI) L tys f0 sz)) (va_Qv (fun (f : Nat → va_E) => (∃ z0_ : Int32, bd 0 4 z0_ ∧ ∃ z1_ : Int32, bd 1 4001 z1_ ∧ ∃ z2_ : Int32, bd (-1) 65535 z2_ ∧ Fs L kd f [(14, 6, a0_, .int z0_), (14, 9, a0_, .int z1_), (14, 7, a0_, .int z2_)])) (Q3 (dC, dI) L kd tys [(14, 6), (14, 7), (14, 9)] [] f0 sz) (pA L sz)) 0 0 (pA L sz) := by
  refine Met.ofW (cc := cX14_scanSign) (maxL := 6) (ret := none) (by decide) rfl ?_
  intro p e s m args below meth c s₁ B hml hv
  obtain ⟨rfl, hsz, hP, hK, hD0⟩ := hv
  have hx := B.exec
  have hb := B.bytes
  have hr := B.returns
  have hts := atoms_spec (ws := (.code yX14_scanSign cX14_scanSign 6 none :: lw_g)) B.pre
  have hown : s.vm.findClass RX14 = some m.cls := findClass_of_methodNamed B.named
  have hlocks := B.notSynchronized
  subst hsz
  have g : G3 (dC, dI) L kd tys s f0 [(14, 6), (14, 7), (14, 9)] [] f0 s.heap [] [] := G3.start hP hD0 hWT Fs.nil
  have hl := lv_entry ([.ref a0_, .int x1_, .int x2_]) (n := 6) (Nat.le_of_ble_eq_true rfl)
  rw [lg_entry_eq]
  generalize (lg_sl ([.ref a0_, .int x1_, .int x2_]) ++ List.replicate (6 - (lg_sl ([.ref a0_, .int x1_, .int x2_])).length) Slot.unset).toArray = ls at hl ⊢
  have hl : lv_has ls 6 [(0, .ref a0_), (1, .int x1_), (2, .int x2_)] := hl
  refine W_q (fun Q hQ => ?_)
  have join_1 : ∀ (j68_4 : Int32) (j68_3 : Int32) (f : Nat → va_E) (H : Heap) (locs : List Loc) (ls : Array Slot), bd 0 1 j68_4 → bd (-1) 255 j68_3 → G3 (dC, dI) L kd tys s f0 [(14, 6), (14, 7), (14, 9)] [] f H locs [] → lv_has ls 6 [(4, .int j68_4), (3, .int j68_3), (0, .ref a0_), (1, .int x1_), (2, .int x2_)] → W p l e ({ frames := 1, cells := 0, slots := 0, locals := 21 } : Room) s m [.ref a0_, .int x1_, .int x2_].toArray below meth c H locs 0 0 Q (F0 m 68 ls []) := by
    intro j68_4 j68_3 f H locs ls bj68_4 bj68_3 g  hl
    have join_2 : ∀ (j183_5 : Int32) (f : Nat → va_E) (H : Heap) (locs : List Loc) (ls : Array Slot), bd 0 1 j183_5 → G3 (dC, dI) L kd tys s f0 [(14, 6), (14, 7), (14, 9)] [] f H locs [] → lv_has ls 6 [(5, .int j183_5), (4, .int j68_4), (3, .int j68_3), (0, .ref a0_), (1, .int x1_), (2, .int x2_)] → W p l e ({ frames := 1, cells := 0, slots := 0, locals := 21 } : Room) s m [.ref a0_, .int x1_, .int x2_].toArray below meth c H locs 0 0 Q (F0 m 183 ls []) := by
      intro j183_5 f H locs ls bj183_5 g  hl
      refine lv_aload_n hx hb dX14_scanSign_183 rfl (lv_at hl 3 rfl) ?_
      refine lv_iload hx hb dX14_scanSign_184 (lv_at hl 1 rfl) ?_
      have kb_0 : bd 0 0 (0 : Int32) := ⟨by decide, by decide⟩
      refine lv_if_eq (tgt := 199) hx hb dX14_scanSign_186 (by decide) (fun c_3 => ?_) (fun c_3 => ?_)
      · have fc_3 := eq_f c_3
        have b_4 : bd 0 0 j68_4 := eqX fc_3 bj68_4 kb_0 (by decide)
        refine lv_iload_n hx hb dX14_scanSign_199 rfl (lv_at hl 5 rfl) ?_
        refine g_put (C := RX14) (T := TX14) (N := 67) hx hb hts (mc_ inX14) tyX14 tyX14_ok nmX14 hown hK g ma0_ ka0_ (by decide) rfl 7 (by decide) (hts _ (List.mem_cons_of_mem _ t_2153)) (fun _ h9 => h9) rfl rfl (okV_i (bd_sub bx2_ (by decide))) rfl rfl (by decide) (Or.inr (Or.inl (by decide))) (fx' := []) rfl dX14_scanSign_200 (fun f H locs hM_5 g => ?_)
        refine lv_aload_n hx hb dX14_scanSign_203 rfl (lv_at hl 3 rfl) ?_
        refine lv_iload hx hb dX14_scanSign_204 (lv_at hl 1 rfl) ?_
        refine lv_if_eq (tgt := 215) hx hb dX14_scanSign_206 (by decide) (fun c_6 => ?_) (fun c_6 => ?_)
        · have fc_6 := eq_f c_6
          refine lv_iload_n hx hb dX14_scanSign_215 rfl (lv_at hl 4 rfl) ?_
          refine lv_iconst (v := 1) hx hb dX14_scanSign_216 (by decide) ?_
          have kb_1 : bd 1 1 (1 : Int32) := ⟨by decide, by decide⟩
          refine lv_iadd hx hb dX14_scanSign_217 ?_
          refine lv_topi (fun y_7 ey_7 => ?_)
          have ty_7 := add_bd ey_7 bx1_ kb_1 (by decide)
          have b_8 : bd 1 4000 y_7 := add_rg ty_7 bx1_ kb_1 (by decide)
          refine g_put (C := RX14) (T := TX14) (N := 67) hx hb hts (mc_ inX14) tyX14 tyX14_ok nmX14 hown hK g ma0_ ka0_ (by decide) rfl 9 (by decide) (hts _ (List.mem_cons_of_mem _ t_2155)) (fun _ h9 => h9) rfl rfl (okV_i (bd_sub b_8 (by decide))) rfl rfl (by decide) (Or.inr (Or.inl (by decide))) (fx' := [(14, 7, a0_, .int x2_)]) rfl dX14_scanSign_218 (fun f H locs hM_9 g => ?_)
          refine lv_aload_n hx hb dX14_scanSign_221 rfl (lv_at hl 3 rfl) ?_
          refine lv_iload hx hb dX14_scanSign_222 (lv_at hl 1 rfl) ?_
          refine lv_if_ne (tgt := 232) hx hb dX14_scanSign_224 (by decide) (fun c_10 => ?_) (fun c_10 => ?_)
          · have fc_10 := neq_f c_10
            have b_11 : bd 1 (-1) j68_4 := neX fc_10 b_4 kb_0 (by decide)
            exact bd_no b_11 (by decide)
          · have fc_10 := eq_f c_10
            refine lv_iload hx hb dX14_scanSign_227 (lv_at hl 0 rfl) ?_
            refine lv_if_eq (tgt := 236) hx hb dX14_scanSign_229 (by decide) (fun c_12 => ?_) (fun c_12 => ?_)
            · have fc_12 := eq_f c_12
              have b_13 : bd 0 0 j183_5 := eqX fc_12 bj183_5 kb_0 (by decide)
              refine lv_iconst (v := 0) hx hb dX14_scanSign_236 (by decide) ?_
              refine g_put (C := RX14) (T := TX14) (N := 67) hx hb hts (mc_ inX14) tyX14 tyX14_ok nmX14 hown hK g ma0_ ka0_ (by decide) rfl 6 (by decide) (hts _ (List.mem_cons_of_mem _ t_2152)) (fun _ h9 => h9) rfl rfl (okV_i (bd_sub kb_0 (by decide))) rfl rfl (by decide) (Or.inr (Or.inl (by decide))) (fx' := [(14, 9, a0_, .int y_7), (14, 7, a0_, .int x2_)]) rfl dX14_scanSign_237 (fun f H locs hM_14 g => ?_)
              subst hQ
              exact W.vret hx hb hr (fun t ht hW => ⟨⟨_, rfl, ⟨0, (bd_sub kb_0 (by decide)), y_7, (bd_sub b_8 (by decide)), x2_, (bd_sub bx2_ (by decide)), (g.fcts [0, 1, 2] rfl)⟩, q3_of g hK ht hW⟩, g.2.2.1.F ht⟩) g.2.2.1.2.2 dX14_scanSign_240
            · have fc_12 := neq_f c_12
              have b_15 : bd 1 1 j183_5 := neX fc_12 bj183_5 kb_0 (by decide)
              refine lv_iconst (v := 4) hx hb dX14_scanSign_232 (by decide) ?_
              refine lv_goto (tgt := 237) hx hb dX14_scanSign_233 (by decide) ?_
              have kb_4 : bd 4 4 (4 : Int32) := ⟨by decide, by decide⟩
              refine g_put (C := RX14) (T := TX14) (N := 67) hx hb hts (mc_ inX14) tyX14 tyX14_ok nmX14 hown hK g ma0_ ka0_ (by decide) rfl 6 (by decide) (hts _ (List.mem_cons_of_mem _ t_2152)) (fun _ h9 => h9) rfl rfl (okV_i (bd_sub kb_4 (by decide))) rfl rfl (by decide) (Or.inr (Or.inl (by decide))) (fx' := [(14, 9, a0_, .int y_7), (14, 7, a0_, .int x2_)]) rfl dX14_scanSign_237 (fun f H locs hM_16 g => ?_)
              subst hQ
              exact W.vret hx hb hr (fun t ht hW => ⟨⟨_, rfl, ⟨4, (bd_sub kb_4 (by decide)), y_7, (bd_sub b_8 (by decide)), x2_, (bd_sub bx2_ (by decide)), (g.fcts [0, 1, 2] rfl)⟩, q3_of g hK ht hW⟩, g.2.2.1.F ht⟩) g.2.2.1.2.2 dX14_scanSign_240
        · have fc_6 := neq_f c_6
          have b_17 : bd 1 (-1) j68_4 := neX fc_6 b_4 kb_0 (by decide)
          exact bd_no b_17 (by decide)
      · have fc_3 := neq_f c_3
        have b_18 : bd 1 1 j68_4 := neX fc_3 bj68_4 kb_0 (by decide)
        refine lv_sipush (v := 256) hx hb dX14_scanSign_189 (by decide) ?_
        refine lv_iload_n hx hb dX14_scanSign_192 rfl (lv_at hl 5 rfl) ?_
        refine lv_imul hx hb dX14_scanSign_193 ?_
        refine lv_topi (fun y_19 ey_19 => ?_)
        have ty_19 := cmul_bd ey_19 (c := 256) (by decide) bx2_ (by decide)
        have b_20 : bd 0 65280 y_19 := mulc_rg ty_19 bx2_ (by decide)
        refine lv_iload_n hx hb dX14_scanSign_194 rfl (lv_at hl 2 rfl) ?_
        refine lv_iadd hx hb dX14_scanSign_195 ?_
        refine lv_topi (fun y_21 ey_21 => ?_)
        have ty_21 := add_bd ey_21 b_20 bj68_3 (by decide)
        have b_22 : bd (-1) 65535 y_21 := add_rg ty_21 b_20 bj68_3 (by decide)
        refine lv_goto (tgt := 200) hx hb dX14_scanSign_196 (by decide) ?_
        refine g_put (C := RX14) (T := TX14) (N := 67) hx hb hts (mc_ inX14) tyX14 tyX14_ok nmX14 hown hK g ma0_ ka0_ (by decide) rfl 7 (by decide) (hts _ (List.mem_cons_of_mem _ t_2153)) (fun _ h9 => h9) rfl rfl (okV_i (bd_sub b_22 (by decide))) rfl rfl (by decide) (Or.inr (Or.inl (by decide))) (fx' := []) rfl dX14_scanSign_200 (fun f H locs hM_23 g => ?_)
        refine lv_aload_n hx hb dX14_scanSign_203 rfl (lv_at hl 3 rfl) ?_
        refine lv_iload hx hb dX14_scanSign_204 (lv_at hl 1 rfl) ?_
        refine lv_if_eq (tgt := 215) hx hb dX14_scanSign_206 (by decide) (fun c_24 => ?_) (fun c_24 => ?_)
        · have fc_24 := eq_f c_24
          exact absurd fc_24 fc_3
        · have fc_24 := neq_f c_24
          refine lv_iload_n hx hb dX14_scanSign_209 rfl (lv_at hl 4 rfl) ?_
          refine lv_iconst (v := 2) hx hb dX14_scanSign_210 (by decide) ?_
          have kb_2 : bd 2 2 (2 : Int32) := ⟨by decide, by decide⟩
          refine lv_iadd hx hb dX14_scanSign_211 ?_
          refine lv_topi (fun y_25 ey_25 => ?_)
          have ty_25 := add_bd ey_25 bx1_ kb_2 (by decide)
          have b_26 : bd 2 4001 y_25 := add_rg ty_25 bx1_ kb_2 (by decide)
          refine lv_goto (tgt := 218) hx hb dX14_scanSign_212 (by decide) ?_
          refine g_put (C := RX14) (T := TX14) (N := 67) hx hb hts (mc_ inX14) tyX14 tyX14_ok nmX14 hown hK g ma0_ ka0_ (by decide) rfl 9 (by decide) (hts _ (List.mem_cons_of_mem _ t_2155)) (fun _ h9 => h9) rfl rfl (okV_i (bd_sub b_26 (by decide))) rfl rfl (by decide) (Or.inr (Or.inl (by decide))) (fx' := [(14, 7, a0_, .int y_21)]) rfl dX14_scanSign_218 (fun f H locs hM_27 g => ?_)
          refine lv_aload_n hx hb dX14_scanSign_221 rfl (lv_at hl 3 rfl) ?_
          refine lv_iload hx hb dX14_scanSign_222 (lv_at hl 1 rfl) ?_
          refine lv_if_ne (tgt := 232) hx hb dX14_scanSign_224 (by decide) (fun c_28 => ?_) (fun c_28 => ?_)
          · have fc_28 := neq_f c_28
            refine lv_iconst (v := 4) hx hb dX14_scanSign_232 (by decide) ?_
            refine lv_goto (tgt := 237) hx hb dX14_scanSign_233 (by decide) ?_
            have kb_4 : bd 4 4 (4 : Int32) := ⟨by decide, by decide⟩
            refine g_put (C := RX14) (T := TX14) (N := 67) hx hb hts (mc_ inX14) tyX14 tyX14_ok nmX14 hown hK g ma0_ ka0_ (by decide) rfl 6 (by decide) (hts _ (List.mem_cons_of_mem _ t_2152)) (fun _ h9 => h9) rfl rfl (okV_i (bd_sub kb_4 (by decide))) rfl rfl (by decide) (Or.inr (Or.inl (by decide))) (fx' := [(14, 9, a0_, .int y_25), (14, 7, a0_, .int y_21)]) rfl dX14_scanSign_237 (fun f H locs hM_29 g => ?_)
            subst hQ
            exact W.vret hx hb hr (fun t ht hW => ⟨⟨_, rfl, ⟨4, (bd_sub kb_4 (by decide)), y_25, (bd_sub b_26 (by decide)), y_21, b_22, (g.fcts [0, 1, 2] rfl)⟩, q3_of g hK ht hW⟩, g.2.2.1.F ht⟩) g.2.2.1.2.2 dX14_scanSign_240
          · have fc_28 := eq_f c_28
            exact absurd fc_28 fc_24
    refine lv_iload_n hx hb dX14_scanSign_68 rfl (lv_at hl 4 rfl) ?_
    refine lv_bipush (v := 40) hx hb dX14_scanSign_69 (by decide) ?_
    have kb_40 : bd 40 40 (40 : Int32) := ⟨by decide, by decide⟩
    refine lv_icmp_eq (tgt := 176) hx hb dX14_scanSign_71 (by decide) (fun c_30 => ?_) (fun c_30 => ?_)
    · have fc_30 := eq_f c_30
      have b_31 : bd 40 40 x2_ := eqX fc_30 bx2_ kb_40 (by decide)
      refine lv_iconst (v := 1) hx hb dX14_scanSign_176 (by decide) ?_
      refine lv_goto (tgt := 181) hx hb dX14_scanSign_177 (by decide) ?_
      refine lv_istore (lv' := [(5, .int 1), (4, .int j68_4), (3, .int j68_3), (0, .ref a0_), (1, .int x1_), (2, .int x2_)]) hx hb dX14_scanSign_181 hl (by decide) rfl (fun ls hl => ?_)
      have kb_1 : bd 1 1 (1 : Int32) := ⟨by decide, by decide⟩
      have hl9 := lv_sub hl [0, 1, 2, 3, 4, 5] (by rfl : lv_pick [(5, .int 1), (4, .int j68_4), (3, .int j68_3), (0, .ref a0_), (1, .int x1_), (2, .int x2_)] [0, 1, 2, 3, 4, 5] = [(5, .int 1), (4, .int j68_4), (3, .int j68_3), (0, .ref a0_), (1, .int x1_), (2, .int x2_)])
      have g9 := g.sub (fx' := []) [] rfl
      exact join_2 1 _ _ _ _ (bd_sub kb_1 (by decide)) g9  hl9
    · have fc_30 := neq_f c_30
      refine lv_iload_n hx hb dX14_scanSign_74 rfl (lv_at hl 4 rfl) ?_
      refine lv_bipush (v := 41) hx hb dX14_scanSign_75 (by decide) ?_
      have kb_41 : bd 41 41 (41 : Int32) := ⟨by decide, by decide⟩
      refine lv_icmp_eq (tgt := 176) hx hb dX14_scanSign_77 (by decide) (fun c_32 => ?_) (fun c_32 => ?_)
      · have fc_32 := eq_f c_32
        have b_33 : bd 41 41 x2_ := eqX fc_32 bx2_ kb_41 (by decide)
        refine lv_iconst (v := 1) hx hb dX14_scanSign_176 (by decide) ?_
        refine lv_goto (tgt := 181) hx hb dX14_scanSign_177 (by decide) ?_
        refine lv_istore (lv' := [(5, .int 1), (4, .int j68_4), (3, .int j68_3), (0, .ref a0_), (1, .int x1_), (2, .int x2_)]) hx hb dX14_scanSign_181 hl (by decide) rfl (fun ls hl => ?_)
        have kb_1 : bd 1 1 (1 : Int32) := ⟨by decide, by decide⟩
        have hl9 := lv_sub hl [0, 1, 2, 3, 4, 5] (by rfl : lv_pick [(5, .int 1), (4, .int j68_4), (3, .int j68_3), (0, .ref a0_), (1, .int x1_), (2, .int x2_)] [0, 1, 2, 3, 4, 5] = [(5, .int 1), (4, .int j68_4), (3, .int j68_3), (0, .ref a0_), (1, .int x1_), (2, .int x2_)])
        have g9 := g.sub (fx' := []) [] rfl
        exact join_2 1 _ _ _ _ (bd_sub kb_1 (by decide)) g9  hl9
      · have fc_32 := neq_f c_32
        refine lv_iload_n hx hb dX14_scanSign_80 rfl (lv_at hl 4 rfl) ?_
        refine lv_bipush (v := 123) hx hb dX14_scanSign_81 (by decide) ?_
        have kb_123 : bd 123 123 (123 : Int32) := ⟨by decide, by decide⟩
        refine lv_icmp_eq (tgt := 176) hx hb dX14_scanSign_83 (by decide) (fun c_34 => ?_) (fun c_34 => ?_)
        · have fc_34 := eq_f c_34
          have b_35 : bd 123 123 x2_ := eqX fc_34 bx2_ kb_123 (by decide)
          refine lv_iconst (v := 1) hx hb dX14_scanSign_176 (by decide) ?_
          refine lv_goto (tgt := 181) hx hb dX14_scanSign_177 (by decide) ?_
          refine lv_istore (lv' := [(5, .int 1), (4, .int j68_4), (3, .int j68_3), (0, .ref a0_), (1, .int x1_), (2, .int x2_)]) hx hb dX14_scanSign_181 hl (by decide) rfl (fun ls hl => ?_)
          have kb_1 : bd 1 1 (1 : Int32) := ⟨by decide, by decide⟩
          have hl9 := lv_sub hl [0, 1, 2, 3, 4, 5] (by rfl : lv_pick [(5, .int 1), (4, .int j68_4), (3, .int j68_3), (0, .ref a0_), (1, .int x1_), (2, .int x2_)] [0, 1, 2, 3, 4, 5] = [(5, .int 1), (4, .int j68_4), (3, .int j68_3), (0, .ref a0_), (1, .int x1_), (2, .int x2_)])
          have g9 := g.sub (fx' := []) [] rfl
          exact join_2 1 _ _ _ _ (bd_sub kb_1 (by decide)) g9  hl9
        · have fc_34 := neq_f c_34
          refine lv_iload_n hx hb dX14_scanSign_86 rfl (lv_at hl 4 rfl) ?_
          refine lv_bipush (v := 125) hx hb dX14_scanSign_87 (by decide) ?_
          have kb_125 : bd 125 125 (125 : Int32) := ⟨by decide, by decide⟩
          refine lv_icmp_eq (tgt := 176) hx hb dX14_scanSign_89 (by decide) (fun c_36 => ?_) (fun c_36 => ?_)
          · have fc_36 := eq_f c_36
            have b_37 : bd 125 125 x2_ := eqX fc_36 bx2_ kb_125 (by decide)
            refine lv_iconst (v := 1) hx hb dX14_scanSign_176 (by decide) ?_
            refine lv_goto (tgt := 181) hx hb dX14_scanSign_177 (by decide) ?_
            refine lv_istore (lv' := [(5, .int 1), (4, .int j68_4), (3, .int j68_3), (0, .ref a0_), (1, .int x1_), (2, .int x2_)]) hx hb dX14_scanSign_181 hl (by decide) rfl (fun ls hl => ?_)
            have kb_1 : bd 1 1 (1 : Int32) := ⟨by decide, by decide⟩
            have hl9 := lv_sub hl [0, 1, 2, 3, 4, 5] (by rfl : lv_pick [(5, .int 1), (4, .int j68_4), (3, .int j68_3), (0, .ref a0_), (1, .int x1_), (2, .int x2_)] [0, 1, 2, 3, 4, 5] = [(5, .int 1), (4, .int j68_4), (3, .int j68_3), (0, .ref a0_), (1, .int x1_), (2, .int x2_)])
            have g9 := g.sub (fx' := []) [] rfl
            exact join_2 1 _ _ _ _ (bd_sub kb_1 (by decide)) g9  hl9
          · have fc_36 := neq_f c_36
            refine lv_iload_n hx hb dX14_scanSign_92 rfl (lv_at hl 4 rfl) ?_
            refine lv_bipush (v := 91) hx hb dX14_scanSign_93 (by decide) ?_
            have kb_91 : bd 91 91 (91 : Int32) := ⟨by decide, by decide⟩
            refine lv_icmp_eq (tgt := 176) hx hb dX14_scanSign_95 (by decide) (fun c_38 => ?_) (fun c_38 => ?_)
            · have fc_38 := eq_f c_38
              have b_39 : bd 91 91 x2_ := eqX fc_38 bx2_ kb_91 (by decide)
              refine lv_iconst (v := 1) hx hb dX14_scanSign_176 (by decide) ?_
              refine lv_goto (tgt := 181) hx hb dX14_scanSign_177 (by decide) ?_
              refine lv_istore (lv' := [(5, .int 1), (4, .int j68_4), (3, .int j68_3), (0, .ref a0_), (1, .int x1_), (2, .int x2_)]) hx hb dX14_scanSign_181 hl (by decide) rfl (fun ls hl => ?_)
              have kb_1 : bd 1 1 (1 : Int32) := ⟨by decide, by decide⟩
              have hl9 := lv_sub hl [0, 1, 2, 3, 4, 5] (by rfl : lv_pick [(5, .int 1), (4, .int j68_4), (3, .int j68_3), (0, .ref a0_), (1, .int x1_), (2, .int x2_)] [0, 1, 2, 3, 4, 5] = [(5, .int 1), (4, .int j68_4), (3, .int j68_3), (0, .ref a0_), (1, .int x1_), (2, .int x2_)])
              have g9 := g.sub (fx' := []) [] rfl
              exact join_2 1 _ _ _ _ (bd_sub kb_1 (by decide)) g9  hl9
            · have fc_38 := neq_f c_38
              refine lv_iload_n hx hb dX14_scanSign_98 rfl (lv_at hl 4 rfl) ?_
              refine lv_bipush (v := 93) hx hb dX14_scanSign_99 (by decide) ?_
              have kb_93 : bd 93 93 (93 : Int32) := ⟨by decide, by decide⟩
              refine lv_icmp_eq (tgt := 176) hx hb dX14_scanSign_101 (by decide) (fun c_40 => ?_) (fun c_40 => ?_)
              · have fc_40 := eq_f c_40
                have b_41 : bd 93 93 x2_ := eqX fc_40 bx2_ kb_93 (by decide)
                refine lv_iconst (v := 1) hx hb dX14_scanSign_176 (by decide) ?_
                refine lv_goto (tgt := 181) hx hb dX14_scanSign_177 (by decide) ?_
                refine lv_istore (lv' := [(5, .int 1), (4, .int j68_4), (3, .int j68_3), (0, .ref a0_), (1, .int x1_), (2, .int x2_)]) hx hb dX14_scanSign_181 hl (by decide) rfl (fun ls hl => ?_)
                have kb_1 : bd 1 1 (1 : Int32) := ⟨by decide, by decide⟩
                have hl9 := lv_sub hl [0, 1, 2, 3, 4, 5] (by rfl : lv_pick [(5, .int 1), (4, .int j68_4), (3, .int j68_3), (0, .ref a0_), (1, .int x1_), (2, .int x2_)] [0, 1, 2, 3, 4, 5] = [(5, .int 1), (4, .int j68_4), (3, .int j68_3), (0, .ref a0_), (1, .int x1_), (2, .int x2_)])
                have g9 := g.sub (fx' := []) [] rfl
                exact join_2 1 _ _ _ _ (bd_sub kb_1 (by decide)) g9  hl9
              · have fc_40 := neq_f c_40
                refine lv_iload_n hx hb dX14_scanSign_104 rfl (lv_at hl 4 rfl) ?_
                refine lv_bipush (v := 44) hx hb dX14_scanSign_105 (by decide) ?_
                have kb_44 : bd 44 44 (44 : Int32) := ⟨by decide, by decide⟩
                refine lv_icmp_eq (tgt := 176) hx hb dX14_scanSign_107 (by decide) (fun c_42 => ?_) (fun c_42 => ?_)
                · have fc_42 := eq_f c_42
                  have b_43 : bd 44 44 x2_ := eqX fc_42 bx2_ kb_44 (by decide)
                  refine lv_iconst (v := 1) hx hb dX14_scanSign_176 (by decide) ?_
                  refine lv_goto (tgt := 181) hx hb dX14_scanSign_177 (by decide) ?_
                  refine lv_istore (lv' := [(5, .int 1), (4, .int j68_4), (3, .int j68_3), (0, .ref a0_), (1, .int x1_), (2, .int x2_)]) hx hb dX14_scanSign_181 hl (by decide) rfl (fun ls hl => ?_)
                  have kb_1 : bd 1 1 (1 : Int32) := ⟨by decide, by decide⟩
                  have hl9 := lv_sub hl [0, 1, 2, 3, 4, 5] (by rfl : lv_pick [(5, .int 1), (4, .int j68_4), (3, .int j68_3), (0, .ref a0_), (1, .int x1_), (2, .int x2_)] [0, 1, 2, 3, 4, 5] = [(5, .int 1), (4, .int j68_4), (3, .int j68_3), (0, .ref a0_), (1, .int x1_), (2, .int x2_)])
                  have g9 := g.sub (fx' := []) [] rfl
                  exact join_2 1 _ _ _ _ (bd_sub kb_1 (by decide)) g9  hl9
                · have fc_42 := neq_f c_42
                  refine lv_iload_n hx hb dX14_scanSign_110 rfl (lv_at hl 4 rfl) ?_
                  refine lv_bipush (v := 59) hx hb dX14_scanSign_111 (by decide) ?_
                  have kb_59 : bd 59 59 (59 : Int32) := ⟨by decide, by decide⟩
                  refine lv_icmp_eq (tgt := 176) hx hb dX14_scanSign_113 (by decide) (fun c_44 => ?_) (fun c_44 => ?_)
                  · have fc_44 := eq_f c_44
                    have b_45 : bd 59 59 x2_ := eqX fc_44 bx2_ kb_59 (by decide)
                    refine lv_iconst (v := 1) hx hb dX14_scanSign_176 (by decide) ?_
                    refine lv_goto (tgt := 181) hx hb dX14_scanSign_177 (by decide) ?_
                    refine lv_istore (lv' := [(5, .int 1), (4, .int j68_4), (3, .int j68_3), (0, .ref a0_), (1, .int x1_), (2, .int x2_)]) hx hb dX14_scanSign_181 hl (by decide) rfl (fun ls hl => ?_)
                    have kb_1 : bd 1 1 (1 : Int32) := ⟨by decide, by decide⟩
                    have hl9 := lv_sub hl [0, 1, 2, 3, 4, 5] (by rfl : lv_pick [(5, .int 1), (4, .int j68_4), (3, .int j68_3), (0, .ref a0_), (1, .int x1_), (2, .int x2_)] [0, 1, 2, 3, 4, 5] = [(5, .int 1), (4, .int j68_4), (3, .int j68_3), (0, .ref a0_), (1, .int x1_), (2, .int x2_)])
                    have g9 := g.sub (fx' := []) [] rfl
                    exact join_2 1 _ _ _ _ (bd_sub kb_1 (by decide)) g9  hl9
                  · have fc_44 := neq_f c_44
                    refine lv_iload_n hx hb dX14_scanSign_116 rfl (lv_at hl 4 rfl) ?_
                    refine lv_bipush (v := 46) hx hb dX14_scanSign_117 (by decide) ?_
                    have kb_46 : bd 46 46 (46 : Int32) := ⟨by decide, by decide⟩
                    refine lv_icmp_eq (tgt := 176) hx hb dX14_scanSign_119 (by decide) (fun c_46 => ?_) (fun c_46 => ?_)
                    · have fc_46 := eq_f c_46
                      have b_47 : bd 46 46 x2_ := eqX fc_46 bx2_ kb_46 (by decide)
                      refine lv_iconst (v := 1) hx hb dX14_scanSign_176 (by decide) ?_
                      refine lv_goto (tgt := 181) hx hb dX14_scanSign_177 (by decide) ?_
                      refine lv_istore (lv' := [(5, .int 1), (4, .int j68_4), (3, .int j68_3), (0, .ref a0_), (1, .int x1_), (2, .int x2_)]) hx hb dX14_scanSign_181 hl (by decide) rfl (fun ls hl => ?_)
                      have kb_1 : bd 1 1 (1 : Int32) := ⟨by decide, by decide⟩
                      have hl9 := lv_sub hl [0, 1, 2, 3, 4, 5] (by rfl : lv_pick [(5, .int 1), (4, .int j68_4), (3, .int j68_3), (0, .ref a0_), (1, .int x1_), (2, .int x2_)] [0, 1, 2, 3, 4, 5] = [(5, .int 1), (4, .int j68_4), (3, .int j68_3), (0, .ref a0_), (1, .int x1_), (2, .int x2_)])
                      have g9 := g.sub (fx' := []) [] rfl
                      exact join_2 1 _ _ _ _ (bd_sub kb_1 (by decide)) g9  hl9
                    · have fc_46 := neq_f c_46
                      refine lv_iload_n hx hb dX14_scanSign_122 rfl (lv_at hl 4 rfl) ?_
                      refine lv_bipush (v := 61) hx hb dX14_scanSign_123 (by decide) ?_
                      have kb_61 : bd 61 61 (61 : Int32) := ⟨by decide, by decide⟩
                      refine lv_icmp_eq (tgt := 176) hx hb dX14_scanSign_125 (by decide) (fun c_48 => ?_) (fun c_48 => ?_)
                      · have fc_48 := eq_f c_48
                        have b_49 : bd 61 61 x2_ := eqX fc_48 bx2_ kb_61 (by decide)
                        refine lv_iconst (v := 1) hx hb dX14_scanSign_176 (by decide) ?_
                        refine lv_goto (tgt := 181) hx hb dX14_scanSign_177 (by decide) ?_
                        refine lv_istore (lv' := [(5, .int 1), (4, .int j68_4), (3, .int j68_3), (0, .ref a0_), (1, .int x1_), (2, .int x2_)]) hx hb dX14_scanSign_181 hl (by decide) rfl (fun ls hl => ?_)
                        have kb_1 : bd 1 1 (1 : Int32) := ⟨by decide, by decide⟩
                        have hl9 := lv_sub hl [0, 1, 2, 3, 4, 5] (by rfl : lv_pick [(5, .int 1), (4, .int j68_4), (3, .int j68_3), (0, .ref a0_), (1, .int x1_), (2, .int x2_)] [0, 1, 2, 3, 4, 5] = [(5, .int 1), (4, .int j68_4), (3, .int j68_3), (0, .ref a0_), (1, .int x1_), (2, .int x2_)])
                        have g9 := g.sub (fx' := []) [] rfl
                        exact join_2 1 _ _ _ _ (bd_sub kb_1 (by decide)) g9  hl9
                      · have fc_48 := neq_f c_48
                        refine lv_iload_n hx hb dX14_scanSign_128 rfl (lv_at hl 4 rfl) ?_
                        refine lv_bipush (v := 60) hx hb dX14_scanSign_129 (by decide) ?_
                        have kb_60 : bd 60 60 (60 : Int32) := ⟨by decide, by decide⟩
                        refine lv_icmp_eq (tgt := 176) hx hb dX14_scanSign_131 (by decide) (fun c_50 => ?_) (fun c_50 => ?_)
                        · have fc_50 := eq_f c_50
                          have b_51 : bd 60 60 x2_ := eqX fc_50 bx2_ kb_60 (by decide)
                          refine lv_iconst (v := 1) hx hb dX14_scanSign_176 (by decide) ?_
                          refine lv_goto (tgt := 181) hx hb dX14_scanSign_177 (by decide) ?_
                          refine lv_istore (lv' := [(5, .int 1), (4, .int j68_4), (3, .int j68_3), (0, .ref a0_), (1, .int x1_), (2, .int x2_)]) hx hb dX14_scanSign_181 hl (by decide) rfl (fun ls hl => ?_)
                          have kb_1 : bd 1 1 (1 : Int32) := ⟨by decide, by decide⟩
                          have hl9 := lv_sub hl [0, 1, 2, 3, 4, 5] (by rfl : lv_pick [(5, .int 1), (4, .int j68_4), (3, .int j68_3), (0, .ref a0_), (1, .int x1_), (2, .int x2_)] [0, 1, 2, 3, 4, 5] = [(5, .int 1), (4, .int j68_4), (3, .int j68_3), (0, .ref a0_), (1, .int x1_), (2, .int x2_)])
                          have g9 := g.sub (fx' := []) [] rfl
                          exact join_2 1 _ _ _ _ (bd_sub kb_1 (by decide)) g9  hl9
                        · have fc_50 := neq_f c_50
                          refine lv_iload_n hx hb dX14_scanSign_134 rfl (lv_at hl 4 rfl) ?_
                          refine lv_bipush (v := 62) hx hb dX14_scanSign_135 (by decide) ?_
                          have kb_62 : bd 62 62 (62 : Int32) := ⟨by decide, by decide⟩
                          refine lv_icmp_eq (tgt := 176) hx hb dX14_scanSign_137 (by decide) (fun c_52 => ?_) (fun c_52 => ?_)
                          · have fc_52 := eq_f c_52
                            have b_53 : bd 62 62 x2_ := eqX fc_52 bx2_ kb_62 (by decide)
                            refine lv_iconst (v := 1) hx hb dX14_scanSign_176 (by decide) ?_
                            refine lv_goto (tgt := 181) hx hb dX14_scanSign_177 (by decide) ?_
                            refine lv_istore (lv' := [(5, .int 1), (4, .int j68_4), (3, .int j68_3), (0, .ref a0_), (1, .int x1_), (2, .int x2_)]) hx hb dX14_scanSign_181 hl (by decide) rfl (fun ls hl => ?_)
                            have kb_1 : bd 1 1 (1 : Int32) := ⟨by decide, by decide⟩
                            have hl9 := lv_sub hl [0, 1, 2, 3, 4, 5] (by rfl : lv_pick [(5, .int 1), (4, .int j68_4), (3, .int j68_3), (0, .ref a0_), (1, .int x1_), (2, .int x2_)] [0, 1, 2, 3, 4, 5] = [(5, .int 1), (4, .int j68_4), (3, .int j68_3), (0, .ref a0_), (1, .int x1_), (2, .int x2_)])
                            have g9 := g.sub (fx' := []) [] rfl
                            exact join_2 1 _ _ _ _ (bd_sub kb_1 (by decide)) g9  hl9
                          · have fc_52 := neq_f c_52
                            refine lv_iload_n hx hb dX14_scanSign_140 rfl (lv_at hl 4 rfl) ?_
                            refine lv_bipush (v := 43) hx hb dX14_scanSign_141 (by decide) ?_
                            have kb_43 : bd 43 43 (43 : Int32) := ⟨by decide, by decide⟩
                            refine lv_icmp_eq (tgt := 176) hx hb dX14_scanSign_143 (by decide) (fun c_54 => ?_) (fun c_54 => ?_)
                            · have fc_54 := eq_f c_54
                              have b_55 : bd 43 43 x2_ := eqX fc_54 bx2_ kb_43 (by decide)
                              refine lv_iconst (v := 1) hx hb dX14_scanSign_176 (by decide) ?_
                              refine lv_goto (tgt := 181) hx hb dX14_scanSign_177 (by decide) ?_
                              refine lv_istore (lv' := [(5, .int 1), (4, .int j68_4), (3, .int j68_3), (0, .ref a0_), (1, .int x1_), (2, .int x2_)]) hx hb dX14_scanSign_181 hl (by decide) rfl (fun ls hl => ?_)
                              have kb_1 : bd 1 1 (1 : Int32) := ⟨by decide, by decide⟩
                              have hl9 := lv_sub hl [0, 1, 2, 3, 4, 5] (by rfl : lv_pick [(5, .int 1), (4, .int j68_4), (3, .int j68_3), (0, .ref a0_), (1, .int x1_), (2, .int x2_)] [0, 1, 2, 3, 4, 5] = [(5, .int 1), (4, .int j68_4), (3, .int j68_3), (0, .ref a0_), (1, .int x1_), (2, .int x2_)])
                              have g9 := g.sub (fx' := []) [] rfl
                              exact join_2 1 _ _ _ _ (bd_sub kb_1 (by decide)) g9  hl9
                            · have fc_54 := neq_f c_54
                              refine lv_iload_n hx hb dX14_scanSign_146 rfl (lv_at hl 4 rfl) ?_
                              refine lv_bipush (v := 45) hx hb dX14_scanSign_147 (by decide) ?_
                              have kb_45 : bd 45 45 (45 : Int32) := ⟨by decide, by decide⟩
                              refine lv_icmp_eq (tgt := 176) hx hb dX14_scanSign_149 (by decide) (fun c_56 => ?_) (fun c_56 => ?_)
                              · have fc_56 := eq_f c_56
                                have b_57 : bd 45 45 x2_ := eqX fc_56 bx2_ kb_45 (by decide)
                                refine lv_iconst (v := 1) hx hb dX14_scanSign_176 (by decide) ?_
                                refine lv_goto (tgt := 181) hx hb dX14_scanSign_177 (by decide) ?_
                                refine lv_istore (lv' := [(5, .int 1), (4, .int j68_4), (3, .int j68_3), (0, .ref a0_), (1, .int x1_), (2, .int x2_)]) hx hb dX14_scanSign_181 hl (by decide) rfl (fun ls hl => ?_)
                                have kb_1 : bd 1 1 (1 : Int32) := ⟨by decide, by decide⟩
                                have hl9 := lv_sub hl [0, 1, 2, 3, 4, 5] (by rfl : lv_pick [(5, .int 1), (4, .int j68_4), (3, .int j68_3), (0, .ref a0_), (1, .int x1_), (2, .int x2_)] [0, 1, 2, 3, 4, 5] = [(5, .int 1), (4, .int j68_4), (3, .int j68_3), (0, .ref a0_), (1, .int x1_), (2, .int x2_)])
                                have g9 := g.sub (fx' := []) [] rfl
                                exact join_2 1 _ _ _ _ (bd_sub kb_1 (by decide)) g9  hl9
                              · have fc_56 := neq_f c_56
                                refine lv_iload_n hx hb dX14_scanSign_152 rfl (lv_at hl 4 rfl) ?_
                                refine lv_bipush (v := 42) hx hb dX14_scanSign_153 (by decide) ?_
                                have kb_42 : bd 42 42 (42 : Int32) := ⟨by decide, by decide⟩
                                refine lv_icmp_eq (tgt := 176) hx hb dX14_scanSign_155 (by decide) (fun c_58 => ?_) (fun c_58 => ?_)
                                · have fc_58 := eq_f c_58
                                  have b_59 : bd 42 42 x2_ := eqX fc_58 bx2_ kb_42 (by decide)
                                  refine lv_iconst (v := 1) hx hb dX14_scanSign_176 (by decide) ?_
                                  refine lv_goto (tgt := 181) hx hb dX14_scanSign_177 (by decide) ?_
                                  refine lv_istore (lv' := [(5, .int 1), (4, .int j68_4), (3, .int j68_3), (0, .ref a0_), (1, .int x1_), (2, .int x2_)]) hx hb dX14_scanSign_181 hl (by decide) rfl (fun ls hl => ?_)
                                  have kb_1 : bd 1 1 (1 : Int32) := ⟨by decide, by decide⟩
                                  have hl9 := lv_sub hl [0, 1, 2, 3, 4, 5] (by rfl : lv_pick [(5, .int 1), (4, .int j68_4), (3, .int j68_3), (0, .ref a0_), (1, .int x1_), (2, .int x2_)] [0, 1, 2, 3, 4, 5] = [(5, .int 1), (4, .int j68_4), (3, .int j68_3), (0, .ref a0_), (1, .int x1_), (2, .int x2_)])
                                  have g9 := g.sub (fx' := []) [] rfl
                                  exact join_2 1 _ _ _ _ (bd_sub kb_1 (by decide)) g9  hl9
                                · have fc_58 := neq_f c_58
                                  refine lv_iload_n hx hb dX14_scanSign_158 rfl (lv_at hl 4 rfl) ?_
                                  refine lv_bipush (v := 47) hx hb dX14_scanSign_159 (by decide) ?_
                                  have kb_47 : bd 47 47 (47 : Int32) := ⟨by decide, by decide⟩
                                  refine lv_icmp_eq (tgt := 176) hx hb dX14_scanSign_161 (by decide) (fun c_60 => ?_) (fun c_60 => ?_)
                                  · have fc_60 := eq_f c_60
                                    have b_61 : bd 47 47 x2_ := eqX fc_60 bx2_ kb_47 (by decide)
                                    refine lv_iconst (v := 1) hx hb dX14_scanSign_176 (by decide) ?_
                                    refine lv_goto (tgt := 181) hx hb dX14_scanSign_177 (by decide) ?_
                                    refine lv_istore (lv' := [(5, .int 1), (4, .int j68_4), (3, .int j68_3), (0, .ref a0_), (1, .int x1_), (2, .int x2_)]) hx hb dX14_scanSign_181 hl (by decide) rfl (fun ls hl => ?_)
                                    have kb_1 : bd 1 1 (1 : Int32) := ⟨by decide, by decide⟩
                                    have hl9 := lv_sub hl [0, 1, 2, 3, 4, 5] (by rfl : lv_pick [(5, .int 1), (4, .int j68_4), (3, .int j68_3), (0, .ref a0_), (1, .int x1_), (2, .int x2_)] [0, 1, 2, 3, 4, 5] = [(5, .int 1), (4, .int j68_4), (3, .int j68_3), (0, .ref a0_), (1, .int x1_), (2, .int x2_)])
                                    have g9 := g.sub (fx' := []) [] rfl
                                    exact join_2 1 _ _ _ _ (bd_sub kb_1 (by decide)) g9  hl9
                                  · have fc_60 := neq_f c_60
                                    refine lv_iload_n hx hb dX14_scanSign_164 rfl (lv_at hl 4 rfl) ?_
                                    refine lv_bipush (v := 37) hx hb dX14_scanSign_165 (by decide) ?_
                                    have kb_37 : bd 37 37 (37 : Int32) := ⟨by decide, by decide⟩
                                    refine lv_icmp_eq (tgt := 176) hx hb dX14_scanSign_167 (by decide) (fun c_62 => ?_) (fun c_62 => ?_)
                                    · have fc_62 := eq_f c_62
                                      have b_63 : bd 37 37 x2_ := eqX fc_62 bx2_ kb_37 (by decide)
                                      refine lv_iconst (v := 1) hx hb dX14_scanSign_176 (by decide) ?_
                                      refine lv_goto (tgt := 181) hx hb dX14_scanSign_177 (by decide) ?_
                                      refine lv_istore (lv' := [(5, .int 1), (4, .int j68_4), (3, .int j68_3), (0, .ref a0_), (1, .int x1_), (2, .int x2_)]) hx hb dX14_scanSign_181 hl (by decide) rfl (fun ls hl => ?_)
                                      have kb_1 : bd 1 1 (1 : Int32) := ⟨by decide, by decide⟩
                                      have hl9 := lv_sub hl [0, 1, 2, 3, 4, 5] (by rfl : lv_pick [(5, .int 1), (4, .int j68_4), (3, .int j68_3), (0, .ref a0_), (1, .int x1_), (2, .int x2_)] [0, 1, 2, 3, 4, 5] = [(5, .int 1), (4, .int j68_4), (3, .int j68_3), (0, .ref a0_), (1, .int x1_), (2, .int x2_)])
                                      have g9 := g.sub (fx' := []) [] rfl
                                      exact join_2 1 _ _ _ _ (bd_sub kb_1 (by decide)) g9  hl9
                                    · have fc_62 := neq_f c_62
                                      refine lv_iload_n hx hb dX14_scanSign_170 rfl (lv_at hl 4 rfl) ?_
                                      refine lv_bipush (v := 33) hx hb dX14_scanSign_171 (by decide) ?_
                                      have kb_33 : bd 33 33 (33 : Int32) := ⟨by decide, by decide⟩
                                      refine lv_icmp_ne (tgt := 180) hx hb dX14_scanSign_173 (by decide) (fun c_64 => ?_) (fun c_64 => ?_)
                                      · have fc_64 := neq_f c_64
                                        refine lv_iconst (v := 0) hx hb dX14_scanSign_180 (by decide) ?_
                                        refine lv_istore (lv' := [(5, .int 0), (4, .int j68_4), (3, .int j68_3), (0, .ref a0_), (1, .int x1_), (2, .int x2_)]) hx hb dX14_scanSign_181 hl (by decide) rfl (fun ls hl => ?_)
                                        have kb_0 : bd 0 0 (0 : Int32) := ⟨by decide, by decide⟩
                                        have hl9 := lv_sub hl [0, 1, 2, 3, 4, 5] (by rfl : lv_pick [(5, .int 0), (4, .int j68_4), (3, .int j68_3), (0, .ref a0_), (1, .int x1_), (2, .int x2_)] [0, 1, 2, 3, 4, 5] = [(5, .int 0), (4, .int j68_4), (3, .int j68_3), (0, .ref a0_), (1, .int x1_), (2, .int x2_)])
                                        have g9 := g.sub (fx' := []) [] rfl
                                        exact join_2 0 _ _ _ _ (bd_sub kb_0 (by decide)) g9  hl9
                                      · have fc_64 := eq_f c_64
                                        have b_65 : bd 33 33 x2_ := eqX fc_64 bx2_ kb_33 (by decide)
                                        refine lv_iconst (v := 1) hx hb dX14_scanSign_176 (by decide) ?_
                                        refine lv_goto (tgt := 181) hx hb dX14_scanSign_177 (by decide) ?_
                                        refine lv_istore (lv' := [(5, .int 1), (4, .int j68_4), (3, .int j68_3), (0, .ref a0_), (1, .int x1_), (2, .int x2_)]) hx hb dX14_scanSign_181 hl (by decide) rfl (fun ls hl => ?_)
                                        have kb_1 : bd 1 1 (1 : Int32) := ⟨by decide, by decide⟩
                                        have hl9 := lv_sub hl [0, 1, 2, 3, 4, 5] (by rfl : lv_pick [(5, .int 1), (4, .int j68_4), (3, .int j68_3), (0, .ref a0_), (1, .int x1_), (2, .int x2_)] [0, 1, 2, 3, 4, 5] = [(5, .int 1), (4, .int j68_4), (3, .int j68_3), (0, .ref a0_), (1, .int x1_), (2, .int x2_)])
                                        have g9 := g.sub (fx' := []) [] rfl
                                        exact join_2 1 _ _ _ _ (bd_sub kb_1 (by decide)) g9  hl9
  refine lv_aload_n hx hb dX14_scanSign_0 rfl (lv_at hl 0 rfl) ?_
  refine lv_iload_n hx hb dX14_scanSign_1 rfl (lv_at hl 1 rfl) ?_
  refine lv_iconst (v := 1) hx hb dX14_scanSign_2 (by decide) ?_
  have kb_1 : bd 1 1 (1 : Int32) := ⟨by decide, by decide⟩
  refine lv_iadd hx hb dX14_scanSign_3 ?_
  refine lv_topi (fun y_66 ey_66 => ?_)
  have ty_66 := add_bd ey_66 bx1_ kb_1 (by decide)
  have b_67 : bd 1 4000 y_66 := add_rg ty_66 bx1_ kb_1 (by decide)
  refine g_calli (va_runV (As := [.int y_66]) (rest := []) ⟨hx, hb, hml, hown, hts⟩ (r_X14_see l dC dI L kd tys f0 s.heap.size g.2.2.2.1 a0_ ma0_ ka0_ y_66 (bd_sub b_67 (by decide))) (cwV 1 hts (gV_ t_2364 t_2366 t_93 t_198 t_2367) rfl rfl rfl (by decide +kernel) ⟨(Nat.le_of_ble_eq_true rfl), (Nat.le_of_ble_eq_true rfl)⟩) (pre3V g hK ma0_ ka0_ (by decide) (q := (RX14, TX14, 67)) rfl) rfl rfl hl.1 rfl (lv_room (Nat.le_of_ble_eq_true rfl)) dX14_scanSign_4 ⟨(Nat.le_of_ble_eq_true rfl), (Nat.le_of_ble_eq_true rfl)⟩) g hK (by decide) (by decide) (fx' := []) rfl (fun r_68 fr_68 H locs hp hMr_68 g => ?_)
  rcases hp with ⟨h_69, -⟩ | ⟨h_70, h_71, x_72, h_73, hF_74⟩
  · obtain rfl : r_68 = (-1) := h_69
    refine lv_istore_n (lv' := [(3, .int (-1)), (0, .ref a0_), (1, .int x1_), (2, .int x2_)]) hx hb dX14_scanSign_7 rfl hl (by decide) rfl (fun ls hl => ?_)
    refine lv_iload_n hx hb dX14_scanSign_8 rfl (lv_at hl 0 rfl) ?_
    refine lv_bipush (v := 61) hx hb dX14_scanSign_9 (by decide) ?_
    refine lv_icmp_ne (tgt := 38) hx hb dX14_scanSign_11 (by decide) (fun c_ => ?_) (fun c_ => absurd c_ (by decide))
    refine lv_iload_n hx hb dX14_scanSign_38 rfl (lv_at hl 3 rfl) ?_
    refine lv_iload_n hx hb dX14_scanSign_39 rfl (lv_at hl 0 rfl) ?_
    have kb_m1 : bd (-1) (-1) ((-1) : Int32) := ⟨by decide, by decide⟩
    refine lv_icmp_ne (tgt := 65) hx hb dX14_scanSign_40 (by decide) (fun c_75 => ?_) (fun c_75 => ?_)
    · have fc_75 := neq_f c_75
      refine lv_iconst (v := 0) hx hb dX14_scanSign_65 (by decide) ?_
      refine lv_istore (lv' := [(4, .int 0), (3, .int (-1)), (0, .ref a0_), (1, .int x1_), (2, .int x2_)]) hx hb dX14_scanSign_66 hl (by decide) rfl (fun ls hl => ?_)
      have kb_0 : bd 0 0 (0 : Int32) := ⟨by decide, by decide⟩
      have hl9 := lv_sub hl [0, 1, 2, 3, 4] (by rfl : lv_pick [(4, .int 0), (3, .int (-1)), (0, .ref a0_), (1, .int x1_), (2, .int x2_)] [0, 1, 2, 3, 4] = [(4, .int 0), (3, .int (-1)), (0, .ref a0_), (1, .int x1_), (2, .int x2_)])
      have g9 := g.sub (fx' := []) [] rfl
      exact join_1 0 (-1) _ _ _ _ (bd_sub kb_0 (by decide)) (bd_sub kb_m1 (by decide)) g9  hl9
    · have fc_75 := eq_f c_75
      have b_76 : bd 0 (-1) x2_ := eqX fc_75 bx2_ kb_m1 (by decide)
      exact bd_no b_76 (by decide)
  · have b_77 : bd 1 3999 y_66 := eqX rfl b_67 h_71 (by decide)
    have b_78 : bd 0 3998 x1_ := add_inv ty_66 b_77 bx1_ kb_1 (by decide)
    have g := g.more hF_74
    refine lv_istore_n (lv' := [(3, .int r_68), (0, .ref a0_), (1, .int x1_), (2, .int x2_)]) hx hb dX14_scanSign_7 rfl hl (by decide) rfl (fun ls hl => ?_)
    refine lv_iload_n hx hb dX14_scanSign_8 rfl (lv_at hl 0 rfl) ?_
    refine lv_bipush (v := 61) hx hb dX14_scanSign_9 (by decide) ?_
    have kb_61 : bd 61 61 (61 : Int32) := ⟨by decide, by decide⟩
    refine lv_icmp_ne (tgt := 38) hx hb dX14_scanSign_11 (by decide) (fun c_79 => ?_) (fun c_79 => ?_)
    · have fc_79 := neq_f c_79
      refine lv_iload_n hx hb dX14_scanSign_38 rfl (lv_at hl 3 rfl) ?_
      refine lv_iload_n hx hb dX14_scanSign_39 rfl (lv_at hl 0 rfl) ?_
      refine lv_icmp_ne (tgt := 65) hx hb dX14_scanSign_40 (by decide) (fun c_80 => ?_) (fun c_80 => ?_)
      · have fc_80 := neq_f c_80
        refine lv_iconst (v := 0) hx hb dX14_scanSign_65 (by decide) ?_
        refine lv_istore (lv' := [(4, .int 0), (3, .int r_68), (0, .ref a0_), (1, .int x1_), (2, .int x2_)]) hx hb dX14_scanSign_66 hl (by decide) rfl (fun ls hl => ?_)
        have kb_0 : bd 0 0 (0 : Int32) := ⟨by decide, by decide⟩
        have hl9 := lv_sub hl [0, 1, 2, 3, 4] (by rfl : lv_pick [(4, .int 0), (3, .int r_68), (0, .ref a0_), (1, .int x1_), (2, .int x2_)] [0, 1, 2, 3, 4] = [(4, .int 0), (3, .int r_68), (0, .ref a0_), (1, .int x1_), (2, .int x2_)])
        have g9 := g.sub (fx' := []) [] rfl
        exact join_1 0 r_68 _ _ _ _ (bd_sub kb_0 (by decide)) (bd_sub h_70 (by decide)) g9  hl9
      · have fc_80 := eq_f c_80
        refine lv_iload_n hx hb dX14_scanSign_43 rfl (lv_at hl 3 rfl) ?_
        refine lv_bipush (v := 46) hx hb dX14_scanSign_44 (by decide) ?_
        have kb_46 : bd 46 46 (46 : Int32) := ⟨by decide, by decide⟩
        refine lv_icmp_eq (tgt := 61) hx hb dX14_scanSign_46 (by decide) (fun c_81 => ?_) (fun c_81 => ?_)
        · have fc_81 := eq_f c_81
          have b_82 : bd 46 46 x2_ := eqX fc_81 bx2_ kb_46 (by decide)
          refine lv_iconst (v := 1) hx hb dX14_scanSign_61 (by decide) ?_
          refine lv_goto (tgt := 66) hx hb dX14_scanSign_62 (by decide) ?_
          refine lv_istore (lv' := [(4, .int 1), (3, .int r_68), (0, .ref a0_), (1, .int x1_), (2, .int x2_)]) hx hb dX14_scanSign_66 hl (by decide) rfl (fun ls hl => ?_)
          have hl9 := lv_sub hl [0, 1, 2, 3, 4] (by rfl : lv_pick [(4, .int 1), (3, .int r_68), (0, .ref a0_), (1, .int x1_), (2, .int x2_)] [0, 1, 2, 3, 4] = [(4, .int 1), (3, .int r_68), (0, .ref a0_), (1, .int x1_), (2, .int x2_)])
          have g9 := g.sub (fx' := []) [] rfl
          exact join_1 1 r_68 _ _ _ _ (bd_sub kb_1 (by decide)) (bd_sub h_70 (by decide)) g9  hl9
        · have fc_81 := neq_f c_81
          refine lv_iload_n hx hb dX14_scanSign_49 rfl (lv_at hl 3 rfl) ?_
          refine lv_bipush (v := 38) hx hb dX14_scanSign_50 (by decide) ?_
          have kb_38 : bd 38 38 (38 : Int32) := ⟨by decide, by decide⟩
          refine lv_icmp_eq (tgt := 61) hx hb dX14_scanSign_52 (by decide) (fun c_83 => ?_) (fun c_83 => ?_)
          · have fc_83 := eq_f c_83
            have b_84 : bd 38 38 x2_ := eqX fc_83 bx2_ kb_38 (by decide)
            refine lv_iconst (v := 1) hx hb dX14_scanSign_61 (by decide) ?_
            refine lv_goto (tgt := 66) hx hb dX14_scanSign_62 (by decide) ?_
            refine lv_istore (lv' := [(4, .int 1), (3, .int r_68), (0, .ref a0_), (1, .int x1_), (2, .int x2_)]) hx hb dX14_scanSign_66 hl (by decide) rfl (fun ls hl => ?_)
            have hl9 := lv_sub hl [0, 1, 2, 3, 4] (by rfl : lv_pick [(4, .int 1), (3, .int r_68), (0, .ref a0_), (1, .int x1_), (2, .int x2_)] [0, 1, 2, 3, 4] = [(4, .int 1), (3, .int r_68), (0, .ref a0_), (1, .int x1_), (2, .int x2_)])
            have g9 := g.sub (fx' := []) [] rfl
            exact join_1 1 r_68 _ _ _ _ (bd_sub kb_1 (by decide)) (bd_sub h_70 (by decide)) g9  hl9
          · have fc_83 := neq_f c_83
            refine lv_iload_n hx hb dX14_scanSign_55 rfl (lv_at hl 3 rfl) ?_
            refine lv_bipush (v := 124) hx hb dX14_scanSign_56 (by decide) ?_
            have kb_124 : bd 124 124 (124 : Int32) := ⟨by decide, by decide⟩
            refine lv_icmp_ne (tgt := 65) hx hb dX14_scanSign_58 (by decide) (fun c_85 => ?_) (fun c_85 => ?_)
            · have fc_85 := neq_f c_85
              refine lv_iconst (v := 0) hx hb dX14_scanSign_65 (by decide) ?_
              refine lv_istore (lv' := [(4, .int 0), (3, .int r_68), (0, .ref a0_), (1, .int x1_), (2, .int x2_)]) hx hb dX14_scanSign_66 hl (by decide) rfl (fun ls hl => ?_)
              have kb_0 : bd 0 0 (0 : Int32) := ⟨by decide, by decide⟩
              have hl9 := lv_sub hl [0, 1, 2, 3, 4] (by rfl : lv_pick [(4, .int 0), (3, .int r_68), (0, .ref a0_), (1, .int x1_), (2, .int x2_)] [0, 1, 2, 3, 4] = [(4, .int 0), (3, .int r_68), (0, .ref a0_), (1, .int x1_), (2, .int x2_)])
              have g9 := g.sub (fx' := []) [] rfl
              exact join_1 0 r_68 _ _ _ _ (bd_sub kb_0 (by decide)) (bd_sub h_70 (by decide)) g9  hl9
            · have fc_85 := eq_f c_85
              have b_86 : bd 124 124 x2_ := eqX fc_85 bx2_ kb_124 (by decide)
              refine lv_iconst (v := 1) hx hb dX14_scanSign_61 (by decide) ?_
              refine lv_goto (tgt := 66) hx hb dX14_scanSign_62 (by decide) ?_
              refine lv_istore (lv' := [(4, .int 1), (3, .int r_68), (0, .ref a0_), (1, .int x1_), (2, .int x2_)]) hx hb dX14_scanSign_66 hl (by decide) rfl (fun ls hl => ?_)
              have hl9 := lv_sub hl [0, 1, 2, 3, 4] (by rfl : lv_pick [(4, .int 1), (3, .int r_68), (0, .ref a0_), (1, .int x1_), (2, .int x2_)] [0, 1, 2, 3, 4] = [(4, .int 1), (3, .int r_68), (0, .ref a0_), (1, .int x1_), (2, .int x2_)])
              have g9 := g.sub (fx' := []) [] rfl
              exact join_1 1 r_68 _ _ _ _ (bd_sub kb_1 (by decide)) (bd_sub h_70 (by decide)) g9  hl9
    · have fc_79 := eq_f c_79
      have b_87 : bd 61 61 r_68 := eqX fc_79 h_70 kb_61 (by decide)
      refine lv_iload_n hx hb dX14_scanSign_14 rfl (lv_at hl 3 rfl) ?_
      refine lv_bipush (v := 61) hx hb dX14_scanSign_15 (by decide) ?_
      refine lv_icmp_eq (tgt := 61) hx hb dX14_scanSign_17 (by decide) (fun c_88 => ?_) (fun c_88 => ?_)
      · have fc_88 := eq_f c_88
        have b_89 : bd 61 61 x2_ := eqX fc_88 bx2_ kb_61 (by decide)
        refine lv_iconst (v := 1) hx hb dX14_scanSign_61 (by decide) ?_
        refine lv_goto (tgt := 66) hx hb dX14_scanSign_62 (by decide) ?_
        refine lv_istore (lv' := [(4, .int 1), (3, .int r_68), (0, .ref a0_), (1, .int x1_), (2, .int x2_)]) hx hb dX14_scanSign_66 hl (by decide) rfl (fun ls hl => ?_)
        have hl9 := lv_sub hl [0, 1, 2, 3, 4] (by rfl : lv_pick [(4, .int 1), (3, .int r_68), (0, .ref a0_), (1, .int x1_), (2, .int x2_)] [0, 1, 2, 3, 4] = [(4, .int 1), (3, .int r_68), (0, .ref a0_), (1, .int x1_), (2, .int x2_)])
        have g9 := g.sub (fx' := []) [] rfl
        exact join_1 1 r_68 _ _ _ _ (bd_sub kb_1 (by decide)) (bd_sub b_87 (by decide)) g9  hl9
      · have fc_88 := neq_f c_88
        refine lv_iload_n hx hb dX14_scanSign_20 rfl (lv_at hl 3 rfl) ?_
        refine lv_bipush (v := 33) hx hb dX14_scanSign_21 (by decide) ?_
        have kb_33 : bd 33 33 (33 : Int32) := ⟨by decide, by decide⟩
        refine lv_icmp_eq (tgt := 61) hx hb dX14_scanSign_23 (by decide) (fun c_90 => ?_) (fun c_90 => ?_)
        · have fc_90 := eq_f c_90
          have b_91 : bd 33 33 x2_ := eqX fc_90 bx2_ kb_33 (by decide)
          refine lv_iconst (v := 1) hx hb dX14_scanSign_61 (by decide) ?_
          refine lv_goto (tgt := 66) hx hb dX14_scanSign_62 (by decide) ?_
          refine lv_istore (lv' := [(4, .int 1), (3, .int r_68), (0, .ref a0_), (1, .int x1_), (2, .int x2_)]) hx hb dX14_scanSign_66 hl (by decide) rfl (fun ls hl => ?_)
          have hl9 := lv_sub hl [0, 1, 2, 3, 4] (by rfl : lv_pick [(4, .int 1), (3, .int r_68), (0, .ref a0_), (1, .int x1_), (2, .int x2_)] [0, 1, 2, 3, 4] = [(4, .int 1), (3, .int r_68), (0, .ref a0_), (1, .int x1_), (2, .int x2_)])
          have g9 := g.sub (fx' := []) [] rfl
          exact join_1 1 r_68 _ _ _ _ (bd_sub kb_1 (by decide)) (bd_sub b_87 (by decide)) g9  hl9
        · have fc_90 := neq_f c_90
          refine lv_iload_n hx hb dX14_scanSign_26 rfl (lv_at hl 3 rfl) ?_
          refine lv_bipush (v := 60) hx hb dX14_scanSign_27 (by decide) ?_
          have kb_60 : bd 60 60 (60 : Int32) := ⟨by decide, by decide⟩
          refine lv_icmp_eq (tgt := 61) hx hb dX14_scanSign_29 (by decide) (fun c_92 => ?_) (fun c_92 => ?_)
          · have fc_92 := eq_f c_92
            have b_93 : bd 60 60 x2_ := eqX fc_92 bx2_ kb_60 (by decide)
            refine lv_iconst (v := 1) hx hb dX14_scanSign_61 (by decide) ?_
            refine lv_goto (tgt := 66) hx hb dX14_scanSign_62 (by decide) ?_
            refine lv_istore (lv' := [(4, .int 1), (3, .int r_68), (0, .ref a0_), (1, .int x1_), (2, .int x2_)]) hx hb dX14_scanSign_66 hl (by decide) rfl (fun ls hl => ?_)
            have hl9 := lv_sub hl [0, 1, 2, 3, 4] (by rfl : lv_pick [(4, .int 1), (3, .int r_68), (0, .ref a0_), (1, .int x1_), (2, .int x2_)] [0, 1, 2, 3, 4] = [(4, .int 1), (3, .int r_68), (0, .ref a0_), (1, .int x1_), (2, .int x2_)])
            have g9 := g.sub (fx' := []) [] rfl
            exact join_1 1 r_68 _ _ _ _ (bd_sub kb_1 (by decide)) (bd_sub b_87 (by decide)) g9  hl9
          · have fc_92 := neq_f c_92
            refine lv_iload_n hx hb dX14_scanSign_32 rfl (lv_at hl 3 rfl) ?_
            refine lv_bipush (v := 62) hx hb dX14_scanSign_33 (by decide) ?_
            have kb_62 : bd 62 62 (62 : Int32) := ⟨by decide, by decide⟩
            refine lv_icmp_eq (tgt := 61) hx hb dX14_scanSign_35 (by decide) (fun c_94 => ?_) (fun c_94 => ?_)
            · have fc_94 := eq_f c_94
              have b_95 : bd 62 62 x2_ := eqX fc_94 bx2_ kb_62 (by decide)
              refine lv_iconst (v := 1) hx hb dX14_scanSign_61 (by decide) ?_
              refine lv_goto (tgt := 66) hx hb dX14_scanSign_62 (by decide) ?_
              refine lv_istore (lv' := [(4, .int 1), (3, .int r_68), (0, .ref a0_), (1, .int x1_), (2, .int x2_)]) hx hb dX14_scanSign_66 hl (by decide) rfl (fun ls hl => ?_)
              have hl9 := lv_sub hl [0, 1, 2, 3, 4] (by rfl : lv_pick [(4, .int 1), (3, .int r_68), (0, .ref a0_), (1, .int x1_), (2, .int x2_)] [0, 1, 2, 3, 4] = [(4, .int 1), (3, .int r_68), (0, .ref a0_), (1, .int x1_), (2, .int x2_)])
              have g9 := g.sub (fx' := []) [] rfl
              exact join_1 1 r_68 _ _ _ _ (bd_sub kb_1 (by decide)) (bd_sub b_87 (by decide)) g9  hl9
            · have fc_94 := neq_f c_94
              refine lv_iload_n hx hb dX14_scanSign_38 rfl (lv_at hl 3 rfl) ?_
              refine lv_iload_n hx hb dX14_scanSign_39 rfl (lv_at hl 0 rfl) ?_
              refine lv_icmp_ne (tgt := 65) hx hb dX14_scanSign_40 (by decide) (fun c_96 => ?_) (fun c_96 => ?_)
              · have fc_96 := neq_f c_96
                refine lv_iconst (v := 0) hx hb dX14_scanSign_65 (by decide) ?_
                refine lv_istore (lv' := [(4, .int 0), (3, .int r_68), (0, .ref a0_), (1, .int x1_), (2, .int x2_)]) hx hb dX14_scanSign_66 hl (by decide) rfl (fun ls hl => ?_)
                have kb_0 : bd 0 0 (0 : Int32) := ⟨by decide, by decide⟩
                have hl9 := lv_sub hl [0, 1, 2, 3, 4] (by rfl : lv_pick [(4, .int 0), (3, .int r_68), (0, .ref a0_), (1, .int x1_), (2, .int x2_)] [0, 1, 2, 3, 4] = [(4, .int 0), (3, .int r_68), (0, .ref a0_), (1, .int x1_), (2, .int x2_)])
                have g9 := g.sub (fx' := []) [] rfl
                exact join_1 0 r_68 _ _ _ _ (bd_sub kb_0 (by decide)) (bd_sub b_87 (by decide)) g9  hl9
              · have fc_96 := eq_f c_96
                have b_97 : bd 61 61 x2_ := eqX fc_96 bx2_ b_87 (by decide)
                refine lv_iload_n hx hb dX14_scanSign_43 rfl (lv_at hl 3 rfl) ?_
                refine lv_bipush (v := 46) hx hb dX14_scanSign_44 (by decide) ?_
                have kb_46 : bd 46 46 (46 : Int32) := ⟨by decide, by decide⟩
                refine lv_icmp_eq (tgt := 61) hx hb dX14_scanSign_46 (by decide) (fun c_98 => ?_) (fun c_98 => ?_)
                · have fc_98 := eq_f c_98
                  have b_99 : bd 61 46 x2_ := eqX fc_98 b_97 kb_46 (by decide)
                  exact bd_no b_99 (by decide)
                · have fc_98 := neq_f c_98
                  refine lv_iload_n hx hb dX14_scanSign_49 rfl (lv_at hl 3 rfl) ?_
                  refine lv_bipush (v := 38) hx hb dX14_scanSign_50 (by decide) ?_
                  have kb_38 : bd 38 38 (38 : Int32) := ⟨by decide, by decide⟩
                  refine lv_icmp_eq (tgt := 61) hx hb dX14_scanSign_52 (by decide) (fun c_100 => ?_) (fun c_100 => ?_)
                  · have fc_100 := eq_f c_100
                    have b_101 : bd 61 38 x2_ := eqX fc_100 b_97 kb_38 (by decide)
                    exact bd_no b_101 (by decide)
                  · have fc_100 := neq_f c_100
                    refine lv_iload_n hx hb dX14_scanSign_55 rfl (lv_at hl 3 rfl) ?_
                    refine lv_bipush (v := 124) hx hb dX14_scanSign_56 (by decide) ?_
                    have kb_124 : bd 124 124 (124 : Int32) := ⟨by decide, by decide⟩
                    refine lv_icmp_ne (tgt := 65) hx hb dX14_scanSign_58 (by decide) (fun c_102 => ?_) (fun c_102 => ?_)
                    · have fc_102 := neq_f c_102
                      refine lv_iconst (v := 0) hx hb dX14_scanSign_65 (by decide) ?_
                      refine lv_istore (lv' := [(4, .int 0), (3, .int r_68), (0, .ref a0_), (1, .int x1_), (2, .int x2_)]) hx hb dX14_scanSign_66 hl (by decide) rfl (fun ls hl => ?_)
                      have kb_0 : bd 0 0 (0 : Int32) := ⟨by decide, by decide⟩
                      have hl9 := lv_sub hl [0, 1, 2, 3, 4] (by rfl : lv_pick [(4, .int 0), (3, .int r_68), (0, .ref a0_), (1, .int x1_), (2, .int x2_)] [0, 1, 2, 3, 4] = [(4, .int 0), (3, .int r_68), (0, .ref a0_), (1, .int x1_), (2, .int x2_)])
                      have g9 := g.sub (fx' := []) [] rfl
                      exact join_1 0 r_68 _ _ _ _ (bd_sub kb_0 (by decide)) (bd_sub b_87 (by decide)) g9  hl9
                    · have fc_102 := eq_f c_102
                      have b_103 : bd 124 61 x2_ := eqX fc_102 b_97 kb_124 (by decide)
                      exact bd_no b_103 (by decide)
set_option maxHeartbeats 4000000 in
set_option maxRecDepth 100000 in
theorem r_J0_coder_7d493 (l : Launch) (dC : Nat → ClassId) (dI : Nat → Nat → Nat) (L : List Nat) (kd : Nat → Nat) (tys : List (ClassId × FieldType)) (f0 : Nat → va_E) (sz : Nat) (hWT : WT L kd tys f0) (adK adV : Nat → Nat) : Met l yJ0_coder_7d493 (.code yJ0_coder_7d493 cJ0_coder_7d493 1 (some .byte) :: lw_g) ({ frames := 0, cells := 0, slots := 0, locals := 0 }) (va_Pc [.ref (adK 3)] (P3A (dC, dI) L tys f0 sz adK adV)) (va_Qi (fun (r : Int32) (f : Nat → va_E) => (r = 0 ∧ True)) (Q3 (dC, dI) L kd tys [] [] f0 sz) (pA L sz)) 0 0 (pA L sz) := by
  refine Met.ofW (cc := cJ0_coder_7d493) (maxL := 1) (ret := (some .byte)) (by decide) rfl ?_
  intro p e s m args below meth c s₁ B hml hv
  obtain ⟨rfl, ⟨hsz, hP, hK, hD0⟩, hAm⟩ := hv
  have hx := B.exec
  have hb := B.bytes
  have hr := B.returns
  have hts := atoms_spec (ws := (.code yJ0_coder_7d493 cJ0_coder_7d493 1 (some .byte) :: lw_g)) B.pre
  have hown : s.vm.findClass RJ0 = some m.cls := findClass_of_methodNamed B.named
  have hlocks := B.notSynchronized
  subst hsz
  have g : G3 (dC, dI) L kd tys s f0 [] [] f0 s.heap [] [] := G3.start hP hD0 hWT Fs.nil
  have hl := lv_entry ([.ref (adK 3)]) (n := 1) (Nat.le_of_ble_eq_true rfl)
  rw [lg_entry_eq]
  generalize (lg_sl ([.ref (adK 3)]) ++ List.replicate (1 - (lg_sl ([.ref (adK 3)])).length) Slot.unset).toArray = ls at hl ⊢
  have hl : lv_has ls 1 [(0, .ref (adK 3))] := hl
  refine W_q (fun Q hQ => ?_)
  refine va_gets (v := .int 1) hx hb hAm.2.2.1 g.2.2.1 hown (hts _ (List.mem_cons_of_mem _ t_240)) (fun _ h9 => h9) dJ0_coder_7d493_0 ?_
  refine lv_if_eq (tgt := 13) hx hb dJ0_coder_7d493_3 (by decide) (fun c_ => absurd c_ (by decide)) (fun c_ => ?_)
  refine lv_aload_n hx hb dJ0_coder_7d493_6 rfl (lv_at hl 0 rfl) ?_
  refine vk_getf hx hb (hAm.2.1.1 3 (by decide)).2.1 g.2.2.1 hown (hts _ (List.mem_cons_of_mem _ t_2845)) (fun _ h9 => h9) dJ0_coder_7d493_7 ?_
  refine lv_goto (tgt := 14) hx hb dJ0_coder_7d493_10 (by decide) ?_
  subst hQ
  exact W.zret (v := 0) hx hb hr rfl (fun t ht hW => ⟨⟨_, _, rfl, ⟨rfl, trivial⟩, q3_of g hK ht hW⟩, g.2.2.1.F ht⟩) g.2.2.1.2.2 dJ0_coder_7d493_14
set_option maxHeartbeats 4000000 in
set_option maxRecDepth 100000 in
theorem r_J0_length_8abf5 (l : Launch) (dC : Nat → ClassId) (dI : Nat → Nat → Nat) (L : List Nat) (kd : Nat → Nat) (tys : List (ClassId × FieldType)) (f0 : Nat → va_E) (sz : Nat) (hWT : WT L kd tys f0) (adK adV : Nat → Nat) : Met l yJ0_length_8abf5 (.code yJ0_length_8abf5 cJ0_length_8abf5 1 (some .int) :: lw_g) ({ frames := 1, cells := 0, slots := 0, locals := 20 }) (va_Pc [.ref (adK 3)] (P3A (dC, dI) L tys f0 sz adK adV)) (va_Qi (fun (r : Int32) (f : Nat → va_E) => (r = 112 ∧ True)) (Q3 (dC, dI) L kd tys [] [] f0 sz) (pA L sz)) 0 0 (pA L sz) := by
  refine Met.ofW (cc := cJ0_length_8abf5) (maxL := 1) (ret := (some .int)) (by decide) rfl ?_
  intro p e s m args below meth c s₁ B hml hv
  obtain ⟨rfl, ⟨hsz, hP, hK, hD0⟩, hAm⟩ := hv
  have hx := B.exec
  have hb := B.bytes
  have hr := B.returns
  have hts := atoms_spec (ws := (.code yJ0_length_8abf5 cJ0_length_8abf5 1 (some .int) :: lw_g)) B.pre
  have hown : s.vm.findClass RJ0 = some m.cls := findClass_of_methodNamed B.named
  have hlocks := B.notSynchronized
  subst hsz
  have g : G3 (dC, dI) L kd tys s f0 [] [] f0 s.heap [] [] := G3.start hP hD0 hWT Fs.nil
  have hl := lv_entry ([.ref (adK 3)]) (n := 1) (Nat.le_of_ble_eq_true rfl)
  rw [lg_entry_eq]
  generalize (lg_sl ([.ref (adK 3)]) ++ List.replicate (1 - (lg_sl ([.ref (adK 3)])).length) Slot.unset).toArray = ls at hl ⊢
  have hl : lv_has ls 1 [(0, .ref (adK 3))] := hl
  refine W_q (fun Q hQ => ?_)
  refine lv_aload_n hx hb dJ0_length_8abf5_0 rfl (lv_at hl 0 rfl) ?_
  refine vk_getf hx hb (hAm.2.1.1 3 (by decide)).2.2.1 g.2.2.1 hown (hts _ (List.mem_cons_of_mem _ t_2844)) (fun _ h9 => h9) dJ0_length_8abf5_1 ?_
  refine va_tlen (v := 112) hx hb (hAm.2.1.1 3 (by decide)).2.2.2 g.2.2.1 (by decide) dJ0_length_8abf5_4 ?_
  refine lv_aload_n hx hb dJ0_length_8abf5_5 rfl (lv_at hl 0 rfl) ?_
  refine g_calli (va_runV (As := []) (rest := [.int 112]) ⟨hx, hb, hml, hown, hts⟩ (r_J0_coder_7d493 l dC dI L kd tys f0 s.heap.size g.2.2.2.1 adK adV) (cwV 0 hts (gV_ t_236 t_237 t_238 t_185 t_239) rfl rfl rfl (by decide +kernel) ⟨(Nat.le_of_ble_eq_true rfl), (Nat.le_of_ble_eq_true rfl)⟩) (pre3TA g hK hAm 3 (by decide)) rfl rfl hl.1 rfl (lv_room (Nat.le_of_ble_eq_true rfl)) dJ0_length_8abf5_6 ⟨(Nat.le_of_ble_eq_true rfl), (Nat.le_of_ble_eq_true rfl)⟩) g hK (by decide) (by decide) (fx' := []) rfl (fun r_1 fr_1 H locs hp hMr_1 g => ?_)
  obtain ⟨h_2, -⟩ := hp
  obtain rfl : r_1 = 0 := h_2
  have kb_0 : bd 0 0 (0 : Int32) := ⟨by decide, by decide⟩
  have kb_112 : bd 112 112 (112 : Int32) := ⟨by decide, by decide⟩
  refine lv_ishr hx hb dJ0_length_8abf5_9 ?_
  refine lv_topi (fun y_3 ey_3 => ?_)
  obtain rfl : y_3 = 112 := ey_3.trans (by decide)
  subst hQ
  exact W.iret (v := 112) hx hb hr (fun t ht hW => ⟨⟨_, _, rfl, ⟨rfl, trivial⟩, q3_of g hK ht hW⟩, g.2.2.1.F ht⟩) g.2.2.1.2.2 dJ0_length_8abf5_10
set_option maxHeartbeats 4000000 in
set_option maxRecDepth 100000 in
theorem r_J0_isLatin1_aae02 (l : Launch) (dC : Nat → ClassId) (dI : Nat → Nat → Nat) (L : List Nat) (kd : Nat → Nat) (tys : List (ClassId × FieldType)) (f0 : Nat → va_E) (sz : Nat) (hWT : WT L kd tys f0) (adK adV : Nat → Nat) : Met l yJ0_isLatin1_aae02 (.code yJ0_isLatin1_aae02 cJ0_isLatin1_aae02 1 (some .boolean) :: lw_g) ({ frames := 0, cells := 0, slots := 0, locals := 0 }) (va_Pc [.ref (adK 3)] (P3A (dC, dI) L tys f0 sz adK adV)) (va_Qi (fun (r : Int32) (f : Nat → va_E) => (r = 1 ∧ True)) (Q3 (dC, dI) L kd tys [] [] f0 sz) (pA L sz)) 0 0 (pA L sz) := by
  refine Met.ofW (cc := cJ0_isLatin1_aae02) (maxL := 1) (ret := (some .boolean)) (by decide) rfl ?_
  intro p e s m args below meth c s₁ B hml hv
  obtain ⟨rfl, ⟨hsz, hP, hK, hD0⟩, hAm⟩ := hv
  have hx := B.exec
  have hb := B.bytes
  have hr := B.returns
  have hts := atoms_spec (ws := (.code yJ0_isLatin1_aae02 cJ0_isLatin1_aae02 1 (some .boolean) :: lw_g)) B.pre
  have hown : s.vm.findClass RJ0 = some m.cls := findClass_of_methodNamed B.named
  have hlocks := B.notSynchronized
  subst hsz
  have g : G3 (dC, dI) L kd tys s f0 [] [] f0 s.heap [] [] := G3.start hP hD0 hWT Fs.nil
  have hl := lv_entry ([.ref (adK 3)]) (n := 1) (Nat.le_of_ble_eq_true rfl)
  rw [lg_entry_eq]
  generalize (lg_sl ([.ref (adK 3)]) ++ List.replicate (1 - (lg_sl ([.ref (adK 3)])).length) Slot.unset).toArray = ls at hl ⊢
  have hl : lv_has ls 1 [(0, .ref (adK 3))] := hl
  refine W_q (fun Q hQ => ?_)
  refine va_gets (v := .int 1) hx hb hAm.2.2.1 g.2.2.1 hown (hts _ (List.mem_cons_of_mem _ t_240)) (fun _ h9 => h9) dJ0_isLatin1_aae02_0 ?_
  refine lv_if_eq (tgt := 17) hx hb dJ0_isLatin1_aae02_3 (by decide) (fun c_ => absurd c_ (by decide)) (fun c_ => ?_)
  refine lv_aload_n hx hb dJ0_isLatin1_aae02_6 rfl (lv_at hl 0 rfl) ?_
  refine vk_getf hx hb (hAm.2.1.1 3 (by decide)).2.1 g.2.2.1 hown (hts _ (List.mem_cons_of_mem _ t_2845)) (fun _ h9 => h9) dJ0_isLatin1_aae02_7 ?_
  refine lv_if_ne (tgt := 17) hx hb dJ0_isLatin1_aae02_10 (by decide) (fun c_ => absurd c_ (by decide)) (fun c_ => ?_)
  refine lv_iconst (v := 1) hx hb dJ0_isLatin1_aae02_13 (by decide) ?_
  refine lv_goto (tgt := 18) hx hb dJ0_isLatin1_aae02_14 (by decide) ?_
  subst hQ
  have kb_1 : bd 1 1 (1 : Int32) := ⟨by decide, by decide⟩
  exact W.zret (v := 1) hx hb hr (nar_z (bd_sub kb_1 (by decide) : bd 0 1 _).1 (bd_sub kb_1 (by decide) : bd 0 1 _).2) (fun t ht hW => ⟨⟨_, _, rfl, ⟨rfl, trivial⟩, q3_of g hK ht hW⟩, g.2.2.1.F ht⟩) g.2.2.1.2.2 dJ0_isLatin1_aae02_18
set_option maxHeartbeats 4000000 in
set_option maxRecDepth 100000 in
theorem r_J3_checkIndex_8e157_11 (l : Launch) (dC : Nat → ClassId) (dI : Nat → Nat → Nat) (L : List Nat) (kd : Nat → Nat) (tys : List (ClassId × FieldType)) (f0 : Nat → va_E) (sz : Nat) (hWT : WT L kd tys f0) (adK adV : Nat → Nat) (x0_ : Int32) (bx0_ : bd 0 111 x0_) (x1_ : Int32) (bx1_ : bd 112 112 x1_) : Met l yJ3_checkIndex_8e157 (.code yJ3_checkIndex_8e157 cJ3_checkIndex_8e157 3 (some .int) :: lw_g) ({ frames := 0, cells := 0, slots := 0, locals := 0 }) (va_Pc [.int x0_, .int x1_, .null] (P3A (dC, dI) L tys f0 sz adK adV)) (va_Qi (fun (r : Int32) (f : Nat → va_E) => (bd 0 111 r ∧ True)) (Q3 (dC, dI) L kd tys [] [] f0 sz) (pA L sz)) 0 0 (pA L sz) := by
  refine Met.ofW (cc := cJ3_checkIndex_8e157) (maxL := 3) (ret := (some .int)) (by decide) rfl ?_
  intro p e s m args below meth c s₁ B hml hv
  obtain ⟨rfl, ⟨hsz, hP, hK, hD0⟩, hAm⟩ := hv
  have hx := B.exec
  have hb := B.bytes
  have hr := B.returns
  have hts := atoms_spec (ws := (.code yJ3_checkIndex_8e157 cJ3_checkIndex_8e157 3 (some .int) :: lw_g)) B.pre
  have hown : s.vm.findClass RJ3 = some m.cls := findClass_of_methodNamed B.named
  have hlocks := B.notSynchronized
  subst hsz
  have g : G3 (dC, dI) L kd tys s f0 [] [] f0 s.heap [] [] := G3.start hP hD0 hWT Fs.nil
  have hl := lv_entry ([.int x0_, .int x1_, .null]) (n := 3) (Nat.le_of_ble_eq_true rfl)
  rw [lg_entry_eq]
  generalize (lg_sl ([.int x0_, .int x1_, .null]) ++ List.replicate (3 - (lg_sl ([.int x0_, .int x1_, .null])).length) Slot.unset).toArray = ls at hl ⊢
  have hl : lv_has ls 3 [(0, .int x0_), (1, .int x1_), (2, .null)] := hl
  refine W_q (fun Q hQ => ?_)
  refine lv_iload_n hx hb dJ3_checkIndex_8e157_0 rfl (lv_at hl 0 rfl) ?_
  have kb_0 : bd 0 0 (0 : Int32) := ⟨by decide, by decide⟩
  refine lv_if_lt (tgt := 9) hx hb dJ3_checkIndex_8e157_1 (by decide) (fun c_1 => ?_) (fun c_1 => ?_)
  · have fc_1 := lt_f c_1
    have b_2 : bd 0 (-1) x0_ := ltL fc_1 bx0_ kb_0 (by decide)
    exact bd_no b_2 (by decide)
  · have fc_1 := nlt_f c_1
    refine lv_iload_n hx hb dJ3_checkIndex_8e157_4 rfl (lv_at hl 0 rfl) ?_
    refine lv_iload_n hx hb dJ3_checkIndex_8e157_5 rfl (lv_at hl 1 rfl) ?_
    refine lv_icmp_lt (tgt := 16) hx hb dJ3_checkIndex_8e157_6 (by decide) (fun c_3 => ?_) (fun c_3 => ?_)
    · have fc_3 := lt_f c_3
      refine lv_iload_n hx hb dJ3_checkIndex_8e157_16 rfl (lv_at hl 0 rfl) ?_
      subst hQ
      exact W.iret (v := x0_) hx hb hr (fun t ht hW => ⟨⟨_, _, rfl, ⟨bx0_, trivial⟩, q3_of g hK ht hW⟩, g.2.2.1.F ht⟩) g.2.2.1.2.2 dJ3_checkIndex_8e157_17
    · have fc_3 := nlt_f c_3
      have b_4 : bd 112 111 x1_ := leL fc_3 bx1_ bx0_ (by decide)
      exact bd_no b_4 (by decide)
set_option maxHeartbeats 4000000 in
set_option maxRecDepth 100000 in
theorem r_J3_checkIndex_8e157_12 (l : Launch) (dC : Nat → ClassId) (dI : Nat → Nat → Nat) (L : List Nat) (kd : Nat → Nat) (tys : List (ClassId × FieldType)) (f0 : Nat → va_E) (sz : Nat) (hWT : WT L kd tys f0) (adK adV : Nat → Nat) (x0_ : Int32) (bx0_ : bd 0 111 x0_) (x1_ : Int32) (bx1_ : bd 112 112 x1_) (a2_ : Nat) : Met l yJ3_checkIndex_8e157 (.code yJ3_checkIndex_8e157 cJ3_checkIndex_8e157 3 (some .int) :: lw_g) ({ frames := 0, cells := 0, slots := 0, locals := 0 }) (va_Pc [.int x0_, .int x1_, .ref a2_] (P3A (dC, dI) L tys f0 sz adK adV)) (va_Qi (fun (r : Int32) (f : Nat → va_E) => (bd 0 111 r ∧ True)) (Q3 (dC, dI) L kd tys [] [] f0 sz) (pA L sz)) 0 0 (pA L sz) := by
  refine Met.ofW (cc := cJ3_checkIndex_8e157) (maxL := 3) (ret := (some .int)) (by decide) rfl ?_
  intro p e s m args below meth c s₁ B hml hv
  obtain ⟨rfl, ⟨hsz, hP, hK, hD0⟩, hAm⟩ := hv
  have hx := B.exec
  have hb := B.bytes
  have hr := B.returns
  have hts := atoms_spec (ws := (.code yJ3_checkIndex_8e157 cJ3_checkIndex_8e157 3 (some .int) :: lw_g)) B.pre
  have hown : s.vm.findClass RJ3 = some m.cls := findClass_of_methodNamed B.named
  have hlocks := B.notSynchronized
  subst hsz
  have g : G3 (dC, dI) L kd tys s f0 [] [] f0 s.heap [] [] := G3.start hP hD0 hWT Fs.nil
  have hl := lv_entry ([.int x0_, .int x1_, .ref a2_]) (n := 3) (Nat.le_of_ble_eq_true rfl)
  rw [lg_entry_eq]
  generalize (lg_sl ([.int x0_, .int x1_, .ref a2_]) ++ List.replicate (3 - (lg_sl ([.int x0_, .int x1_, .ref a2_])).length) Slot.unset).toArray = ls at hl ⊢
  have hl : lv_has ls 3 [(0, .int x0_), (1, .int x1_), (2, .ref a2_)] := hl
  refine W_q (fun Q hQ => ?_)
  refine lv_iload_n hx hb dJ3_checkIndex_8e157_0 rfl (lv_at hl 0 rfl) ?_
  have kb_0 : bd 0 0 (0 : Int32) := ⟨by decide, by decide⟩
  refine lv_if_lt (tgt := 9) hx hb dJ3_checkIndex_8e157_1 (by decide) (fun c_1 => ?_) (fun c_1 => ?_)
  · have fc_1 := lt_f c_1
    have b_2 : bd 0 (-1) x0_ := ltL fc_1 bx0_ kb_0 (by decide)
    exact bd_no b_2 (by decide)
  · have fc_1 := nlt_f c_1
    refine lv_iload_n hx hb dJ3_checkIndex_8e157_4 rfl (lv_at hl 0 rfl) ?_
    refine lv_iload_n hx hb dJ3_checkIndex_8e157_5 rfl (lv_at hl 1 rfl) ?_
    refine lv_icmp_lt (tgt := 16) hx hb dJ3_checkIndex_8e157_6 (by decide) (fun c_3 => ?_) (fun c_3 => ?_)
    · have fc_3 := lt_f c_3
      refine lv_iload_n hx hb dJ3_checkIndex_8e157_16 rfl (lv_at hl 0 rfl) ?_
      subst hQ
      exact W.iret (v := x0_) hx hb hr (fun t ht hW => ⟨⟨_, _, rfl, ⟨bx0_, trivial⟩, q3_of g hK ht hW⟩, g.2.2.1.F ht⟩) g.2.2.1.2.2 dJ3_checkIndex_8e157_17
    · have fc_3 := nlt_f c_3
      have b_4 : bd 112 111 x1_ := leL fc_3 bx1_ bx0_ (by decide)
      exact bd_no b_4 (by decide)
set_option maxHeartbeats 4000000 in
set_option maxRecDepth 100000 in
theorem r_J0_checkIndex_df160_6 (l : Launch) (dC : Nat → ClassId) (dI : Nat → Nat → Nat) (L : List Nat) (kd : Nat → Nat) (tys : List (ClassId × FieldType)) (f0 : Nat → va_E) (sz : Nat) (hWT : WT L kd tys f0) (adK adV : Nat → Nat) (x0_ : Int32) (bx0_ : bd 0 111 x0_) (x1_ : Int32) (bx1_ : bd 112 112 x1_) : Met l yJ0_checkIndex_df160 (.code yJ0_checkIndex_df160 cJ0_checkIndex_df160 2 none :: lw_g) ({ frames := 1, cells := 0, slots := 0, locals := 22 }) (va_Pc [.int x0_, .int x1_] (P3A (dC, dI) L tys f0 sz adK adV)) (va_Qv (fun (f : Nat → va_E) => (True)) (Q3 (dC, dI) L kd tys [] [] f0 sz) (pA L sz)) 0 0 (pA L sz) := by
  refine Met.ofW (cc := cJ0_checkIndex_df160) (maxL := 2) (ret := none) (by decide) rfl ?_
  intro p e s m args below meth c s₁ B hml hv
  obtain ⟨rfl, ⟨hsz, hP, hK, hD0⟩, hAm⟩ := hv
  have hx := B.exec
  have hb := B.bytes
  have hr := B.returns
  have hts := atoms_spec (ws := (.code yJ0_checkIndex_df160 cJ0_checkIndex_df160 2 none :: lw_g)) B.pre
  have hown : s.vm.findClass RJ0 = some m.cls := findClass_of_methodNamed B.named
  have hlocks := B.notSynchronized
  subst hsz
  have g : G3 (dC, dI) L kd tys s f0 [] [] f0 s.heap [] [] := G3.start hP hD0 hWT Fs.nil
  have hl := lv_entry ([.int x0_, .int x1_]) (n := 2) (Nat.le_of_ble_eq_true rfl)
  rw [lg_entry_eq]
  generalize (lg_sl ([.int x0_, .int x1_]) ++ List.replicate (2 - (lg_sl ([.int x0_, .int x1_])).length) Slot.unset).toArray = ls at hl ⊢
  have hl : lv_has ls 2 [(0, .int x0_), (1, .int x1_)] := hl
  refine W_q (fun Q hQ => ?_)
  refine lv_iload_n hx hb dJ0_checkIndex_df160_0 rfl (lv_at hl 0 rfl) ?_
  refine lv_iload_n hx hb dJ0_checkIndex_df160_1 rfl (lv_at hl 1 rfl) ?_
  rcases zqP hAm.2.2.2 with ho_1 | ⟨o_1, ho_1⟩
  · refine va_gets hx hb ho_1 g.2.2.1 hown (hts _ (List.mem_cons_of_mem _ t_256)) (fun _ h9 => h9) dJ0_checkIndex_df160_2 ?_
    refine g_calli (va_runS (As := [.int x0_, .int x1_, .null]) (rest := []) ⟨hx, hb, hml, hown, hts⟩ (r_J3_checkIndex_8e157_11 l dC dI L kd tys f0 s.heap.size g.2.2.2.1 adK adV x0_ bx0_ x1_ bx1_) (va_cwS 3 hts (gS_ t_258 t_259 t_187 t_260) rfl rfl rfl (by decide +kernel) ⟨(Nat.le_of_ble_eq_true rfl), (Nat.le_of_ble_eq_true rfl)⟩) (pre3SA g hK hAm) rfl rfl hl.1 rfl (lv_room (Nat.le_of_ble_eq_true rfl)) dJ0_checkIndex_df160_5 ⟨(Nat.le_of_ble_eq_true rfl), (Nat.le_of_ble_eq_true rfl)⟩) g hK (by decide) (by decide) (fx' := []) rfl (fun r_2 fr_2 H locs hp hMr_2 g => ?_)
    obtain ⟨h_3, -⟩ := hp
    refine lv_pop hx hb dJ0_checkIndex_df160_8 rfl ?_
    subst hQ
    exact W.vret hx hb hr (fun t ht hW => ⟨⟨_, rfl, trivial, q3_of g hK ht hW⟩, g.2.2.1.F ht⟩) g.2.2.1.2.2 dJ0_checkIndex_df160_9
  · refine va_gets hx hb ho_1 g.2.2.1 hown (hts _ (List.mem_cons_of_mem _ t_256)) (fun _ h9 => h9) dJ0_checkIndex_df160_2 ?_
    refine g_calli (va_runS (As := [.int x0_, .int x1_, .ref o_1]) (rest := []) ⟨hx, hb, hml, hown, hts⟩ (r_J3_checkIndex_8e157_12 l dC dI L kd tys f0 s.heap.size g.2.2.2.1 adK adV x0_ bx0_ x1_ bx1_ o_1) (va_cwS 3 hts (gS_ t_258 t_259 t_187 t_260) rfl rfl rfl (by decide +kernel) ⟨(Nat.le_of_ble_eq_true rfl), (Nat.le_of_ble_eq_true rfl)⟩) (pre3SA g hK hAm) rfl rfl hl.1 rfl (lv_room (Nat.le_of_ble_eq_true rfl)) dJ0_checkIndex_df160_5 ⟨(Nat.le_of_ble_eq_true rfl), (Nat.le_of_ble_eq_true rfl)⟩) g hK (by decide) (by decide) (fx' := []) rfl (fun r_4 fr_4 H locs hp hMr_4 g => ?_)
    obtain ⟨h_5, -⟩ := hp
    refine lv_pop hx hb dJ0_checkIndex_df160_8 rfl ?_
    subst hQ
    exact W.vret hx hb hr (fun t ht hW => ⟨⟨_, rfl, trivial, q3_of g hK ht hW⟩, g.2.2.1.F ht⟩) g.2.2.1.2.2 dJ0_checkIndex_df160_9
set_option maxHeartbeats 4000000 in
set_option maxRecDepth 100000 in
theorem r_J1_charAt_3b067_6 (l : Launch) (dC : Nat → ClassId) (dI : Nat → Nat → Nat) (L : List Nat) (kd : Nat → Nat) (tys : List (ClassId × FieldType)) (f0 : Nat → va_E) (sz : Nat) (hWT : WT L kd tys f0) (adK adV : Nat → Nat) (x1_ : Int32) (bx1_ : bd 0 111 x1_) : Met l yJ1_charAt_3b067 (.code yJ1_charAt_3b067 cJ1_charAt_3b067 2 (some .char) :: lw_g) ({ frames := 2, cells := 0, slots := 0, locals := 43 }) (va_Pc [.ref (adV 3), .int x1_] (P3A (dC, dI) L tys f0 sz adK adV)) (va_Qi (fun (r : Int32) (f : Nat → va_E) => (narrow .char (.int r) = .int r ∧ True)) (Q3 (dC, dI) L kd tys [] [] f0 sz) (pA L sz)) 0 0 (pA L sz) := by
  refine Met.ofW (cc := cJ1_charAt_3b067) (maxL := 2) (ret := (some .char)) (by decide) rfl ?_
  intro p e s m args below meth c s₁ B hml hv
  obtain ⟨rfl, ⟨hsz, hP, hK, hD0⟩, hAm⟩ := hv
  have hx := B.exec
  have hb := B.bytes
  have hr := B.returns
  have hts := atoms_spec (ws := (.code yJ1_charAt_3b067 cJ1_charAt_3b067 2 (some .char) :: lw_g)) B.pre
  have hown : s.vm.findClass RJ1 = some m.cls := findClass_of_methodNamed B.named
  have hlocks := B.notSynchronized
  subst hsz
  have g : G3 (dC, dI) L kd tys s f0 [] [] f0 s.heap [] [] := G3.start hP hD0 hWT Fs.nil
  have hl := lv_entry ([.ref (adV 3), .int x1_]) (n := 2) (Nat.le_of_ble_eq_true rfl)
  rw [lg_entry_eq]
  generalize (lg_sl ([.ref (adV 3), .int x1_]) ++ List.replicate (2 - (lg_sl ([.ref (adV 3), .int x1_])).length) Slot.unset).toArray = ls at hl ⊢
  have hl : lv_has ls 2 [(0, .ref (adV 3)), (1, .int x1_)] := hl
  refine W_q (fun Q hQ => ?_)
  refine lv_iload_n hx hb dJ1_charAt_3b067_0 rfl (lv_at hl 1 rfl) ?_
  refine lv_aload_n hx hb dJ1_charAt_3b067_1 rfl (lv_at hl 0 rfl) ?_
  refine va_tlen (v := 112) hx hb (hAm.2.1.1 3 (by decide)).2.2.2 g.2.2.1 (by decide) dJ1_charAt_3b067_2 ?_
  have kb_112 : bd 112 112 (112 : Int32) := ⟨by decide, by decide⟩
  refine g_callv (va_runS (As := [.int x1_, .int 112]) (rest := []) ⟨hx, hb, hml, hown, hts⟩ (r_J0_checkIndex_df160_6 l dC dI L kd tys f0 s.heap.size g.2.2.2.1 adK adV x1_ bx1_ 112 kb_112) (va_cwS 2 hts (gS_ t_253 t_254 t_185 t_255) rfl rfl rfl (by decide +kernel) ⟨(Nat.le_of_ble_eq_true rfl), (Nat.le_of_ble_eq_true rfl)⟩) (pre3SA g hK hAm) rfl rfl hl.1 rfl (lv_room (Nat.le_of_ble_eq_true rfl)) dJ1_charAt_3b067_3 ⟨(Nat.le_of_ble_eq_true rfl), (Nat.le_of_ble_eq_true rfl)⟩) g hK (by decide) (by decide) (fx' := []) rfl (fun fr_1 H locs hp hMr_1 g => ?_)
  refine lv_aload_n hx hb dJ1_charAt_3b067_6 rfl (lv_at hl 0 rfl) ?_
  refine lv_iload_n hx hb dJ1_charAt_3b067_7 rfl (lv_at hl 1 rfl) ?_
  refine va_tb hx hb (hAm.2.1.1 3 (by decide)).2.2.2 g.2.2.1 (in_bd bx1_ (by decide)) rfl dJ1_charAt_3b067_8 ?_
  refine lv_topi (fun y_2 ey_2 => ?_)
  refine lv_sipush (v := 255) hx hb dJ1_charAt_3b067_9 (by decide) ?_
  have kb_255 : bd 255 255 (255 : Int32) := ⟨by decide, by decide⟩
  refine lv_iand hx hb dJ1_charAt_3b067_12 ?_
  refine lv_topi (fun y_3 ey_3 => ?_)
  have b_4 : bd 0 255 y_3 := and_rg ey_3 (bdT y_2) kb_255 (by decide)
  refine lv_i2c hx hb dJ1_charAt_3b067_13 rfl ?_
  refine lv_topi (fun y_5 ey_5 => ?_)
  subst hQ
  exact W.zret (v := y_5) hx hb hr (by rw [ey_5]; exact pk_nc _) (fun t ht hW => ⟨⟨_, _, rfl, ⟨(by rw [ey_5]; exact pk_nc _), trivial⟩, q3_of g hK ht hW⟩, g.2.2.1.F ht⟩) g.2.2.1.2.2 dJ1_charAt_3b067_14
set_option maxHeartbeats 4000000 in
set_option maxRecDepth 100000 in
theorem r_J0_charAt_5068e_6 (l : Launch) (dC : Nat → ClassId) (dI : Nat → Nat → Nat) (L : List Nat) (kd : Nat → Nat) (tys : List (ClassId × FieldType)) (f0 : Nat → va_E) (sz : Nat) (hWT : WT L kd tys f0) (adK adV : Nat → Nat) (x1_ : Int32) (bx1_ : bd 0 111 x1_) : Met l yJ0_charAt_5068e (.code yJ0_charAt_5068e cJ0_charAt_5068e 2 (some .char) :: lw_g) ({ frames := 3, cells := 0, slots := 0, locals := 64 }) (va_Pc [.ref (adK 3), .int x1_] (P3A (dC, dI) L tys f0 sz adK adV)) (va_Qi (fun (r : Int32) (f : Nat → va_E) => (narrow .char (.int r) = .int r ∧ True)) (Q3 (dC, dI) L kd tys [] [] f0 sz) (pA L sz)) 0 0 (pA L sz) := by
  refine Met.ofW (cc := cJ0_charAt_5068e) (maxL := 2) (ret := (some .char)) (by decide) rfl ?_
  intro p e s m args below meth c s₁ B hml hv
  obtain ⟨rfl, ⟨hsz, hP, hK, hD0⟩, hAm⟩ := hv
  have hx := B.exec
  have hb := B.bytes
  have hr := B.returns
  have hts := atoms_spec (ws := (.code yJ0_charAt_5068e cJ0_charAt_5068e 2 (some .char) :: lw_g)) B.pre
  have hown : s.vm.findClass RJ0 = some m.cls := findClass_of_methodNamed B.named
  have hlocks := B.notSynchronized
  subst hsz
  have g : G3 (dC, dI) L kd tys s f0 [] [] f0 s.heap [] [] := G3.start hP hD0 hWT Fs.nil
  have hl := lv_entry ([.ref (adK 3), .int x1_]) (n := 2) (Nat.le_of_ble_eq_true rfl)
  rw [lg_entry_eq]
  generalize (lg_sl ([.ref (adK 3), .int x1_]) ++ List.replicate (2 - (lg_sl ([.ref (adK 3), .int x1_])).length) Slot.unset).toArray = ls at hl ⊢
  have hl : lv_has ls 2 [(0, .ref (adK 3)), (1, .int x1_)] := hl
  refine W_q (fun Q hQ => ?_)
  refine lv_aload_n hx hb dJ0_charAt_5068e_0 rfl (lv_at hl 0 rfl) ?_
  refine g_calli (va_runV (As := []) (rest := []) ⟨hx, hb, hml, hown, hts⟩ (r_J0_isLatin1_aae02 l dC dI L kd tys f0 s.heap.size g.2.2.2.1 adK adV) (cwV 0 hts (gV_ t_246 t_247 t_248 t_185 t_249) rfl rfl rfl (by decide +kernel) ⟨(Nat.le_of_ble_eq_true rfl), (Nat.le_of_ble_eq_true rfl)⟩) (pre3TA g hK hAm 3 (by decide)) rfl rfl hl.1 rfl (lv_room (Nat.le_of_ble_eq_true rfl)) dJ0_charAt_5068e_1 ⟨(Nat.le_of_ble_eq_true rfl), (Nat.le_of_ble_eq_true rfl)⟩) g hK (by decide) (by decide) (fx' := []) rfl (fun r_1 fr_1 H locs hp hMr_1 g => ?_)
  obtain ⟨h_2, -⟩ := hp
  obtain rfl : r_1 = 1 := h_2
  refine lv_if_eq (tgt := 16) hx hb dJ0_charAt_5068e_4 (by decide) (fun c_ => absurd c_ (by decide)) (fun c_ => ?_)
  refine lv_aload_n hx hb dJ0_charAt_5068e_7 rfl (lv_at hl 0 rfl) ?_
  refine vk_getf hx hb (hAm.2.1.1 3 (by decide)).2.2.1 g.2.2.1 hown (hts _ (List.mem_cons_of_mem _ t_2844)) (fun _ h9 => h9) dJ0_charAt_5068e_8 ?_
  refine lv_iload_n hx hb dJ0_charAt_5068e_11 rfl (lv_at hl 1 rfl) ?_
  refine g_calli (va_runS (As := [.ref (adV 3), .int x1_]) (rest := []) ⟨hx, hb, hml, hown, hts⟩ (r_J1_charAt_3b067_6 l dC dI L kd tys fr_1 H.size g.2.2.2.1 adK adV x1_ bx1_) (va_cwS 2 hts (gS_ t_250 t_251 t_186 t_252) rfl rfl rfl (by decide +kernel) ⟨(Nat.le_of_ble_eq_true rfl), (Nat.le_of_ble_eq_true rfl)⟩) (pre3SA g hK hAm) rfl rfl hl.1 rfl (lv_room (Nat.le_of_ble_eq_true rfl)) dJ0_charAt_5068e_12 ⟨(Nat.le_of_ble_eq_true rfl), (Nat.le_of_ble_eq_true rfl)⟩) g hK (by decide) (by decide) (fx' := []) rfl (fun r_3 fr_3 H locs hp hMr_3 g => ?_)
  obtain ⟨h_4, -⟩ := hp
  subst hQ
  exact W.zret (v := r_3) hx hb hr h_4 (fun t ht hW => ⟨⟨_, _, rfl, ⟨h_4, trivial⟩, q3_of g hK ht hW⟩, g.2.2.1.F ht⟩) g.2.2.1.2.2 dJ0_charAt_5068e_15
set_option maxHeartbeats 4000000 in
set_option maxRecDepth 100000 in
theorem r_X14_keyAt (l : Launch) (dC : Nat → ClassId) (dI : Nat → Nat → Nat) (L : List Nat) (kd : Nat → Nat) (tys : List (ClassId × FieldType)) (f0 : Nat → va_E) (sz : Nat) (hWT : WT L kd tys f0) (adK adV : Nat → Nat) (a0_ : Nat) (ma0_ : a0_ ∈ L) (ka0_ : kd a0_ = 14) (x1_ : Int32) (bx1_ : bd 0 3999 x1_) (x2_ : Int32) (bx2_ : bd (-4000) 4000 x2_) : Met l yX14_keyAt (.code yX14_keyAt cX14_keyAt 8 (some .int) :: lw_g) ({ frames := 4, cells := 0, slots := 0, locals := 85 }) (va_Pc [.ref a0_, .int x1_, .int x2_] (P3A (dC, dI) L tys f0 sz adK adV)) (va_Qi (fun (r : Int32) (f : Nat → va_E) => (True)) (Q3 (dC, dI) L kd tys [] [] f0 sz) (pA L sz)) 0 0 (pA L sz) := by
  refine Met.ofW (cc := cX14_keyAt) (maxL := 8) (ret := (some .int)) (by decide) rfl ?_
  intro p e s m args below meth c s₁ B hml hv
  obtain ⟨rfl, ⟨hsz, hP, hK, hD0⟩, hAm⟩ := hv
  have hx := B.exec
  have hb := B.bytes
  have hr := B.returns
  have hts := atoms_spec (ws := (.code yX14_keyAt cX14_keyAt 8 (some .int) :: lw_g)) B.pre
  have hown : s.vm.findClass RX14 = some m.cls := findClass_of_methodNamed B.named
  have hlocks := B.notSynchronized
  subst hsz
  have g : G3 (dC, dI) L kd tys s f0 [] [] f0 s.heap [] [] := G3.start hP hD0 hWT Fs.nil
  have hl := lv_entry ([.ref a0_, .int x1_, .int x2_]) (n := 8) (Nat.le_of_ble_eq_true rfl)
  rw [lg_entry_eq]
  generalize (lg_sl ([.ref a0_, .int x1_, .int x2_]) ++ List.replicate (8 - (lg_sl ([.ref a0_, .int x1_, .int x2_])).length) Slot.unset).toArray = ls at hl ⊢
  have hl : lv_has ls 8 [(0, .ref a0_), (1, .int x1_), (2, .int x2_)] := hl
  refine W_q (fun Q hQ => ?_)
  refine lv_iconst (v := 0) hx hb dX14_keyAt_0 (by decide) ?_
  refine lv_istore_n (lv' := [(3, .int 0), (0, .ref a0_), (1, .int x1_), (2, .int x2_)]) hx hb dX14_keyAt_1 rfl hl (by decide) rfl (fun ls hl => ?_)
  refine lv_iconst (v := 0) hx hb dX14_keyAt_2 (by decide) ?_
  refine lv_istore (lv' := [(4, .int 0), (3, .int 0), (0, .ref a0_), (1, .int x1_), (2, .int x2_)]) hx hb dX14_keyAt_3 hl (by decide) rfl (fun ls hl => ?_)
  refine lv_iconst (v := 0) hx hb dX14_keyAt_5 (by decide) ?_
  refine lv_istore (lv' := [(5, .int 0), (4, .int 0), (3, .int 0), (0, .ref a0_), (1, .int x1_), (2, .int x2_)]) hx hb dX14_keyAt_6 hl (by decide) rfl (fun ls hl => ?_)
  have loop_1 : ∀ (n : Nat) (v8_5 : Int32) (v8_4 : Int32) (v8_3 : Int32), bd 0 112 v8_5 → bd 0 4000 v8_4 → (112 - v8_5.toInt < (n : Int)) → ∀ (f : Nat → va_E) (H : Heap) (locs : List Loc) (ls : Array Slot), G3 (dC, dI) L kd tys s f0 [] [] f H locs [] → lv_has ls 8 [(5, .int v8_5), (4, .int v8_4), (3, .int v8_3), (0, .ref a0_), (1, .int x1_), (2, .int x2_)] → W p l e ({ frames := 4, cells := 0, slots := 0, locals := 85 } : Room) s m [.ref a0_, .int x1_, .int x2_].toArray below meth c H locs 0 0 Q (F0 m 8 ls []) := by
    intro n8
    induction n8 with
    | zero =>
      intro v8_5 v8_4 v8_3 bv8_5 bv8_4  hm8 f H locs ls g  hl
      exact absurd hm8 (by have h9_v8_5 := bv8_5; unfold bd at h9_v8_5; have h9_v8_4 := bv8_4; unfold bd at h9_v8_4; have h9_v8_3 := bdT v8_3; unfold bd at h9_v8_3; omega)
    | succ n8 ih8 =>
      intro v8_5 v8_4 v8_3 bv8_5 bv8_4  hm8 f H locs ls g  hl
      refine lv_iload hx hb dX14_keyAt_8 (lv_at hl 0 rfl) ?_
      refine va_ldcS hx hb hown hAm.1.2.1 dX14_keyAt_10 ?_
      refine g_calli (va_runV (As := []) (rest := [.int v8_5]) ⟨hx, hb, hml, hown, hts⟩ (r_J0_length_8abf5 l dC dI L kd tys f H.size g.2.2.2.1 adK adV) (cwV 0 hts (gV_ t_2379 t_233 t_234 t_185 t_235) rfl rfl rfl (by decide +kernel) ⟨(Nat.le_of_ble_eq_true rfl), (Nat.le_of_ble_eq_true rfl)⟩) (pre3TA g hK hAm 3 (by decide)) rfl rfl hl.1 rfl (lv_room (Nat.le_of_ble_eq_true rfl)) dX14_keyAt_12 ⟨(Nat.le_of_ble_eq_true rfl), (Nat.le_of_ble_eq_true rfl)⟩) g hK (by decide) (by decide) (fx' := []) rfl (fun r_2 fr_2 H locs hp hMr_2 g => ?_)
      obtain ⟨h_3, -⟩ := hp
      obtain rfl : r_2 = 112 := h_3
      have kb_112 : bd 112 112 (112 : Int32) := ⟨by decide, by decide⟩
      refine lv_icmp_ge (tgt := 119) hx hb dX14_keyAt_15 (by decide) (fun c_4 => ?_) (fun c_4 => ?_)
      · have fc_4 := le_f c_4
        have b_5 : bd 112 112 v8_5 := leR fc_4 kb_112 bv8_5 (by decide)
        refine lv_iconst (v := (-1)) hx hb dX14_keyAt_119 (by decide) ?_
        subst hQ
        exact W.iret (v := (-1)) hx hb hr (fun t ht hW => ⟨⟨_, _, rfl, trivial, q3_of g hK ht hW⟩, g.2.2.1.F ht⟩) g.2.2.1.2.2 dX14_keyAt_120
      · have fc_4 := nle_f c_4
        have b_6 : bd 0 111 v8_5 := ltL fc_4 bv8_5 kb_112 (by decide)
        refine va_ldcS hx hb hown hAm.1.2.1 dX14_keyAt_18 ?_
        refine lv_iload hx hb dX14_keyAt_20 (lv_at hl 0 rfl) ?_
        refine g_calli (va_runV (As := [.int v8_5]) (rest := []) ⟨hx, hb, hml, hown, hts⟩ (r_J0_charAt_5068e_6 l dC dI L kd tys fr_2 H.size g.2.2.2.1 adK adV v8_5 b_6) (cwV 1 hts (gV_ t_2380 t_243 t_244 t_185 t_245) rfl rfl rfl (by decide +kernel) ⟨(Nat.le_of_ble_eq_true rfl), (Nat.le_of_ble_eq_true rfl)⟩) (pre3TA g hK hAm 3 (by decide)) rfl rfl hl.1 rfl (lv_room (Nat.le_of_ble_eq_true rfl)) dX14_keyAt_22 ⟨(Nat.le_of_ble_eq_true rfl), (Nat.le_of_ble_eq_true rfl)⟩) g hK (by decide) (by decide) (fx' := []) rfl (fun r_7 fr_7 H locs hp hMr_7 g => ?_)
        obtain ⟨h_8, -⟩ := hp
        refine lv_bipush (v := 32) hx hb dX14_keyAt_25 (by decide) ?_
        have kb_32 : bd 32 32 (32 : Int32) := ⟨by decide, by decide⟩
        refine lv_icmp_eq (tgt := 33) hx hb dX14_keyAt_27 (by decide) (fun c_9 => ?_) (fun c_9 => ?_)
        · have fc_9 := eq_f c_9
          have b_10 : bd 32 32 r_7 := eqX fc_9 (bdT r_7) kb_32 (by decide)
          refine lv_iload hx hb dX14_keyAt_33 (lv_at hl 0 rfl) ?_
          refine lv_iload hx hb dX14_keyAt_35 (lv_at hl 1 rfl) ?_
          refine lv_isub hx hb dX14_keyAt_37 ?_
          refine lv_topi (fun y_11 ey_11 => ?_)
          have ty_11 := sub_bd ey_11 b_6 bv8_4 (by decide)
          have b_12 : bd (-4000) 111 y_11 := sub_rg ty_11 b_6 bv8_4 (by decide)
          refine lv_iload_n hx hb dX14_keyAt_38 rfl (lv_at hl 5 rfl) ?_
          refine lv_icmp_ne (tgt := 46) hx hb dX14_keyAt_39 (by decide) (fun c_13 => ?_) (fun c_13 => ?_)
          · have fc_13 := neq_f c_13
            refine lv_iconst (v := 0) hx hb dX14_keyAt_46 (by decide) ?_
            refine lv_istore (lv' := [(6, .int 0), (5, .int v8_5), (4, .int v8_4), (3, .int v8_3), (0, .ref a0_), (1, .int x1_), (2, .int x2_)]) hx hb dX14_keyAt_47 hl (by decide) rfl (fun ls hl => ?_)
            refine lv_iconst (v := 0) hx hb dX14_keyAt_49 (by decide) ?_
            refine lv_istore (lv' := [(7, .int 0), (6, .int 0), (5, .int v8_5), (4, .int v8_4), (3, .int v8_3), (0, .ref a0_), (1, .int x1_), (2, .int x2_)]) hx hb dX14_keyAt_50 hl (by decide) rfl (fun ls hl => ?_)
            refine lv_iload hx hb dX14_keyAt_52 (lv_at hl 0 rfl) ?_
            refine lv_iload_n hx hb dX14_keyAt_54 rfl (lv_at hl 7 rfl) ?_
            have kb_0 : bd 0 0 (0 : Int32) := ⟨by decide, by decide⟩
            refine lv_icmp_ge (tgt := 97) hx hb dX14_keyAt_55 (by decide) (fun c_14 => ?_) (fun c_14 => ?_)
            · have fc_14 := le_f c_14
              have b_15 : bd (-4000) 0 x2_ := leL fc_14 bx2_ kb_0 (by decide)
              refine lv_iload hx hb dX14_keyAt_97 (lv_at hl 1 rfl) ?_
              refine lv_if_eq (tgt := 104) hx hb dX14_keyAt_99 (by decide) (fun c_ => ?_) (fun c_ => absurd (by decide) c_)
              have kb_1 : bd 1 1 (1 : Int32) := ⟨by decide, by decide⟩
              obtain ⟨y_16, ey_16⟩ : ∃ z : Int32, z = v8_3 + 1 := ⟨_, rfl⟩
              refine lv_iinc (v := y_16) (lv' := [(3, .int y_16), (7, .int 0), (6, .int 0), (5, .int v8_5), (4, .int v8_4), (0, .ref a0_), (1, .int x1_), (2, .int x2_)]) hx hb dX14_keyAt_104 hl (k := 4) rfl (by rw [ey_16]; rfl) (by decide) rfl (fun ls hl => ?_)
              refine lv_iload hx hb dX14_keyAt_107 (lv_at hl 3 rfl) ?_
              refine lv_iconst (v := 1) hx hb dX14_keyAt_109 (by decide) ?_
              refine lv_iadd hx hb dX14_keyAt_110 ?_
              refine lv_topi (fun y_17 ey_17 => ?_)
              have ty_17 := add_bd ey_17 b_6 kb_1 (by decide)
              have b_18 : bd 1 112 y_17 := add_rg ty_17 b_6 kb_1 (by decide)
              refine lv_istore (lv' := [(4, .int y_17), (3, .int y_16), (7, .int 0), (6, .int 0), (5, .int v8_5), (0, .ref a0_), (1, .int x1_), (2, .int x2_)]) hx hb dX14_keyAt_111 hl (by decide) rfl (fun ls hl => ?_)
              obtain ⟨y_19, ey_19⟩ : ∃ z : Int32, z = v8_5 + 1 := ⟨_, rfl⟩
              refine lv_iinc (v := y_19) (lv' := [(5, .int y_19), (4, .int y_17), (3, .int y_16), (7, .int 0), (6, .int 0), (0, .ref a0_), (1, .int x1_), (2, .int x2_)]) hx hb dX14_keyAt_113 hl (k := 4) rfl (by rw [ey_19]; rfl) (by decide) rfl (fun ls hl => ?_)
              have ty_19 := add_bd ey_19 b_6 kb_1 (by decide)
              have b_20 : bd 1 112 y_19 := add_rg ty_19 b_6 kb_1 (by decide)
              refine lv_goto (tgt := 8) hx hb dX14_keyAt_116 (by decide) ?_
              have hl9 := lv_sub hl [0, 1, 2, 5, 6, 7] (by rfl : lv_pick [(5, .int y_19), (4, .int y_17), (3, .int y_16), (7, .int 0), (6, .int 0), (0, .ref a0_), (1, .int x1_), (2, .int x2_)] [0, 1, 2, 5, 6, 7] = [(5, .int y_19), (4, .int y_17), (3, .int y_16), (0, .ref a0_), (1, .int x1_), (2, .int x2_)])
              have g9 := g.sub (fx' := []) [] rfl
              exact ih8  y_19 y_17 y_16 (bd_sub b_20 (by decide)) (bd_sub b_18 (by decide)) (by have h9_0 := b_18; unfold bd at h9_0; have h9_1 := b_20; unfold bd at h9_1; have h9_2 := bdT v8_3; unfold bd at h9_2; have h9_3 := bdT y_16; unfold bd at h9_3; have h9_4 := bv8_4; unfold bd at h9_4; have h9_5 := bv8_5; unfold bd at h9_5; have h9_6 := kb_0; unfold bd at h9_6; have h9_7 := kb_1; unfold bd at h9_7; have h9_8 := kb_112; unfold bd at h9_8; have h9_9 := kb_32; unfold bd at h9_9; omega) _ _ _ _ g9  hl9
            · have fc_14 := nle_f c_14
              have b_21 : bd 1 4000 x2_ := ltR fc_14 kb_0 bx2_ (by decide)
              refine lv_iload hx hb dX14_keyAt_58 (lv_at hl 1 rfl) ?_
              refine lv_if_eq (tgt := 97) hx hb dX14_keyAt_60 (by decide) (fun c_ => ?_) (fun c_ => absurd (by decide) c_)
              refine lv_iload hx hb dX14_keyAt_97 (lv_at hl 1 rfl) ?_
              refine lv_if_eq (tgt := 104) hx hb dX14_keyAt_99 (by decide) (fun c_ => ?_) (fun c_ => absurd (by decide) c_)
              have kb_1 : bd 1 1 (1 : Int32) := ⟨by decide, by decide⟩
              obtain ⟨y_22, ey_22⟩ : ∃ z : Int32, z = v8_3 + 1 := ⟨_, rfl⟩
              refine lv_iinc (v := y_22) (lv' := [(3, .int y_22), (7, .int 0), (6, .int 0), (5, .int v8_5), (4, .int v8_4), (0, .ref a0_), (1, .int x1_), (2, .int x2_)]) hx hb dX14_keyAt_104 hl (k := 4) rfl (by rw [ey_22]; rfl) (by decide) rfl (fun ls hl => ?_)
              refine lv_iload hx hb dX14_keyAt_107 (lv_at hl 3 rfl) ?_
              refine lv_iconst (v := 1) hx hb dX14_keyAt_109 (by decide) ?_
              refine lv_iadd hx hb dX14_keyAt_110 ?_
              refine lv_topi (fun y_23 ey_23 => ?_)
              have ty_23 := add_bd ey_23 b_6 kb_1 (by decide)
              have b_24 : bd 1 112 y_23 := add_rg ty_23 b_6 kb_1 (by decide)
              refine lv_istore (lv' := [(4, .int y_23), (3, .int y_22), (7, .int 0), (6, .int 0), (5, .int v8_5), (0, .ref a0_), (1, .int x1_), (2, .int x2_)]) hx hb dX14_keyAt_111 hl (by decide) rfl (fun ls hl => ?_)
              obtain ⟨y_25, ey_25⟩ : ∃ z : Int32, z = v8_5 + 1 := ⟨_, rfl⟩
              refine lv_iinc (v := y_25) (lv' := [(5, .int y_25), (4, .int y_23), (3, .int y_22), (7, .int 0), (6, .int 0), (0, .ref a0_), (1, .int x1_), (2, .int x2_)]) hx hb dX14_keyAt_113 hl (k := 4) rfl (by rw [ey_25]; rfl) (by decide) rfl (fun ls hl => ?_)
              have ty_25 := add_bd ey_25 b_6 kb_1 (by decide)
              have b_26 : bd 1 112 y_25 := add_rg ty_25 b_6 kb_1 (by decide)
              refine lv_goto (tgt := 8) hx hb dX14_keyAt_116 (by decide) ?_
              have hl9 := lv_sub hl [0, 1, 2, 5, 6, 7] (by rfl : lv_pick [(5, .int y_25), (4, .int y_23), (3, .int y_22), (7, .int 0), (6, .int 0), (0, .ref a0_), (1, .int x1_), (2, .int x2_)] [0, 1, 2, 5, 6, 7] = [(5, .int y_25), (4, .int y_23), (3, .int y_22), (0, .ref a0_), (1, .int x1_), (2, .int x2_)])
              have g9 := g.sub (fx' := []) [] rfl
              exact ih8  y_25 y_23 y_22 (bd_sub b_26 (by decide)) (bd_sub b_24 (by decide)) (by have h9_0 := b_24; unfold bd at h9_0; have h9_1 := b_26; unfold bd at h9_1; have h9_2 := bdT v8_3; unfold bd at h9_2; have h9_3 := bdT y_22; unfold bd at h9_3; have h9_4 := bv8_4; unfold bd at h9_4; have h9_5 := bv8_5; unfold bd at h9_5; have h9_6 := kb_0; unfold bd at h9_6; have h9_7 := kb_1; unfold bd at h9_7; have h9_8 := kb_112; unfold bd at h9_8; have h9_9 := kb_32; unfold bd at h9_9; omega) _ _ _ _ g9  hl9
          · have fc_13 := eq_f c_13
            have b_27 : bd (-4000) 111 x2_ := eqX fc_13.symm bx2_ b_12 (by decide)
            refine lv_iconst (v := 1) hx hb dX14_keyAt_42 (by decide) ?_
            refine lv_goto (tgt := 47) hx hb dX14_keyAt_43 (by decide) ?_
            refine lv_istore (lv' := [(6, .int 1), (5, .int v8_5), (4, .int v8_4), (3, .int v8_3), (0, .ref a0_), (1, .int x1_), (2, .int x2_)]) hx hb dX14_keyAt_47 hl (by decide) rfl (fun ls hl => ?_)
            refine lv_iconst (v := 0) hx hb dX14_keyAt_49 (by decide) ?_
            refine lv_istore (lv' := [(7, .int 0), (6, .int 1), (5, .int v8_5), (4, .int v8_4), (3, .int v8_3), (0, .ref a0_), (1, .int x1_), (2, .int x2_)]) hx hb dX14_keyAt_50 hl (by decide) rfl (fun ls hl => ?_)
            have loop_28 : ∀ (n : Nat) (v52_7 : Int32) (v52_6 : Int32), bd 0 111 v52_7 → bd 0 1 v52_6 → (111 - v52_7.toInt < (n : Int)) → ∀ (f : Nat → va_E) (H : Heap) (locs : List Loc) (ls : Array Slot), G3 (dC, dI) L kd tys s f0 [] [] f H locs [] → lv_has ls 8 [(7, .int v52_7), (6, .int v52_6), (5, .int v8_5), (4, .int v8_4), (3, .int v8_3), (0, .ref a0_), (1, .int x1_), (2, .int x2_)] → W p l e ({ frames := 4, cells := 0, slots := 0, locals := 85 } : Room) s m [.ref a0_, .int x1_, .int x2_].toArray below meth c H locs 0 0 Q (F0 m 52 ls []) := by
              intro n52
              induction n52 with
              | zero =>
                intro v52_7 v52_6 bv52_7 bv52_6 hm52 f H locs ls g  hl
                exact absurd hm52 (by have h9_v52_7 := bv52_7; unfold bd at h9_v52_7; have h9_v52_6 := bv52_6; unfold bd at h9_v52_6; omega)
              | succ n52 ih52 =>
                intro v52_7 v52_6 bv52_7 bv52_6 hm52 f H locs ls g  hl
                refine lv_iload hx hb dX14_keyAt_52 (lv_at hl 0 rfl) ?_
                refine lv_iload_n hx hb dX14_keyAt_54 rfl (lv_at hl 7 rfl) ?_
                refine lv_icmp_ge (tgt := 97) hx hb dX14_keyAt_55 (by decide) (fun c_29 => ?_) (fun c_29 => ?_)
                · have fc_29 := le_f c_29
                  refine lv_iload hx hb dX14_keyAt_97 (lv_at hl 1 rfl) ?_
                  have kb_0 : bd 0 0 (0 : Int32) := ⟨by decide, by decide⟩
                  refine lv_if_eq (tgt := 104) hx hb dX14_keyAt_99 (by decide) (fun c_30 => ?_) (fun c_30 => ?_)
                  · have fc_30 := eq_f c_30
                    have b_31 : bd 0 0 v52_6 := eqX fc_30 bv52_6 kb_0 (by decide)
                    have kb_1 : bd 1 1 (1 : Int32) := ⟨by decide, by decide⟩
                    obtain ⟨y_32, ey_32⟩ : ∃ z : Int32, z = v8_3 + 1 := ⟨_, rfl⟩
                    refine lv_iinc (v := y_32) (lv' := [(3, .int y_32), (7, .int v52_7), (6, .int v52_6), (5, .int v8_5), (4, .int v8_4), (0, .ref a0_), (1, .int x1_), (2, .int x2_)]) hx hb dX14_keyAt_104 hl (k := 4) rfl (by rw [ey_32]; rfl) (by decide) rfl (fun ls hl => ?_)
                    refine lv_iload hx hb dX14_keyAt_107 (lv_at hl 3 rfl) ?_
                    refine lv_iconst (v := 1) hx hb dX14_keyAt_109 (by decide) ?_
                    refine lv_iadd hx hb dX14_keyAt_110 ?_
                    refine lv_topi (fun y_33 ey_33 => ?_)
                    have ty_33 := add_bd ey_33 b_6 kb_1 (by decide)
                    have b_34 : bd 1 112 y_33 := add_rg ty_33 b_6 kb_1 (by decide)
                    refine lv_istore (lv' := [(4, .int y_33), (3, .int y_32), (7, .int v52_7), (6, .int v52_6), (5, .int v8_5), (0, .ref a0_), (1, .int x1_), (2, .int x2_)]) hx hb dX14_keyAt_111 hl (by decide) rfl (fun ls hl => ?_)
                    obtain ⟨y_35, ey_35⟩ : ∃ z : Int32, z = v8_5 + 1 := ⟨_, rfl⟩
                    refine lv_iinc (v := y_35) (lv' := [(5, .int y_35), (4, .int y_33), (3, .int y_32), (7, .int v52_7), (6, .int v52_6), (0, .ref a0_), (1, .int x1_), (2, .int x2_)]) hx hb dX14_keyAt_113 hl (k := 4) rfl (by rw [ey_35]; rfl) (by decide) rfl (fun ls hl => ?_)
                    have ty_35 := add_bd ey_35 b_6 kb_1 (by decide)
                    have b_36 : bd 1 112 y_35 := add_rg ty_35 b_6 kb_1 (by decide)
                    refine lv_goto (tgt := 8) hx hb dX14_keyAt_116 (by decide) ?_
                    have hl9 := lv_sub hl [0, 1, 2, 5, 6, 7] (by rfl : lv_pick [(5, .int y_35), (4, .int y_33), (3, .int y_32), (7, .int v52_7), (6, .int v52_6), (0, .ref a0_), (1, .int x1_), (2, .int x2_)] [0, 1, 2, 5, 6, 7] = [(5, .int y_35), (4, .int y_33), (3, .int y_32), (0, .ref a0_), (1, .int x1_), (2, .int x2_)])
                    have g9 := g.sub (fx' := []) [] rfl
                    exact ih8  y_35 y_33 y_32 (bd_sub b_36 (by decide)) (bd_sub b_34 (by decide)) (by have h9_0 := b_34; unfold bd at h9_0; have h9_1 := b_36; unfold bd at h9_1; have h9_2 := bdT v8_3; unfold bd at h9_2; have h9_3 := bdT y_32; unfold bd at h9_3; have h9_4 := bv8_4; unfold bd at h9_4; have h9_5 := bv8_5; unfold bd at h9_5; have h9_6 := kb_0; unfold bd at h9_6; have h9_7 := kb_1; unfold bd at h9_7; have h9_8 := kb_112; unfold bd at h9_8; have h9_9 := kb_32; unfold bd at h9_9; omega) _ _ _ _ g9  hl9
                  · have fc_30 := neq_f c_30
                    have b_37 : bd 1 1 v52_6 := neX fc_30 bv52_6 kb_0 (by decide)
                    refine lv_iload_n hx hb dX14_keyAt_102 rfl (lv_at hl 4 rfl) ?_
                    subst hQ
                    exact W.iret (v := v8_3) hx hb hr (fun t ht hW => ⟨⟨_, _, rfl, trivial, q3_of g hK ht hW⟩, g.2.2.1.F ht⟩) g.2.2.1.2.2 dX14_keyAt_103
                · have fc_29 := nle_f c_29
                  have b_38 : bd 0 110 v52_7 := ltL fc_29 bv52_7 b_27 (by decide)
                  have b_39 : bd 1 111 x2_ := ltR fc_29 bv52_7 b_27 (by decide)
                  refine lv_iload hx hb dX14_keyAt_58 (lv_at hl 1 rfl) ?_
                  have kb_0 : bd 0 0 (0 : Int32) := ⟨by decide, by decide⟩
                  refine lv_if_eq (tgt := 97) hx hb dX14_keyAt_60 (by decide) (fun c_40 => ?_) (fun c_40 => ?_)
                  · have fc_40 := eq_f c_40
                    have b_41 : bd 0 0 v52_6 := eqX fc_40 bv52_6 kb_0 (by decide)
                    refine lv_iload hx hb dX14_keyAt_97 (lv_at hl 1 rfl) ?_
                    refine lv_if_eq (tgt := 104) hx hb dX14_keyAt_99 (by decide) (fun c_42 => ?_) (fun c_42 => ?_)
                    · have fc_42 := eq_f c_42
                      have kb_1 : bd 1 1 (1 : Int32) := ⟨by decide, by decide⟩
                      obtain ⟨y_43, ey_43⟩ : ∃ z : Int32, z = v8_3 + 1 := ⟨_, rfl⟩
                      refine lv_iinc (v := y_43) (lv' := [(3, .int y_43), (7, .int v52_7), (6, .int v52_6), (5, .int v8_5), (4, .int v8_4), (0, .ref a0_), (1, .int x1_), (2, .int x2_)]) hx hb dX14_keyAt_104 hl (k := 4) rfl (by rw [ey_43]; rfl) (by decide) rfl (fun ls hl => ?_)
                      refine lv_iload hx hb dX14_keyAt_107 (lv_at hl 3 rfl) ?_
                      refine lv_iconst (v := 1) hx hb dX14_keyAt_109 (by decide) ?_
                      refine lv_iadd hx hb dX14_keyAt_110 ?_
                      refine lv_topi (fun y_44 ey_44 => ?_)
                      have ty_44 := add_bd ey_44 b_6 kb_1 (by decide)
                      have b_45 : bd 1 112 y_44 := add_rg ty_44 b_6 kb_1 (by decide)
                      refine lv_istore (lv' := [(4, .int y_44), (3, .int y_43), (7, .int v52_7), (6, .int v52_6), (5, .int v8_5), (0, .ref a0_), (1, .int x1_), (2, .int x2_)]) hx hb dX14_keyAt_111 hl (by decide) rfl (fun ls hl => ?_)
                      obtain ⟨y_46, ey_46⟩ : ∃ z : Int32, z = v8_5 + 1 := ⟨_, rfl⟩
                      refine lv_iinc (v := y_46) (lv' := [(5, .int y_46), (4, .int y_44), (3, .int y_43), (7, .int v52_7), (6, .int v52_6), (0, .ref a0_), (1, .int x1_), (2, .int x2_)]) hx hb dX14_keyAt_113 hl (k := 4) rfl (by rw [ey_46]; rfl) (by decide) rfl (fun ls hl => ?_)
                      have ty_46 := add_bd ey_46 b_6 kb_1 (by decide)
                      have b_47 : bd 1 112 y_46 := add_rg ty_46 b_6 kb_1 (by decide)
                      refine lv_goto (tgt := 8) hx hb dX14_keyAt_116 (by decide) ?_
                      have hl9 := lv_sub hl [0, 1, 2, 5, 6, 7] (by rfl : lv_pick [(5, .int y_46), (4, .int y_44), (3, .int y_43), (7, .int v52_7), (6, .int v52_6), (0, .ref a0_), (1, .int x1_), (2, .int x2_)] [0, 1, 2, 5, 6, 7] = [(5, .int y_46), (4, .int y_44), (3, .int y_43), (0, .ref a0_), (1, .int x1_), (2, .int x2_)])
                      have g9 := g.sub (fx' := []) [] rfl
                      exact ih8  y_46 y_44 y_43 (bd_sub b_47 (by decide)) (bd_sub b_45 (by decide)) (by have h9_0 := b_45; unfold bd at h9_0; have h9_1 := b_47; unfold bd at h9_1; have h9_2 := bdT v8_3; unfold bd at h9_2; have h9_3 := bdT y_43; unfold bd at h9_3; have h9_4 := bv8_4; unfold bd at h9_4; have h9_5 := bv8_5; unfold bd at h9_5; have h9_6 := kb_0; unfold bd at h9_6; have h9_7 := kb_1; unfold bd at h9_7; have h9_8 := kb_112; unfold bd at h9_8; have h9_9 := kb_32; unfold bd at h9_9; omega) _ _ _ _ g9  hl9
                    · have fc_42 := neq_f c_42
                      have b_48 : bd 1 (-1) v52_6 := neX fc_42 b_41 kb_0 (by decide)
                      exact bd_no b_48 (by decide)
                  · have fc_40 := neq_f c_40
                    have b_49 : bd 1 1 v52_6 := neX fc_40 bv52_6 kb_0 (by decide)
                    refine va_ldcS hx hb hown hAm.1.2.1 dX14_keyAt_63 ?_
                    refine lv_iload hx hb dX14_keyAt_65 (lv_at hl 3 rfl) ?_
                    refine lv_iload hx hb dX14_keyAt_67 (lv_at hl 0 rfl) ?_
                    refine lv_iadd hx hb dX14_keyAt_69 ?_
                    refine lv_topi (fun y_50 ey_50 => ?_)
                    have ty_50 := add_bd ey_50 bv8_4 b_38 (by decide)
                    have b_51 : bd 0 4110 y_50 := add_rg ty_50 bv8_4 b_38 (by decide)
                    have b_52 : bd 0 111 y_50 := ⟨by have h9_0 := b_10; unfold bd at h9_0; have h9_1 := b_49; unfold bd at h9_1; have h9_2 := b_38; unfold bd at h9_2; have h9_3 := bv8_4; unfold bd at h9_3; have h9_4 := b_6; unfold bd at h9_4; have h9_5 := bx1_; unfold bd at h9_5; have h9_6 := b_39; unfold bd at h9_6; have h9_7 := b_12; unfold bd at h9_7; have h9_8 := b_51; unfold bd at h9_8; omega, by have h9_0 := b_10; unfold bd at h9_0; have h9_1 := b_49; unfold bd at h9_1; have h9_2 := b_38; unfold bd at h9_2; have h9_3 := bv8_4; unfold bd at h9_3; have h9_4 := b_6; unfold bd at h9_4; have h9_5 := bx1_; unfold bd at h9_5; have h9_6 := b_39; unfold bd at h9_6; have h9_7 := b_12; unfold bd at h9_7; have h9_8 := b_51; unfold bd at h9_8; omega⟩
                    have b_53 : bd 0 111 v8_4 := add_inv2 ty_50 b_52 bv8_4 b_38 (by decide)
                    refine g_calli (va_runV (As := [.int y_50]) (rest := []) ⟨hx, hb, hml, hown, hts⟩ (r_J0_charAt_5068e_6 l dC dI L kd tys f H.size g.2.2.2.1 adK adV y_50 b_52) (cwV 1 hts (gV_ t_2380 t_243 t_244 t_185 t_245) rfl rfl rfl (by decide +kernel) ⟨(Nat.le_of_ble_eq_true rfl), (Nat.le_of_ble_eq_true rfl)⟩) (pre3TA g hK hAm 3 (by decide)) rfl rfl hl.1 rfl (lv_room (Nat.le_of_ble_eq_true rfl)) dX14_keyAt_70 ⟨(Nat.le_of_ble_eq_true rfl), (Nat.le_of_ble_eq_true rfl)⟩) g hK (by decide) (by decide) (fx' := []) rfl (fun r_54 fr_54 H locs hp hMr_54 g => ?_)
                    obtain ⟨h_55, -⟩ := hp
                    refine lv_aload_n hx hb dX14_keyAt_73 rfl (lv_at hl 5 rfl) ?_
                    refine lv_iload_n hx hb dX14_keyAt_74 rfl (lv_at hl 6 rfl) ?_
                    refine lv_iload hx hb dX14_keyAt_75 (lv_at hl 0 rfl) ?_
                    refine lv_iadd hx hb dX14_keyAt_77 ?_
                    refine lv_topi (fun y_56 ey_56 => ?_)
                    have ty_56 := add_bd ey_56 bx1_ b_38 (by decide)
                    have b_57 : bd 0 4109 y_56 := add_rg ty_56 bx1_ b_38 (by decide)
                    refine g_calli (va_runV (As := [.int y_56]) (rest := [.int r_54]) ⟨hx, hb, hml, hown, hts⟩ (r_X14_see l dC dI L kd tys fr_54 H.size g.2.2.2.1 a0_ ma0_ ka0_ y_56 (bd_sub b_57 (by decide))) (cwV 1 hts (gV_ t_2364 t_2366 t_93 t_198 t_2367) rfl rfl rfl (by decide +kernel) ⟨(Nat.le_of_ble_eq_true rfl), (Nat.le_of_ble_eq_true rfl)⟩) (pre3V g hK ma0_ ka0_ (by decide) (q := (RX14, TX14, 67)) rfl) rfl rfl hl.1 rfl (lv_room (Nat.le_of_ble_eq_true rfl)) dX14_keyAt_78 ⟨(Nat.le_of_ble_eq_true rfl), (Nat.le_of_ble_eq_true rfl)⟩) g hK (by decide) (by decide) (fx' := []) rfl (fun r_58 fr_58 H locs hp hMr_58 g => ?_)
                    rcases hp with ⟨h_59, -⟩ | ⟨h_60, h_61, x_62, h_63, hF_64⟩
                    · obtain rfl : r_58 = (-1) := h_59
                      have kb_m1 : bd (-1) (-1) ((-1) : Int32) := ⟨by decide, by decide⟩
                      refine lv_icmp_ne (tgt := 88) hx hb dX14_keyAt_81 (by decide) (fun c_65 => ?_) (fun c_65 => ?_)
                      · have fc_65 := neq_f c_65
                        refine lv_iconst (v := 0) hx hb dX14_keyAt_88 (by decide) ?_
                        refine lv_istore (lv' := [(6, .int 0), (7, .int v52_7), (5, .int v8_5), (4, .int v8_4), (3, .int v8_3), (0, .ref a0_), (1, .int x1_), (2, .int x2_)]) hx hb dX14_keyAt_89 hl (by decide) rfl (fun ls hl => ?_)
                        have kb_1 : bd 1 1 (1 : Int32) := ⟨by decide, by decide⟩
                        obtain ⟨y_66, ey_66⟩ : ∃ z : Int32, z = v52_7 + 1 := ⟨_, rfl⟩
                        refine lv_iinc (v := y_66) (lv' := [(7, .int y_66), (6, .int 0), (5, .int v8_5), (4, .int v8_4), (3, .int v8_3), (0, .ref a0_), (1, .int x1_), (2, .int x2_)]) hx hb dX14_keyAt_91 hl (k := 1) rfl (by rw [ey_66]; rfl) (by decide) rfl (fun ls hl => ?_)
                        have ty_66 := add_bd ey_66 b_38 kb_1 (by decide)
                        have b_67 : bd 1 111 y_66 := add_rg ty_66 b_38 kb_1 (by decide)
                        refine lv_goto (tgt := 52) hx hb dX14_keyAt_94 (by decide) ?_
                        have hl9 := lv_sub hl [0, 1, 2, 3, 4, 5, 6, 7] (by rfl : lv_pick [(7, .int y_66), (6, .int 0), (5, .int v8_5), (4, .int v8_4), (3, .int v8_3), (0, .ref a0_), (1, .int x1_), (2, .int x2_)] [0, 1, 2, 3, 4, 5, 6, 7] = [(7, .int y_66), (6, .int 0), (5, .int v8_5), (4, .int v8_4), (3, .int v8_3), (0, .ref a0_), (1, .int x1_), (2, .int x2_)])
                        have g9 := g.sub (fx' := []) [] rfl
                        exact ih52  y_66 0 (bd_sub b_67 (by decide)) (bd_sub kb_0 (by decide)) (by have h9_0 := b_67; unfold bd at h9_0; have h9_1 := bv52_6; unfold bd at h9_1; have h9_2 := bv52_7; unfold bd at h9_2; have h9_3 := kb_0; unfold bd at h9_3; have h9_4 := kb_1; unfold bd at h9_4; have h9_5 := kb_112; unfold bd at h9_5; have h9_6 := kb_32; unfold bd at h9_6; have h9_7 := kb_m1; unfold bd at h9_7; omega) _ _ _ _ g9  hl9
                      · have fc_65 := eq_f c_65
                        have b_68 : bd (-1) (-1) r_54 := eqX fc_65 (bdT r_54) kb_m1 (by decide)
                        refine lv_iconst (v := 1) hx hb dX14_keyAt_84 (by decide) ?_
                        refine lv_goto (tgt := 89) hx hb dX14_keyAt_85 (by decide) ?_
                        refine lv_istore (lv' := [(6, .int 1), (7, .int v52_7), (5, .int v8_5), (4, .int v8_4), (3, .int v8_3), (0, .ref a0_), (1, .int x1_), (2, .int x2_)]) hx hb dX14_keyAt_89 hl (by decide) rfl (fun ls hl => ?_)
                        have kb_1 : bd 1 1 (1 : Int32) := ⟨by decide, by decide⟩
                        obtain ⟨y_69, ey_69⟩ : ∃ z : Int32, z = v52_7 + 1 := ⟨_, rfl⟩
                        refine lv_iinc (v := y_69) (lv' := [(7, .int y_69), (6, .int 1), (5, .int v8_5), (4, .int v8_4), (3, .int v8_3), (0, .ref a0_), (1, .int x1_), (2, .int x2_)]) hx hb dX14_keyAt_91 hl (k := 1) rfl (by rw [ey_69]; rfl) (by decide) rfl (fun ls hl => ?_)
                        have ty_69 := add_bd ey_69 b_38 kb_1 (by decide)
                        have b_70 : bd 1 111 y_69 := add_rg ty_69 b_38 kb_1 (by decide)
                        refine lv_goto (tgt := 52) hx hb dX14_keyAt_94 (by decide) ?_
                        have hl9 := lv_sub hl [0, 1, 2, 3, 4, 5, 6, 7] (by rfl : lv_pick [(7, .int y_69), (6, .int 1), (5, .int v8_5), (4, .int v8_4), (3, .int v8_3), (0, .ref a0_), (1, .int x1_), (2, .int x2_)] [0, 1, 2, 3, 4, 5, 6, 7] = [(7, .int y_69), (6, .int 1), (5, .int v8_5), (4, .int v8_4), (3, .int v8_3), (0, .ref a0_), (1, .int x1_), (2, .int x2_)])
                        have g9 := g.sub (fx' := []) [] rfl
                        exact ih52  y_69 1 (bd_sub b_70 (by decide)) (bd_sub kb_1 (by decide)) (by have h9_0 := b_70; unfold bd at h9_0; have h9_1 := bv52_6; unfold bd at h9_1; have h9_2 := bv52_7; unfold bd at h9_2; have h9_3 := kb_0; unfold bd at h9_3; have h9_4 := kb_1; unfold bd at h9_4; have h9_5 := kb_112; unfold bd at h9_5; have h9_6 := kb_32; unfold bd at h9_6; have h9_7 := kb_m1; unfold bd at h9_7; omega) _ _ _ _ g9  hl9
                    · have b_71 : bd 0 3999 y_56 := eqX rfl b_57 h_61 (by decide)
                      have g := g.more hF_64
                      refine lv_icmp_ne (tgt := 88) hx hb dX14_keyAt_81 (by decide) (fun c_72 => ?_) (fun c_72 => ?_)
                      · have fc_72 := neq_f c_72
                        refine lv_iconst (v := 0) hx hb dX14_keyAt_88 (by decide) ?_
                        refine lv_istore (lv' := [(6, .int 0), (7, .int v52_7), (5, .int v8_5), (4, .int v8_4), (3, .int v8_3), (0, .ref a0_), (1, .int x1_), (2, .int x2_)]) hx hb dX14_keyAt_89 hl (by decide) rfl (fun ls hl => ?_)
                        have kb_1 : bd 1 1 (1 : Int32) := ⟨by decide, by decide⟩
                        obtain ⟨y_73, ey_73⟩ : ∃ z : Int32, z = v52_7 + 1 := ⟨_, rfl⟩
                        refine lv_iinc (v := y_73) (lv' := [(7, .int y_73), (6, .int 0), (5, .int v8_5), (4, .int v8_4), (3, .int v8_3), (0, .ref a0_), (1, .int x1_), (2, .int x2_)]) hx hb dX14_keyAt_91 hl (k := 1) rfl (by rw [ey_73]; rfl) (by decide) rfl (fun ls hl => ?_)
                        have ty_73 := add_bd ey_73 b_38 kb_1 (by decide)
                        have b_74 : bd 1 111 y_73 := add_rg ty_73 b_38 kb_1 (by decide)
                        refine lv_goto (tgt := 52) hx hb dX14_keyAt_94 (by decide) ?_
                        have hl9 := lv_sub hl [0, 1, 2, 3, 4, 5, 6, 7] (by rfl : lv_pick [(7, .int y_73), (6, .int 0), (5, .int v8_5), (4, .int v8_4), (3, .int v8_3), (0, .ref a0_), (1, .int x1_), (2, .int x2_)] [0, 1, 2, 3, 4, 5, 6, 7] = [(7, .int y_73), (6, .int 0), (5, .int v8_5), (4, .int v8_4), (3, .int v8_3), (0, .ref a0_), (1, .int x1_), (2, .int x2_)])
                        have g9 := g.sub (fx' := []) [] rfl
                        exact ih52  y_73 0 (bd_sub b_74 (by decide)) (bd_sub kb_0 (by decide)) (by have h9_0 := b_74; unfold bd at h9_0; have h9_1 := bv52_6; unfold bd at h9_1; have h9_2 := bv52_7; unfold bd at h9_2; have h9_3 := kb_0; unfold bd at h9_3; have h9_4 := kb_1; unfold bd at h9_4; have h9_5 := kb_112; unfold bd at h9_5; have h9_6 := kb_32; unfold bd at h9_6; omega) _ _ _ _ g9  hl9
                      · have fc_72 := eq_f c_72
                        have b_75 : bd 0 255 r_54 := eqX fc_72 (bdT r_54) h_60 (by decide)
                        refine lv_iconst (v := 1) hx hb dX14_keyAt_84 (by decide) ?_
                        refine lv_goto (tgt := 89) hx hb dX14_keyAt_85 (by decide) ?_
                        refine lv_istore (lv' := [(6, .int 1), (7, .int v52_7), (5, .int v8_5), (4, .int v8_4), (3, .int v8_3), (0, .ref a0_), (1, .int x1_), (2, .int x2_)]) hx hb dX14_keyAt_89 hl (by decide) rfl (fun ls hl => ?_)
                        have kb_1 : bd 1 1 (1 : Int32) := ⟨by decide, by decide⟩
                        obtain ⟨y_76, ey_76⟩ : ∃ z : Int32, z = v52_7 + 1 := ⟨_, rfl⟩
                        refine lv_iinc (v := y_76) (lv' := [(7, .int y_76), (6, .int 1), (5, .int v8_5), (4, .int v8_4), (3, .int v8_3), (0, .ref a0_), (1, .int x1_), (2, .int x2_)]) hx hb dX14_keyAt_91 hl (k := 1) rfl (by rw [ey_76]; rfl) (by decide) rfl (fun ls hl => ?_)
                        have ty_76 := add_bd ey_76 b_38 kb_1 (by decide)
                        have b_77 : bd 1 111 y_76 := add_rg ty_76 b_38 kb_1 (by decide)
                        refine lv_goto (tgt := 52) hx hb dX14_keyAt_94 (by decide) ?_
                        have hl9 := lv_sub hl [0, 1, 2, 3, 4, 5, 6, 7] (by rfl : lv_pick [(7, .int y_76), (6, .int 1), (5, .int v8_5), (4, .int v8_4), (3, .int v8_3), (0, .ref a0_), (1, .int x1_), (2, .int x2_)] [0, 1, 2, 3, 4, 5, 6, 7] = [(7, .int y_76), (6, .int 1), (5, .int v8_5), (4, .int v8_4), (3, .int v8_3), (0, .ref a0_), (1, .int x1_), (2, .int x2_)])
                        have g9 := g.sub (fx' := []) [] rfl
                        exact ih52  y_76 1 (bd_sub b_77 (by decide)) (bd_sub kb_1 (by decide)) (by have h9_0 := b_77; unfold bd at h9_0; have h9_1 := bv52_6; unfold bd at h9_1; have h9_2 := bv52_7; unfold bd at h9_2; have h9_3 := kb_0; unfold bd at h9_3; have h9_4 := kb_1; unfold bd at h9_4; have h9_5 := kb_112; unfold bd at h9_5; have h9_6 := kb_32; unfold bd at h9_6; omega) _ _ _ _ g9  hl9
            have kb_0 : bd 0 0 (0 : Int32) := ⟨by decide, by decide⟩
            have kb_1 : bd 1 1 (1 : Int32) := ⟨by decide, by decide⟩
            have hl9 := lv_sub hl [0, 1, 2, 3, 4, 5, 6, 7] (by rfl : lv_pick [(7, .int 0), (6, .int 1), (5, .int v8_5), (4, .int v8_4), (3, .int v8_3), (0, .ref a0_), (1, .int x1_), (2, .int x2_)] [0, 1, 2, 3, 4, 5, 6, 7] = [(7, .int 0), (6, .int 1), (5, .int v8_5), (4, .int v8_4), (3, .int v8_3), (0, .ref a0_), (1, .int x1_), (2, .int x2_)])
            have g9 := g.sub (fx' := []) [] rfl
            exact loop_28 (225) 0 1 (bd_sub kb_0 (by decide)) (bd_sub kb_1 (by decide)) (by have h9_0 := kb_0; unfold bd at h9_0; have h9_1 := kb_1; unfold bd at h9_1; have h9_2 := kb_112; unfold bd at h9_2; have h9_3 := kb_32; unfold bd at h9_3; omega) _ _ _ _ g9  hl9
        · have fc_9 := neq_f c_9
          refine lv_goto (tgt := 113) hx hb dX14_keyAt_30 (by decide) ?_
          have kb_1 : bd 1 1 (1 : Int32) := ⟨by decide, by decide⟩
          obtain ⟨y_78, ey_78⟩ : ∃ z : Int32, z = v8_5 + 1 := ⟨_, rfl⟩
          refine lv_iinc (v := y_78) (lv' := [(5, .int y_78), (4, .int v8_4), (3, .int v8_3), (0, .ref a0_), (1, .int x1_), (2, .int x2_)]) hx hb dX14_keyAt_113 hl (k := 0) rfl (by rw [ey_78]; rfl) (by decide) rfl (fun ls hl => ?_)
          have ty_78 := add_bd ey_78 b_6 kb_1 (by decide)
          have b_79 : bd 1 112 y_78 := add_rg ty_78 b_6 kb_1 (by decide)
          refine lv_goto (tgt := 8) hx hb dX14_keyAt_116 (by decide) ?_
          have hl9 := lv_sub hl [0, 1, 2, 3, 4, 5] (by rfl : lv_pick [(5, .int y_78), (4, .int v8_4), (3, .int v8_3), (0, .ref a0_), (1, .int x1_), (2, .int x2_)] [0, 1, 2, 3, 4, 5] = [(5, .int y_78), (4, .int v8_4), (3, .int v8_3), (0, .ref a0_), (1, .int x1_), (2, .int x2_)])
          have g9 := g.sub (fx' := []) [] rfl
          exact ih8  y_78 v8_4 v8_3 (bd_sub b_79 (by decide)) bv8_4 (by have h9_0 := b_79; unfold bd at h9_0; have h9_1 := bdT v8_3; unfold bd at h9_1; have h9_2 := bv8_4; unfold bd at h9_2; have h9_3 := bv8_5; unfold bd at h9_3; have h9_4 := kb_1; unfold bd at h9_4; have h9_5 := kb_112; unfold bd at h9_5; have h9_6 := kb_32; unfold bd at h9_6; omega) _ _ _ _ g9  hl9
  have kb_0 : bd 0 0 (0 : Int32) := ⟨by decide, by decide⟩
  have hl9 := lv_sub hl [0, 1, 2, 3, 4, 5] (by rfl : lv_pick [(5, .int 0), (4, .int 0), (3, .int 0), (0, .ref a0_), (1, .int x1_), (2, .int x2_)] [0, 1, 2, 3, 4, 5] = [(5, .int 0), (4, .int 0), (3, .int 0), (0, .ref a0_), (1, .int x1_), (2, .int x2_)])
  have g9 := g.sub (fx' := []) [] rfl
  exact loop_1 (227) 0 0 0 (bd_sub kb_0 (by decide)) (bd_sub kb_0 (by decide)) (by have h9_0 := kb_0; unfold bd at h9_0; omega) _ _ _ _ g9  hl9
