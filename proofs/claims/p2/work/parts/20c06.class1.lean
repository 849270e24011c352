set_option maxHeartbeats 4000000 in
set_option maxRecDepth 100000 in
theorem r_X0_closeParts (l : Launch) (dC : Nat → ClassId) (dI : Nat → Nat → Nat) (L : List Nat) (kd : Nat → Nat) (tys : List (ClassId × FieldType)) (f0 : Nat → va_E) (sz : Nat) (hWT : WT L kd tys f0) (a0_ : Nat) (ma0_ : a0_ ∈ L) (ka0_ : kd a0_ = 0) (x1_ : Int32) (q0_ : Nat) (mq0_ : q0_ ∈ L) (kq0_ : kd q0_ = 7) (hfx : Fs L kd f0 [(0, 2, a0_, .ref q0_)]) : Met l yX0_closeParts (.code yX0_closeParts cX0_closeParts 7 none :: lw_g) ({ frames := 1, cells := 0, slots := 0, locals := 23 }) (va_Pc [.ref a0_, .int x1_] (P3 (dC, dI) L tys f0 sz)) (va_Qv (fun (f : Nat → va_E) => (True)) (Q3 (dC, dI) L kd tys [(0, 8), (0, 10), (0, 11), (0, 12), (7, 6), (8, 6), (8, 8), (8, 9)] [115, 138, 139] f0 sz) (pA L sz)) 0 0 (pA L sz) := by
  refine Met.ofW (cc := cX0_closeParts) (maxL := 7) (ret := none) (by decide) rfl ?_
  intro p e s m args below meth c s₁ B hml hv
  obtain ⟨rfl, hsz, hP, hK, hD0⟩ := hv
  have hx := B.exec
  have hb := B.bytes
  have hr := B.returns
  have hts := atoms_spec (ws := (.code yX0_closeParts cX0_closeParts 7 none :: lw_g)) B.pre
  have hown : s.vm.findClass RX0 = some m.cls := findClass_of_methodNamed B.named
  have hlocks := B.notSynchronized
  subst hsz
  have g : G3 (dC, dI) L kd tys s f0 [(0, 8), (0, 10), (0, 11), (0, 12), (7, 6), (8, 6), (8, 8), (8, 9)] [115, 138, 139] f0 s.heap [] [(0, 2, a0_, .ref q0_)] := G3.start hP hD0 hWT hfx
  have hl := lv_entry ([.ref a0_, .int x1_]) (n := 7) (Nat.le_of_ble_eq_true rfl)
  rw [lg_entry_eq]
  generalize (lg_sl ([.ref a0_, .int x1_]) ++ List.replicate (7 - (lg_sl ([.ref a0_, .int x1_])).length) Slot.unset).toArray = ls at hl ⊢
  have hl : lv_has ls 7 [(0, .ref a0_), (1, .int x1_)] := hl
  refine W_q (fun Q hQ => ?_)
  refine lv_iconst (v := 1) hx hb dX0_closeParts_0 (by decide) ?_
  refine lv_istore_n (lv' := [(2, .int 1), (0, .ref a0_), (1, .int x1_)]) hx hb dX0_closeParts_1 rfl hl (by decide) rfl (fun ls hl => ?_)
  refine lv_iconst (v := 0) hx hb dX0_closeParts_2 (by decide) ?_
  refine lv_istore_n (lv' := [(3, .int 0), (2, .int 1), (0, .ref a0_), (1, .int x1_)]) hx hb dX0_closeParts_3 rfl hl (by decide) rfl (fun ls hl => ?_)
  have loop_1 : ∀ (n : Nat) (v4_3 : Int32) (v4_2 : Int32), bd 0 300 v4_3 → bd 0 1 v4_2 → (300 - v4_3.toInt < (n : Int)) → ∀ (f : Nat → va_E) (H : Heap) (locs : List Loc) (ls : Array Slot), G3 (dC, dI) L kd tys s f0 [(0, 8), (0, 10), (0, 11), (0, 12), (7, 6), (8, 6), (8, 8), (8, 9)] [115, 138, 139] f H locs [(0, 2, a0_, .ref q0_)] → lv_has ls 7 [(3, .int v4_3), (2, .int v4_2), (0, .ref a0_), (1, .int x1_)] → W p l e ({ frames := 1, cells := 0, slots := 0, locals := 23 } : Room) s m [.ref a0_, .int x1_].toArray below meth c H locs 0 0 Q (F0 m 4 ls []) := by
    intro n
    induction n with
    | zero =>
      intro v4_3 v4_2 bv4_3 bv4_2 hm f H locs ls g hl
      exact absurd hm (by have h9_v4_3 := bv4_3; unfold bd at h9_v4_3; have h9_v4_2 := bv4_2; unfold bd at h9_v4_2; omega)
    | succ n ih =>
      intro v4_3 v4_2 bv4_3 bv4_2 hm f H locs ls g hl
      refine lv_iload_n hx hb dX0_closeParts_4 rfl (lv_at hl 0 rfl) ?_
      refine lv_sipush (v := 300) hx hb dX0_closeParts_5 (by decide) ?_
      have kb_300 : bd 300 300 (300 : Int32) := ⟨by decide, by decide⟩
      refine lv_icmp_ge (tgt := 251) hx hb dX0_closeParts_8 (by decide) (fun c_2 => ?_) (fun c_2 => ?_)
      · have fc_2 := le_f c_2
        have b_3 : bd 300 300 v4_3 := leR fc_2 kb_300 bv4_3 (by decide)
        subst hQ
        exact W.vret hx hb hr (fun t ht hW => ⟨⟨_, rfl, trivial, q3_of g hK ht hW⟩, g.2.2.1.F ht⟩) g.2.2.1.2.2 dX0_closeParts_251
      · have fc_2 := nle_f c_2
        have b_4 : bd 0 299 v4_3 := ltL fc_2 bv4_3 kb_300 (by decide)
        refine lv_iload_n hx hb dX0_closeParts_11 rfl (lv_at hl 1 rfl) ?_
        have kb_0 : bd 0 0 (0 : Int32) := ⟨by decide, by decide⟩
        refine lv_if_eq (tgt := 251) hx hb dX0_closeParts_12 (by decide) (fun c_5 => ?_) (fun c_5 => ?_)
        · have fc_5 := eq_f c_5
          have b_6 : bd 0 0 v4_2 := eqX fc_5 bv4_2 kb_0 (by decide)
          subst hQ
          exact W.vret hx hb hr (fun t ht hW => ⟨⟨_, rfl, trivial, q3_of g hK ht hW⟩, g.2.2.1.F ht⟩) g.2.2.1.2.2 dX0_closeParts_251
        · have fc_5 := neq_f c_5
          have b_7 : bd 1 1 v4_2 := neX fc_5 bv4_2 kb_0 (by decide)
          refine lv_aload_n hx hb dX0_closeParts_15 rfl (lv_at hl 2 rfl) ?_
          refine g_geti (C := RX0) (T := TX0) (N := 14) hx hb hts (mc_ inX0) hown hK g ma0_ ka0_ (by decide) rfl 8 (by decide) rfl (hts _ (List.mem_cons_of_mem _ t_381)) (fun _ h9 => h9) rfl dX0_closeParts_16 (fun x_8 bx_8 g => ?_)
          refine lv_if_le (tgt := 251) hx hb dX0_closeParts_19 (by decide) (fun c_9 => ?_) (fun c_9 => ?_)
          · have fc_9 := le_f c_9
            have b_10 : bd 0 0 x_8 := leL fc_9 bx_8 kb_0 (by decide)
            subst hQ
            exact W.vret hx hb hr (fun t ht hW => ⟨⟨_, rfl, trivial, q3_of g hK ht hW⟩, g.2.2.1.F ht⟩) g.2.2.1.2.2 dX0_closeParts_251
          · have fc_9 := nle_f c_9
            have b_11 : bd 1 300 x_8 := ltR fc_9 kb_0 bx_8 (by decide)
            refine lv_aload_n hx hb dX0_closeParts_22 rfl (lv_at hl 2 rfl) ?_
            refine g_getr (K := 110) (C := RX0) (T := TX0) (N := 14) hx hb hts (mc_ inX0) hown hK g ma0_ ka0_ (by decide) rfl 3 (by decide) rfl (hts _ (List.mem_cons_of_mem _ t_376)) (fun _ h9 => h9) rfl dX0_closeParts_23 (fun a_12 ma_12 ka_12 g => ?_)
            refine lv_aload_n hx hb dX0_closeParts_26 rfl (lv_at hl 2 rfl) ?_
            refine g_getk (C := RX0) (T := TX0) (N := 14) hx hb hts (mc_ inX0) hown hK g rfl 8 (by decide) rfl (hts _ (List.mem_cons_of_mem _ t_381)) (fun _ h9 => h9) 1 rfl dX0_closeParts_27 ?_
            refine lv_iconst (v := 1) hx hb dX0_closeParts_30 (by decide) ?_
            have kb_1 : bd 1 1 (1 : Int32) := ⟨by decide, by decide⟩
            refine lv_isub hx hb dX0_closeParts_31 ?_
            refine lv_topi (fun y_13 ey_13 => ?_)
            have ty_13 := sub_bd ey_13 b_11 kb_1 (by decide)
            have b_14 : bd 0 299 y_13 := sub_rg ty_13 b_11 kb_1 (by decide)
            refine g_iald hx hb hK g ma_12 ka_12 (by decide) rfl (in_bd b_14 (by decide)) dX0_closeParts_32 (fun x_15 bx_15 => ?_)
            refine lv_istore (lv' := [(4, .int x_15), (3, .int v4_3), (2, .int v4_2), (0, .ref a0_), (1, .int x1_)]) hx hb dX0_closeParts_33 hl (by decide) rfl (fun ls hl => ?_)
            refine lv_iload hx hb dX0_closeParts_35 (lv_at hl 0 rfl) ?_
            refine lv_bipush (v := 6) hx hb dX0_closeParts_37 (by decide) ?_
            have kb_6 : bd 6 6 (6 : Int32) := ⟨by decide, by decide⟩
            refine lv_icmp_eq (tgt := 49) hx hb dX0_closeParts_39 (by decide) (fun c_16 => ?_) (fun c_16 => ?_)
            · have fc_16 := eq_f c_16
              have b_17 : bd 6 6 x_15 := eqX fc_16 (bdT x_15) kb_6 (by decide)
              refine lv_iconst (v := 1) hx hb dX0_closeParts_49 (by decide) ?_
              refine lv_goto (tgt := 54) hx hb dX0_closeParts_50 (by decide) ?_
              refine lv_istore (lv' := [(5, .int 1), (4, .int x_15), (3, .int v4_3), (2, .int v4_2), (0, .ref a0_), (1, .int x1_)]) hx hb dX0_closeParts_54 hl (by decide) rfl (fun ls hl => ?_)
              refine lv_iload hx hb dX0_closeParts_56 (lv_at hl 0 rfl) ?_
              refine lv_if_ne (tgt := 70) hx hb dX0_closeParts_58 (by decide) (fun c_ => ?_) (fun c_ => absurd c_ (by decide))
              refine lv_iconst (v := 1) hx hb dX0_closeParts_70 (by decide) ?_
              refine lv_goto (tgt := 75) hx hb dX0_closeParts_71 (by decide) ?_
              refine lv_istore_n (lv' := [(2, .int 1), (5, .int 1), (4, .int x_15), (3, .int v4_3), (0, .ref a0_), (1, .int x1_)]) hx hb dX0_closeParts_75 rfl hl (by decide) rfl (fun ls hl => ?_)
              refine lv_iload_n hx hb dX0_closeParts_76 rfl (lv_at hl 0 rfl) ?_
              refine lv_if_eq (tgt := 245) hx hb dX0_closeParts_77 (by decide) (fun c_ => absurd c_ (by decide)) (fun c_ => ?_)
              refine lv_aload_n hx hb dX0_closeParts_80 rfl (lv_at hl 4 rfl) ?_
              refine lv_dup hx hb dX0_closeParts_81 rfl ?_
              refine g_getk (C := RX0) (T := TX0) (N := 14) hx hb hts (mc_ inX0) hown hK g rfl 8 (by decide) rfl (hts _ (List.mem_cons_of_mem _ t_381)) (fun _ h9 => h9) 1 rfl dX0_closeParts_82 ?_
              refine lv_iconst (v := 1) hx hb dX0_closeParts_85 (by decide) ?_
              refine lv_isub hx hb dX0_closeParts_86 ?_
              refine lv_topi (fun y_18 ey_18 => ?_)
              have ty_18 := sub_bd ey_18 b_11 kb_1 (by decide)
              have b_19 : bd 0 299 y_18 := sub_rg ty_18 b_11 kb_1 (by decide)
              refine g_put (C := RX0) (T := TX0) (N := 14) hx hb hts (mc_ inX0) tyX0 tyX0_ok nmX0 hown hK g ma0_ ka0_ (by decide) rfl 8 (by decide) (hts _ (List.mem_cons_of_mem _ t_381)) (fun _ h9 => h9) rfl rfl (okV_i (bd_sub b_19 (by decide))) rfl rfl (by decide) (Or.inr (Or.inl (by decide))) (fx' := [(0, 3, a0_, .ref a_12), (0, 2, a0_, .ref q0_)]) rfl dX0_closeParts_87 (fun f H locs g => ?_)
              refine lv_aload_n hx hb dX0_closeParts_90 rfl (lv_at hl 4 rfl) ?_
              refine g_calli (va_runV (As := []) (rest := []) ⟨hx, hb, hml, hown, hts⟩ (r_X0_takeHeight l dC dI L kd tys f H.size g.2.2.2.1 a0_ ma0_ ka0_) (cwV 0 hts (gV_ t_1199 t_1201 t_16 t_190 t_1202) rfl rfl rfl (by decide +kernel) ⟨(Nat.le_of_ble_eq_true rfl), (Nat.le_of_ble_eq_true rfl)⟩) (pre3V g hK ma0_ ka0_ (by decide) (q := (RX0, TX0, 14)) rfl) rfl rfl hl.1 rfl (lv_room (Nat.le_of_ble_eq_true rfl)) dX0_closeParts_91 ⟨(Nat.le_of_ble_eq_true rfl), (Nat.le_of_ble_eq_true rfl)⟩) g hK (by decide) (by decide) (fx' := [(0, 8, a0_, .int y_18), (0, 3, a0_, .ref a_12), (0, 2, a0_, .ref q0_)]) rfl (fun r_20 fr_20 H locs hp hMr_20 g => ?_)
              obtain ⟨x_21, h_22, hF_23⟩ := hp
              have g := g.more hF_23
              refine lv_istore (lv' := [(6, .int r_20), (2, .int 1), (5, .int 1), (4, .int x_15), (3, .int v4_3), (0, .ref a0_), (1, .int x1_)]) hx hb dX0_closeParts_94 hl (by decide) rfl (fun ls hl => ?_)
              refine lv_iload hx hb dX0_closeParts_96 (lv_at hl 2 rfl) ?_
              refine lv_if_eq (tgt := 136) hx hb dX0_closeParts_98 (by decide) (fun c_ => absurd c_ (by decide)) (fun c_ => ?_)
              refine lv_aload_n hx hb dX0_closeParts_101 rfl (lv_at hl 5 rfl) ?_
              refine lv_dup hx hb dX0_closeParts_102 rfl ?_
              refine g_geti (C := RX0) (T := TX0) (N := 14) hx hb hts (mc_ inX0) hown hK g ma0_ ka0_ (by decide) rfl 11 (by decide) rfl (hts _ (List.mem_cons_of_mem _ t_384)) (fun _ h9 => h9) rfl dX0_closeParts_103 (fun x_24 bx_24 g => ?_)
              refine lv_iconst (v := 1) hx hb dX0_closeParts_106 (by decide) ?_
              refine lv_isub hx hb dX0_closeParts_107 ?_
              refine lv_topi (fun y_25 ey_25 => ?_)
              refine g_put (C := RX0) (T := TX0) (N := 14) hx hb hts (mc_ inX0) tyX0 tyX0_ok nmX0 hown hK g ma0_ ka0_ (by decide) rfl 11 (by decide) (hts _ (List.mem_cons_of_mem _ t_384)) (fun _ h9 => h9) rfl rfl (okV_i (bdT y_25)) rfl rfl (by decide) (Or.inr (Or.inl (by decide))) (fx' := [(0, 10, a0_, .int x_21), (0, 8, a0_, .int y_18), (0, 3, a0_, .ref a_12), (0, 2, a0_, .ref q0_)]) rfl dX0_closeParts_108 (fun f H locs g => ?_)
              refine lv_aload_n hx hb dX0_closeParts_111 rfl (lv_at hl 5 rfl) ?_
              refine g_getk (C := RX0) (T := TX0) (N := 14) hx hb hts (mc_ inX0) hown hK g rfl 2 (by decide) rfl (hts _ (List.mem_cons_of_mem _ t_375)) (fun _ h9 => h9) 4 rfl dX0_closeParts_112 ?_
              refine lv_iload hx hb dX0_closeParts_115 (lv_at hl 3 rfl) ?_
              refine lv_bipush (v := 6) hx hb dX0_closeParts_117 (by decide) ?_
              refine lv_icmp_ne (tgt := 127) hx hb dX0_closeParts_119 (by decide) (fun c_26 => ?_) (fun c_26 => ?_)
              · have fc_26 := neq_f c_26
                have b_27 : bd 7 5 x_15 := neX fc_26 b_17 kb_6 (by decide)
                exact bd_no b_27 (by decide)
              · have fc_26 := eq_f c_26
                refine lv_bipush (v := 6) hx hb dX0_closeParts_122 (by decide) ?_
                refine lv_goto (tgt := 129) hx hb dX0_closeParts_124 (by decide) ?_
                refine lv_iconst (v := 0) hx hb dX0_closeParts_129 (by decide) ?_
                refine g_callv (va_runV (As := [.int 6, .int 0]) (rest := []) ⟨hx, hb, hml, hown, hts⟩ (r_X7_emit l dC dI L kd tys f H.size g.2.2.2.1 q0_ mq0_ kq0_ 6 0) (cwV 2 hts (gV_ t_1203 t_1204 t_1205 t_191 t_1206) rfl rfl rfl (by decide +kernel) ⟨(Nat.le_of_ble_eq_true rfl), (Nat.le_of_ble_eq_true rfl)⟩) (pre3V g hK mq0_ kq0_ (by decide) (q := (RX7, TX7, 19)) rfl) rfl rfl hl.1 rfl (lv_room (Nat.le_of_ble_eq_true rfl)) dX0_closeParts_130 ⟨(Nat.le_of_ble_eq_true rfl), (Nat.le_of_ble_eq_true rfl)⟩) g hK (by decide) (by decide) (fx' := [(0, 11, a0_, .int y_25), (0, 10, a0_, .int x_21), (0, 8, a0_, .int y_18), (0, 3, a0_, .ref a_12), (0, 2, a0_, .ref q0_)]) rfl (fun fr_28 H locs hp hMr_28 g => ?_)
                obtain ⟨x_29, h_30, hF_31⟩ := hp
                have g := g.more hF_31
                refine lv_goto (tgt := 191) hx hb dX0_closeParts_133 (by decide) ?_
                refine lv_iconst (v := 1) hx hb dX0_closeParts_191 (by decide) ?_
                refine lv_iload hx hb dX0_closeParts_192 (lv_at hl 2 rfl) ?_
                refine lv_if_eq (tgt := 202) hx hb dX0_closeParts_194 (by decide) (fun c_ => absurd c_ (by decide)) (fun c_ => ?_)
                refine lv_iload hx hb dX0_closeParts_197 (lv_at hl 0 rfl) ?_
                refine lv_goto (tgt := 211) hx hb dX0_closeParts_199 (by decide) ?_
                refine lv_iadd hx hb dX0_closeParts_211 ?_
                refine lv_topi (fun y_32 ey_32 => ?_)
                refine lv_istore (lv' := [(6, .int y_32), (2, .int 1), (5, .int 1), (4, .int x_15), (3, .int v4_3), (0, .ref a0_), (1, .int x1_)]) hx hb dX0_closeParts_212 hl (by decide) rfl (fun ls hl => ?_)
                refine lv_aload_n hx hb dX0_closeParts_214 rfl (lv_at hl 5 rfl) ?_
                refine lv_iload hx hb dX0_closeParts_215 (lv_at hl 0 rfl) ?_
                refine g_callv (va_runV (As := [.int y_32]) (rest := []) ⟨hx, hb, hml, hown, hts⟩ (r_X0_addWhole l dC dI L kd tys fr_28 H.size g.2.2.2.1 a0_ ma0_ ka0_ y_32) (cwV 1 hts (gV_ t_1211 t_1213 t_17 t_190 t_1214) rfl rfl rfl (by decide +kernel) ⟨(Nat.le_of_ble_eq_true rfl), (Nat.le_of_ble_eq_true rfl)⟩) (pre3V g hK ma0_ ka0_ (by decide) (q := (RX0, TX0, 14)) rfl) rfl rfl hl.1 rfl (lv_room (Nat.le_of_ble_eq_true rfl)) dX0_closeParts_217 ⟨(Nat.le_of_ble_eq_true rfl), (Nat.le_of_ble_eq_true rfl)⟩) g hK (by decide) (by decide) (fx' := [(7, 6, q0_, .int x_29), (0, 11, a0_, .int y_25), (0, 8, a0_, .int y_18), (0, 3, a0_, .ref a_12), (0, 2, a0_, .ref q0_)]) rfl (fun fr_33 H locs hp hMr_33 g => ?_)
                obtain ⟨x_34, h_35, hF_36⟩ := hp
                have g := g.more hF_36
                refine lv_iload hx hb dX0_closeParts_220 (lv_at hl 0 rfl) ?_
                refine lv_bipush (v := 12) hx hb dX0_closeParts_222 (by decide) ?_
                have kb_12 : bd 12 12 (12 : Int32) := ⟨by decide, by decide⟩
                refine lv_icmp_le (tgt := 245) hx hb dX0_closeParts_224 (by decide) (fun c_37 => ?_) (fun c_37 => ?_)
                · have fc_37 := le_f c_37
                  have b_38 : bd (-2147483648) 12 y_32 := leL fc_37 (bdT y_32) kb_12 (by decide)
                  obtain ⟨y_39, ey_39⟩ : ∃ z : Int32, z = v4_3 + 1 := ⟨_, rfl⟩
                  refine lv_iinc (v := y_39) (lv' := [(3, .int y_39), (6, .int y_32), (2, .int 1), (5, .int 1), (4, .int x_15), (0, .ref a0_), (1, .int x1_)]) hx hb dX0_closeParts_245 hl (k := 4) rfl (by rw [ey_39]; rfl) (by decide) rfl (fun ls hl => ?_)
                  have ty_39 := add_bd ey_39 b_4 kb_1 (by decide)
                  have b_40 : bd 1 300 y_39 := add_rg ty_39 b_4 kb_1 (by decide)
                  refine lv_goto (tgt := 4) hx hb dX0_closeParts_248 (by decide) ?_
                  have hl9 := lv_sub hl [0, 2, 5, 6] (by rfl : lv_pick [(3, .int y_39), (6, .int y_32), (2, .int 1), (5, .int 1), (4, .int x_15), (0, .ref a0_), (1, .int x1_)] [0, 2, 5, 6] = [(3, .int y_39), (2, .int 1), (0, .ref a0_), (1, .int x1_)])
                  have g9 := g.sub (fx' := [(0, 2, a0_, .ref q0_)]) [6] rfl
                  exact ih  y_39 1 (bd_sub b_40 (by decide)) (bd_sub kb_1 (by decide)) (by have h9_0 := b_40; unfold bd at h9_0; have h9_1 := kb_0; unfold bd at h9_1; have h9_2 := kb_1; unfold bd at h9_2; have h9_3 := kb_12; unfold bd at h9_3; have h9_4 := kb_300; unfold bd at h9_4; have h9_5 := kb_6; unfold bd at h9_5; omega) _ _ _ _ g9 hl9
                · have fc_37 := nle_f c_37
                  have b_41 : bd 13 2147483647 y_32 := ltR fc_37 kb_12 (bdT y_32) (by decide)
                  refine lv_aload_n hx hb dX0_closeParts_227 rfl (lv_at hl 5 rfl) ?_
                  refine g_getr (K := 8) (C := RX0) (T := TX0) (N := 14) hx hb hts (mc_ inX0) hown hK g ma0_ ka0_ (by decide) rfl 0 (by decide) rfl (hts _ (List.mem_cons_of_mem _ t_373)) (fun _ h9 => h9) rfl dX0_closeParts_228 (fun a_42 ma_42 ka_42 g => ?_)
                  refine lv_bipush (v := 7) hx hb dX0_closeParts_231 (by decide) ?_
                  refine lv_aload_n hx hb dX0_closeParts_233 rfl (lv_at hl 5 rfl) ?_
                  refine g_getr (K := 111) (C := RX0) (T := TX0) (N := 14) hx hb hts (mc_ inX0) hown hK g ma0_ ka0_ (by decide) rfl 4 (by decide) rfl (hts _ (List.mem_cons_of_mem _ t_377)) (fun _ h9 => h9) rfl dX0_closeParts_234 (fun a_43 ma_43 ka_43 g => ?_)
                  refine lv_aload_n hx hb dX0_closeParts_237 rfl (lv_at hl 5 rfl) ?_
                  refine g_getk (C := RX0) (T := TX0) (N := 14) hx hb hts (mc_ inX0) hown hK g rfl 8 (by decide) rfl (hts _ (List.mem_cons_of_mem _ t_381)) (fun _ h9 => h9) 6 rfl dX0_closeParts_238 ?_
                  refine g_iald hx hb hK g ma_43 ka_43 (by decide) rfl (in_bd b_19 (by decide)) dX0_closeParts_241 (fun x_44 bx_44 => ?_)
                  have kb_7 : bd 7 7 (7 : Int32) := ⟨by decide, by decide⟩
                  refine g_callv (va_runV (As := [.int 7, .int x_44]) (rest := []) ⟨hx, hb, hml, hown, hts⟩ (r_X8_fail_10 l dC dI L kd tys fr_33 H.size g.2.2.2.1 a_42 ma_42 ka_42 7 kb_7 x_44) (cwV 2 hts (gV_ t_1215 t_1107 t_1108 t_184 t_1109) rfl rfl rfl (by decide +kernel) ⟨(Nat.le_of_ble_eq_true rfl), (Nat.le_of_ble_eq_true rfl)⟩) (pre3V g hK ma_42 ka_42 (by decide) (q := (RX8, TX8, 10)) rfl) rfl rfl hl.1 rfl (lv_room (Nat.le_of_ble_eq_true rfl)) dX0_closeParts_242 ⟨(Nat.le_of_ble_eq_true rfl), (Nat.le_of_ble_eq_true rfl)⟩) g hK (by decide) (by decide) (fx' := [(0, 4, a0_, .ref a_43), (0, 0, a0_, .ref a_42), (0, 12, a0_, .int 0), (0, 10, a0_, .int x_34), (7, 6, q0_, .int x_29), (0, 11, a0_, .int y_25), (0, 8, a0_, .int y_18), (0, 3, a0_, .ref a_12), (0, 2, a0_, .ref q0_)]) rfl (fun fr_45 H locs hp hMr_45 g => ?_)
                  obtain ⟨x_46, h_47, hF_48⟩ := hp
                  have g := g.more hF_48
                  obtain ⟨y_49, ey_49⟩ : ∃ z : Int32, z = v4_3 + 1 := ⟨_, rfl⟩
                  refine lv_iinc (v := y_49) (lv' := [(3, .int y_49), (6, .int y_32), (2, .int 1), (5, .int 1), (4, .int x_15), (0, .ref a0_), (1, .int x1_)]) hx hb dX0_closeParts_245 hl (k := 4) rfl (by rw [ey_49]; rfl) (by decide) rfl (fun ls hl => ?_)
                  have ty_49 := add_bd ey_49 b_4 kb_1 (by decide)
                  have b_50 : bd 1 300 y_49 := add_rg ty_49 b_4 kb_1 (by decide)
                  refine lv_goto (tgt := 4) hx hb dX0_closeParts_248 (by decide) ?_
                  have hl9 := lv_sub hl [0, 2, 5, 6] (by rfl : lv_pick [(3, .int y_49), (6, .int y_32), (2, .int 1), (5, .int 1), (4, .int x_15), (0, .ref a0_), (1, .int x1_)] [0, 2, 5, 6] = [(3, .int y_49), (2, .int 1), (0, .ref a0_), (1, .int x1_)])
                  have g9 := g.sub (fx' := [(0, 2, a0_, .ref q0_)]) [10] rfl
                  exact ih  y_49 1 (bd_sub b_50 (by decide)) (bd_sub kb_1 (by decide)) (by have h9_0 := b_50; unfold bd at h9_0; have h9_1 := kb_0; unfold bd at h9_1; have h9_2 := kb_1; unfold bd at h9_2; have h9_3 := kb_12; unfold bd at h9_3; have h9_4 := kb_300; unfold bd at h9_4; have h9_5 := kb_6; unfold bd at h9_5; have h9_6 := kb_7; unfold bd at h9_6; omega) _ _ _ _ g9 hl9
            · have fc_16 := neq_f c_16
              refine lv_iload hx hb dX0_closeParts_42 (lv_at hl 0 rfl) ?_
              refine lv_bipush (v := 7) hx hb dX0_closeParts_44 (by decide) ?_
              have kb_7 : bd 7 7 (7 : Int32) := ⟨by decide, by decide⟩
              refine lv_icmp_ne (tgt := 53) hx hb dX0_closeParts_46 (by decide) (fun c_51 => ?_) (fun c_51 => ?_)
              · have fc_51 := neq_f c_51
                refine lv_iconst (v := 0) hx hb dX0_closeParts_53 (by decide) ?_
                refine lv_istore (lv' := [(5, .int 0), (4, .int x_15), (3, .int v4_3), (2, .int v4_2), (0, .ref a0_), (1, .int x1_)]) hx hb dX0_closeParts_54 hl (by decide) rfl (fun ls hl => ?_)
                refine lv_iload hx hb dX0_closeParts_56 (lv_at hl 0 rfl) ?_
                refine lv_if_ne (tgt := 70) hx hb dX0_closeParts_58 (by decide) (fun c_ => absurd c_ (by decide)) (fun c_ => ?_)
                refine lv_iload hx hb dX0_closeParts_61 (lv_at hl 1 rfl) ?_
                refine g_calli (va_runS (As := [.int x_15]) (rest := []) ⟨hx, hb, hml, hown, hts⟩ (r_X0_levelOf l dC dI L kd tys f H.size g.2.2.2.1 x_15) (va_cwS 1 hts (gS_ t_1191 t_1192 t_190 t_1193) rfl rfl rfl (by decide +kernel) ⟨(Nat.le_of_ble_eq_true rfl), (Nat.le_of_ble_eq_true rfl)⟩) (pre3S g hK) rfl rfl hl.1 rfl (lv_room (Nat.le_of_ble_eq_true rfl)) dX0_closeParts_63 ⟨(Nat.le_of_ble_eq_true rfl), (Nat.le_of_ble_eq_true rfl)⟩) g hK (by decide) (by decide) (fx' := [(0, 3, a0_, .ref a_12), (0, 8, a0_, .int x_8), (0, 2, a0_, .ref q0_)]) rfl (fun r_52 fr_52 H locs hp hMr_52 g => ?_)
                obtain ⟨h_53, -⟩ := hp
                refine lv_iload_n hx hb dX0_closeParts_66 rfl (lv_at hl 5 rfl) ?_
                refine lv_icmp_lt (tgt := 74) hx hb dX0_closeParts_67 (by decide) (fun c_54 => ?_) (fun c_54 => ?_)
                · have fc_54 := lt_f c_54
                  have b_55 : bd 1 2147483647 x1_ := ltR fc_54 h_53 (bdT x1_) (by decide)
                  refine lv_iconst (v := 0) hx hb dX0_closeParts_74 (by decide) ?_
                  refine lv_istore_n (lv' := [(2, .int 0), (5, .int 0), (4, .int x_15), (3, .int v4_3), (0, .ref a0_), (1, .int x1_)]) hx hb dX0_closeParts_75 rfl hl (by decide) rfl (fun ls hl => ?_)
                  refine lv_iload_n hx hb dX0_closeParts_76 rfl (lv_at hl 0 rfl) ?_
                  refine lv_if_eq (tgt := 245) hx hb dX0_closeParts_77 (by decide) (fun c_ => ?_) (fun c_ => absurd (by decide) c_)
                  obtain ⟨y_56, ey_56⟩ : ∃ z : Int32, z = v4_3 + 1 := ⟨_, rfl⟩
                  refine lv_iinc (v := y_56) (lv' := [(3, .int y_56), (2, .int 0), (5, .int 0), (4, .int x_15), (0, .ref a0_), (1, .int x1_)]) hx hb dX0_closeParts_245 hl (k := 3) rfl (by rw [ey_56]; rfl) (by decide) rfl (fun ls hl => ?_)
                  have ty_56 := add_bd ey_56 b_4 kb_1 (by decide)
                  have b_57 : bd 1 300 y_56 := add_rg ty_56 b_4 kb_1 (by decide)
                  refine lv_goto (tgt := 4) hx hb dX0_closeParts_248 (by decide) ?_
                  have hl9 := lv_sub hl [0, 1, 4, 5] (by rfl : lv_pick [(3, .int y_56), (2, .int 0), (5, .int 0), (4, .int x_15), (0, .ref a0_), (1, .int x1_)] [0, 1, 4, 5] = [(3, .int y_56), (2, .int 0), (0, .ref a0_), (1, .int x1_)])
                  have g9 := g.sub (fx' := [(0, 2, a0_, .ref q0_)]) [2] rfl
                  exact ih  y_56 0 (bd_sub b_57 (by decide)) (bd_sub kb_0 (by decide)) (by have h9_0 := b_57; unfold bd at h9_0; have h9_1 := kb_0; unfold bd at h9_1; have h9_2 := kb_1; unfold bd at h9_2; have h9_3 := kb_300; unfold bd at h9_3; have h9_4 := kb_6; unfold bd at h9_4; have h9_5 := kb_7; unfold bd at h9_5; omega) _ _ _ _ g9 hl9
                · have fc_54 := nlt_f c_54
                  have b_58 : bd (-2147483648) 5 x1_ := leL fc_54 (bdT x1_) h_53 (by decide)
                  refine lv_iconst (v := 1) hx hb dX0_closeParts_70 (by decide) ?_
                  refine lv_goto (tgt := 75) hx hb dX0_closeParts_71 (by decide) ?_
                  refine lv_istore_n (lv' := [(2, .int 1), (5, .int 0), (4, .int x_15), (3, .int v4_3), (0, .ref a0_), (1, .int x1_)]) hx hb dX0_closeParts_75 rfl hl (by decide) rfl (fun ls hl => ?_)
                  refine lv_iload_n hx hb dX0_closeParts_76 rfl (lv_at hl 0 rfl) ?_
                  refine lv_if_eq (tgt := 245) hx hb dX0_closeParts_77 (by decide) (fun c_ => absurd c_ (by decide)) (fun c_ => ?_)
                  refine lv_aload_n hx hb dX0_closeParts_80 rfl (lv_at hl 4 rfl) ?_
                  refine lv_dup hx hb dX0_closeParts_81 rfl ?_
                  refine g_getk (C := RX0) (T := TX0) (N := 14) hx hb hts (mc_ inX0) hown hK g rfl 8 (by decide) rfl (hts _ (List.mem_cons_of_mem _ t_381)) (fun _ h9 => h9) 1 rfl dX0_closeParts_82 ?_
                  refine lv_iconst (v := 1) hx hb dX0_closeParts_85 (by decide) ?_
                  refine lv_isub hx hb dX0_closeParts_86 ?_
                  refine lv_topi (fun y_59 ey_59 => ?_)
                  have ty_59 := sub_bd ey_59 b_11 kb_1 (by decide)
                  have b_60 : bd 0 299 y_59 := sub_rg ty_59 b_11 kb_1 (by decide)
                  refine g_put (C := RX0) (T := TX0) (N := 14) hx hb hts (mc_ inX0) tyX0 tyX0_ok nmX0 hown hK g ma0_ ka0_ (by decide) rfl 8 (by decide) (hts _ (List.mem_cons_of_mem _ t_381)) (fun _ h9 => h9) rfl rfl (okV_i (bd_sub b_60 (by decide))) rfl rfl (by decide) (Or.inr (Or.inl (by decide))) (fx' := [(0, 3, a0_, .ref a_12), (0, 2, a0_, .ref q0_)]) rfl dX0_closeParts_87 (fun f H locs g => ?_)
                  refine lv_aload_n hx hb dX0_closeParts_90 rfl (lv_at hl 4 rfl) ?_
                  refine g_calli (va_runV (As := []) (rest := []) ⟨hx, hb, hml, hown, hts⟩ (r_X0_takeHeight l dC dI L kd tys f H.size g.2.2.2.1 a0_ ma0_ ka0_) (cwV 0 hts (gV_ t_1199 t_1201 t_16 t_190 t_1202) rfl rfl rfl (by decide +kernel) ⟨(Nat.le_of_ble_eq_true rfl), (Nat.le_of_ble_eq_true rfl)⟩) (pre3V g hK ma0_ ka0_ (by decide) (q := (RX0, TX0, 14)) rfl) rfl rfl hl.1 rfl (lv_room (Nat.le_of_ble_eq_true rfl)) dX0_closeParts_91 ⟨(Nat.le_of_ble_eq_true rfl), (Nat.le_of_ble_eq_true rfl)⟩) g hK (by decide) (by decide) (fx' := [(0, 8, a0_, .int y_59), (0, 3, a0_, .ref a_12), (0, 2, a0_, .ref q0_)]) rfl (fun r_61 fr_61 H locs hp hMr_61 g => ?_)
                  obtain ⟨x_62, h_63, hF_64⟩ := hp
                  have g := g.more hF_64
                  refine lv_istore (lv' := [(6, .int r_61), (2, .int 1), (5, .int 0), (4, .int x_15), (3, .int v4_3), (0, .ref a0_), (1, .int x1_)]) hx hb dX0_closeParts_94 hl (by decide) rfl (fun ls hl => ?_)
                  refine lv_iload hx hb dX0_closeParts_96 (lv_at hl 2 rfl) ?_
                  refine lv_if_eq (tgt := 136) hx hb dX0_closeParts_98 (by decide) (fun c_ => ?_) (fun c_ => absurd (by decide) c_)
                  refine lv_iload hx hb dX0_closeParts_136 (lv_at hl 3 rfl) ?_
                  refine lv_sipush (v := 205) hx hb dX0_closeParts_138 (by decide) ?_
                  have kb_205 : bd 205 205 (205 : Int32) := ⟨by decide, by decide⟩
                  refine lv_icmp_eq (tgt := 152) hx hb dX0_closeParts_141 (by decide) (fun c_65 => ?_) (fun c_65 => ?_)
                  · have fc_65 := eq_f c_65
                    have b_66 : bd 205 205 x_15 := eqX fc_65 (bdT x_15) kb_205 (by decide)
                    refine lv_aload_n hx hb dX0_closeParts_152 rfl (lv_at hl 5 rfl) ?_
                    refine g_getk (C := RX0) (T := TX0) (N := 14) hx hb hts (mc_ inX0) hown hK g rfl 2 (by decide) rfl (hts _ (List.mem_cons_of_mem _ t_375)) (fun _ h9 => h9) 3 rfl dX0_closeParts_153 ?_
                    refine lv_bipush (v := 8) hx hb dX0_closeParts_156 (by decide) ?_
                    refine lv_iconst (v := 0) hx hb dX0_closeParts_158 (by decide) ?_
                    refine g_callv (va_runV (As := [.int 8, .int 0]) (rest := []) ⟨hx, hb, hml, hown, hts⟩ (r_X7_emit l dC dI L kd tys fr_61 H.size g.2.2.2.1 q0_ mq0_ kq0_ 8 0) (cwV 2 hts (gV_ t_1203 t_1204 t_1205 t_191 t_1206) rfl rfl rfl (by decide +kernel) ⟨(Nat.le_of_ble_eq_true rfl), (Nat.le_of_ble_eq_true rfl)⟩) (pre3V g hK mq0_ kq0_ (by decide) (q := (RX7, TX7, 19)) rfl) rfl rfl hl.1 rfl (lv_room (Nat.le_of_ble_eq_true rfl)) dX0_closeParts_159 ⟨(Nat.le_of_ble_eq_true rfl), (Nat.le_of_ble_eq_true rfl)⟩) g hK (by decide) (by decide) (fx' := [(0, 10, a0_, .int x_62), (0, 8, a0_, .int y_59), (0, 3, a0_, .ref a_12), (0, 2, a0_, .ref q0_)]) rfl (fun fr_67 H locs hp hMr_67 g => ?_)
                    obtain ⟨x_68, h_69, hF_70⟩ := hp
                    have g := g.more hF_70
                    refine lv_aload_n hx hb dX0_closeParts_162 rfl (lv_at hl 5 rfl) ?_
                    refine g_getk (C := RX0) (T := TX0) (N := 14) hx hb hts (mc_ inX0) hown hK g rfl 2 (by decide) rfl (hts _ (List.mem_cons_of_mem _ t_375)) (fun _ h9 => h9) 4 rfl dX0_closeParts_163 ?_
                    refine lv_aload_n hx hb dX0_closeParts_166 rfl (lv_at hl 5 rfl) ?_
                    refine g_getr (K := 112) (C := RX0) (T := TX0) (N := 14) hx hb hts (mc_ inX0) hown hK g ma0_ ka0_ (by decide) rfl 5 (by decide) rfl (hts _ (List.mem_cons_of_mem _ t_378)) (fun _ h9 => h9) rfl dX0_closeParts_167 (fun a_71 ma_71 ka_71 g => ?_)
                    refine lv_aload_n hx hb dX0_closeParts_170 rfl (lv_at hl 5 rfl) ?_
                    refine g_getk (C := RX0) (T := TX0) (N := 14) hx hb hts (mc_ inX0) hown hK g rfl 8 (by decide) rfl (hts _ (List.mem_cons_of_mem _ t_381)) (fun _ h9 => h9) 3 rfl dX0_closeParts_171 ?_
                    refine g_iald hx hb hK g ma_71 ka_71 (by decide) rfl (in_bd b_60 (by decide)) dX0_closeParts_174 (fun x_72 bx_72 => ?_)
                    refine g_callv (va_runV (As := [.int x_72]) (rest := []) ⟨hx, hb, hml, hown, hts⟩ (r_X7_leadHere l dC dI L kd tys fr_67 H.size g.2.2.2.1 q0_ mq0_ kq0_ x_72) (cwV 1 hts (gV_ t_1207 t_1208 t_1209 t_191 t_1210) rfl rfl rfl (by decide +kernel) ⟨(Nat.le_of_ble_eq_true rfl), (Nat.le_of_ble_eq_true rfl)⟩) (pre3V g hK mq0_ kq0_ (by decide) (q := (RX7, TX7, 19)) rfl) rfl rfl hl.1 rfl (lv_room (Nat.le_of_ble_eq_true rfl)) dX0_closeParts_175 ⟨(Nat.le_of_ble_eq_true rfl), (Nat.le_of_ble_eq_true rfl)⟩) g hK (by decide) (by decide) (fx' := [(0, 5, a0_, .ref a_71), (7, 6, q0_, .int x_68), (0, 10, a0_, .int x_62), (0, 8, a0_, .int y_59), (0, 3, a0_, .ref a_12), (0, 2, a0_, .ref q0_)]) rfl (fun fr_73 H locs hp hMr_73 g => ?_)
                    refine lv_goto (tgt := 191) hx hb dX0_closeParts_178 (by decide) ?_
                    refine lv_iconst (v := 1) hx hb dX0_closeParts_191 (by decide) ?_
                    refine lv_iload hx hb dX0_closeParts_192 (lv_at hl 2 rfl) ?_
                    refine lv_if_eq (tgt := 202) hx hb dX0_closeParts_194 (by decide) (fun c_ => ?_) (fun c_ => absurd (by decide) c_)
                    refine lv_iload hx hb dX0_closeParts_202 (lv_at hl 0 rfl) ?_
                    refine lv_aload_n hx hb dX0_closeParts_204 rfl (lv_at hl 5 rfl) ?_
                    refine g_calli (va_runV (As := []) (rest := [.int r_61, .int 1]) ⟨hx, hb, hml, hown, hts⟩ (r_X0_takeHeight l dC dI L kd tys fr_73 H.size g.2.2.2.1 a0_ ma0_ ka0_) (cwV 0 hts (gV_ t_1199 t_1201 t_16 t_190 t_1202) rfl rfl rfl (by decide +kernel) ⟨(Nat.le_of_ble_eq_true rfl), (Nat.le_of_ble_eq_true rfl)⟩) (pre3V g hK ma0_ ka0_ (by decide) (q := (RX0, TX0, 14)) rfl) rfl rfl hl.1 rfl (lv_room (Nat.le_of_ble_eq_true rfl)) dX0_closeParts_205 ⟨(Nat.le_of_ble_eq_true rfl), (Nat.le_of_ble_eq_true rfl)⟩) g hK (by decide) (by decide) (fx' := [(0, 5, a0_, .ref a_71), (7, 6, q0_, .int x_68), (0, 8, a0_, .int y_59), (0, 3, a0_, .ref a_12), (0, 2, a0_, .ref q0_)]) rfl (fun r_74 fr_74 H locs hp hMr_74 g => ?_)
                    obtain ⟨x_75, h_76, hF_77⟩ := hp
                    have g := g.more hF_77
                    refine va_mmax hx hb (hml.trans hl.1.symm) hown (hts _ (List.mem_cons_of_mem _ t_1194)) (hts _ (List.mem_cons_of_mem _ t_1041)) (hts _ (List.mem_cons_of_mem _ t_204)) (hts _ (List.mem_cons_of_mem _ t_1042)) (Nat.le_of_ble_eq_true rfl) (Nat.le_of_ble_eq_true rfl) (Nat.le_of_ble_eq_true rfl) (Nat.le_of_ble_eq_true rfl) dX0_closeParts_208 ?_
                    refine lv_topi (fun y_78 ey_78 => ?_)
                    have ty_78 : y_78.toInt = max r_61.toInt r_74.toInt := by rw [ey_78]; exact mmax_ok _ _
                    have b_79 : bd (-2147483648) 2147483647 y_78 := max_rg ty_78 (bdT r_61) (bdT r_74) (by decide)
                    refine lv_iadd hx hb dX0_closeParts_211 ?_
                    refine lv_topi (fun y_80 ey_80 => ?_)
                    refine lv_istore (lv' := [(6, .int y_80), (2, .int 1), (5, .int 0), (4, .int x_15), (3, .int v4_3), (0, .ref a0_), (1, .int x1_)]) hx hb dX0_closeParts_212 hl (by decide) rfl (fun ls hl => ?_)
                    refine lv_aload_n hx hb dX0_closeParts_214 rfl (lv_at hl 5 rfl) ?_
                    refine lv_iload hx hb dX0_closeParts_215 (lv_at hl 0 rfl) ?_
                    refine g_callv (va_runV (As := [.int y_80]) (rest := []) ⟨hx, hb, hml, hown, hts⟩ (r_X0_addWhole l dC dI L kd tys fr_74 H.size g.2.2.2.1 a0_ ma0_ ka0_ y_80) (cwV 1 hts (gV_ t_1211 t_1213 t_17 t_190 t_1214) rfl rfl rfl (by decide +kernel) ⟨(Nat.le_of_ble_eq_true rfl), (Nat.le_of_ble_eq_true rfl)⟩) (pre3V g hK ma0_ ka0_ (by decide) (q := (RX0, TX0, 14)) rfl) rfl rfl hl.1 rfl (lv_room (Nat.le_of_ble_eq_true rfl)) dX0_closeParts_217 ⟨(Nat.le_of_ble_eq_true rfl), (Nat.le_of_ble_eq_true rfl)⟩) g hK (by decide) (by decide) (fx' := [(0, 5, a0_, .ref a_71), (7, 6, q0_, .int x_68), (0, 8, a0_, .int y_59), (0, 3, a0_, .ref a_12), (0, 2, a0_, .ref q0_)]) rfl (fun fr_81 H locs hp hMr_81 g => ?_)
                    obtain ⟨x_82, h_83, hF_84⟩ := hp
                    have g := g.more hF_84
                    refine lv_iload hx hb dX0_closeParts_220 (lv_at hl 0 rfl) ?_
                    refine lv_bipush (v := 12) hx hb dX0_closeParts_222 (by decide) ?_
                    have kb_12 : bd 12 12 (12 : Int32) := ⟨by decide, by decide⟩
                    refine lv_icmp_le (tgt := 245) hx hb dX0_closeParts_224 (by decide) (fun c_85 => ?_) (fun c_85 => ?_)
                    · have fc_85 := le_f c_85
                      have b_86 : bd (-2147483648) 12 y_80 := leL fc_85 (bdT y_80) kb_12 (by decide)
                      obtain ⟨y_87, ey_87⟩ : ∃ z : Int32, z = v4_3 + 1 := ⟨_, rfl⟩
                      refine lv_iinc (v := y_87) (lv' := [(3, .int y_87), (6, .int y_80), (2, .int 1), (5, .int 0), (4, .int x_15), (0, .ref a0_), (1, .int x1_)]) hx hb dX0_closeParts_245 hl (k := 4) rfl (by rw [ey_87]; rfl) (by decide) rfl (fun ls hl => ?_)
                      have ty_87 := add_bd ey_87 b_4 kb_1 (by decide)
                      have b_88 : bd 1 300 y_87 := add_rg ty_87 b_4 kb_1 (by decide)
                      refine lv_goto (tgt := 4) hx hb dX0_closeParts_248 (by decide) ?_
                      have hl9 := lv_sub hl [0, 2, 5, 6] (by rfl : lv_pick [(3, .int y_87), (6, .int y_80), (2, .int 1), (5, .int 0), (4, .int x_15), (0, .ref a0_), (1, .int x1_)] [0, 2, 5, 6] = [(3, .int y_87), (2, .int 1), (0, .ref a0_), (1, .int x1_)])
                      have g9 := g.sub (fx' := [(0, 2, a0_, .ref q0_)]) [6] rfl
                      exact ih  y_87 1 (bd_sub b_88 (by decide)) (bd_sub kb_1 (by decide)) (by have h9_0 := b_88; unfold bd at h9_0; have h9_1 := kb_0; unfold bd at h9_1; have h9_2 := kb_1; unfold bd at h9_2; have h9_3 := kb_12; unfold bd at h9_3; have h9_4 := kb_205; unfold bd at h9_4; have h9_5 := kb_300; unfold bd at h9_5; have h9_6 := kb_6; unfold bd at h9_6; have h9_7 := kb_7; unfold bd at h9_7; omega) _ _ _ _ g9 hl9
                    · have fc_85 := nle_f c_85
                      have b_89 : bd 13 2147483647 y_80 := ltR fc_85 kb_12 (bdT y_80) (by decide)
                      refine lv_aload_n hx hb dX0_closeParts_227 rfl (lv_at hl 5 rfl) ?_
                      refine g_getr (K := 8) (C := RX0) (T := TX0) (N := 14) hx hb hts (mc_ inX0) hown hK g ma0_ ka0_ (by decide) rfl 0 (by decide) rfl (hts _ (List.mem_cons_of_mem _ t_373)) (fun _ h9 => h9) rfl dX0_closeParts_228 (fun a_90 ma_90 ka_90 g => ?_)
                      refine lv_bipush (v := 7) hx hb dX0_closeParts_231 (by decide) ?_
                      refine lv_aload_n hx hb dX0_closeParts_233 rfl (lv_at hl 5 rfl) ?_
                      refine g_getr (K := 111) (C := RX0) (T := TX0) (N := 14) hx hb hts (mc_ inX0) hown hK g ma0_ ka0_ (by decide) rfl 4 (by decide) rfl (hts _ (List.mem_cons_of_mem _ t_377)) (fun _ h9 => h9) rfl dX0_closeParts_234 (fun a_91 ma_91 ka_91 g => ?_)
                      refine lv_aload_n hx hb dX0_closeParts_237 rfl (lv_at hl 5 rfl) ?_
                      refine g_getk (C := RX0) (T := TX0) (N := 14) hx hb hts (mc_ inX0) hown hK g rfl 8 (by decide) rfl (hts _ (List.mem_cons_of_mem _ t_381)) (fun _ h9 => h9) 6 rfl dX0_closeParts_238 ?_
                      refine g_iald hx hb hK g ma_91 ka_91 (by decide) rfl (in_bd b_60 (by decide)) dX0_closeParts_241 (fun x_92 bx_92 => ?_)
                      refine g_callv (va_runV (As := [.int 7, .int x_92]) (rest := []) ⟨hx, hb, hml, hown, hts⟩ (r_X8_fail_10 l dC dI L kd tys fr_81 H.size g.2.2.2.1 a_90 ma_90 ka_90 7 kb_7 x_92) (cwV 2 hts (gV_ t_1215 t_1107 t_1108 t_184 t_1109) rfl rfl rfl (by decide +kernel) ⟨(Nat.le_of_ble_eq_true rfl), (Nat.le_of_ble_eq_true rfl)⟩) (pre3V g hK ma_90 ka_90 (by decide) (q := (RX8, TX8, 10)) rfl) rfl rfl hl.1 rfl (lv_room (Nat.le_of_ble_eq_true rfl)) dX0_closeParts_242 ⟨(Nat.le_of_ble_eq_true rfl), (Nat.le_of_ble_eq_true rfl)⟩) g hK (by decide) (by decide) (fx' := [(0, 4, a0_, .ref a_91), (0, 0, a0_, .ref a_90), (0, 12, a0_, .int 0), (0, 10, a0_, .int x_82), (0, 5, a0_, .ref a_71), (7, 6, q0_, .int x_68), (0, 8, a0_, .int y_59), (0, 3, a0_, .ref a_12), (0, 2, a0_, .ref q0_)]) rfl (fun fr_93 H locs hp hMr_93 g => ?_)
                      obtain ⟨x_94, h_95, hF_96⟩ := hp
                      have g := g.more hF_96
                      obtain ⟨y_97, ey_97⟩ : ∃ z : Int32, z = v4_3 + 1 := ⟨_, rfl⟩
                      refine lv_iinc (v := y_97) (lv' := [(3, .int y_97), (6, .int y_80), (2, .int 1), (5, .int 0), (4, .int x_15), (0, .ref a0_), (1, .int x1_)]) hx hb dX0_closeParts_245 hl (k := 4) rfl (by rw [ey_97]; rfl) (by decide) rfl (fun ls hl => ?_)
                      have ty_97 := add_bd ey_97 b_4 kb_1 (by decide)
                      have b_98 : bd 1 300 y_97 := add_rg ty_97 b_4 kb_1 (by decide)
                      refine lv_goto (tgt := 4) hx hb dX0_closeParts_248 (by decide) ?_
                      have hl9 := lv_sub hl [0, 2, 5, 6] (by rfl : lv_pick [(3, .int y_97), (6, .int y_80), (2, .int 1), (5, .int 0), (4, .int x_15), (0, .ref a0_), (1, .int x1_)] [0, 2, 5, 6] = [(3, .int y_97), (2, .int 1), (0, .ref a0_), (1, .int x1_)])
                      have g9 := g.sub (fx' := [(0, 2, a0_, .ref q0_)]) [10] rfl
                      exact ih  y_97 1 (bd_sub b_98 (by decide)) (bd_sub kb_1 (by decide)) (by have h9_0 := b_98; unfold bd at h9_0; have h9_1 := kb_0; unfold bd at h9_1; have h9_2 := kb_1; unfold bd at h9_2; have h9_3 := kb_12; unfold bd at h9_3; have h9_4 := kb_205; unfold bd at h9_4; have h9_5 := kb_300; unfold bd at h9_5; have h9_6 := kb_6; unfold bd at h9_6; have h9_7 := kb_7; unfold bd at h9_7; omega) _ _ _ _ g9 hl9
                  · have fc_65 := neq_f c_65
                    refine lv_iload hx hb dX0_closeParts_144 (lv_at hl 3 rfl) ?_
                    refine lv_sipush (v := 206) hx hb dX0_closeParts_146 (by decide) ?_
                    have kb_206 : bd 206 206 (206 : Int32) := ⟨by decide, by decide⟩
                    refine lv_icmp_ne (tgt := 181) hx hb dX0_closeParts_149 (by decide) (fun c_99 => ?_) (fun c_99 => ?_)
                    · have fc_99 := neq_f c_99
                      refine lv_aload_n hx hb dX0_closeParts_181 rfl (lv_at hl 5 rfl) ?_
                      refine g_getk (C := RX0) (T := TX0) (N := 14) hx hb hts (mc_ inX0) hown hK g rfl 2 (by decide) rfl (hts _ (List.mem_cons_of_mem _ t_375)) (fun _ h9 => h9) 3 rfl dX0_closeParts_182 ?_
                      refine lv_iload hx hb dX0_closeParts_185 (lv_at hl 3 rfl) ?_
                      refine lv_iconst (v := 0) hx hb dX0_closeParts_187 (by decide) ?_
                      refine g_callv (va_runV (As := [.int x_15, .int 0]) (rest := []) ⟨hx, hb, hml, hown, hts⟩ (r_X7_emit l dC dI L kd tys fr_61 H.size g.2.2.2.1 q0_ mq0_ kq0_ x_15 0) (cwV 2 hts (gV_ t_1203 t_1204 t_1205 t_191 t_1206) rfl rfl rfl (by decide +kernel) ⟨(Nat.le_of_ble_eq_true rfl), (Nat.le_of_ble_eq_true rfl)⟩) (pre3V g hK mq0_ kq0_ (by decide) (q := (RX7, TX7, 19)) rfl) rfl rfl hl.1 rfl (lv_room (Nat.le_of_ble_eq_true rfl)) dX0_closeParts_188 ⟨(Nat.le_of_ble_eq_true rfl), (Nat.le_of_ble_eq_true rfl)⟩) g hK (by decide) (by decide) (fx' := [(0, 10, a0_, .int x_62), (0, 8, a0_, .int y_59), (0, 3, a0_, .ref a_12), (0, 2, a0_, .ref q0_)]) rfl (fun fr_100 H locs hp hMr_100 g => ?_)
                      obtain ⟨x_101, h_102, hF_103⟩ := hp
                      have g := g.more hF_103
                      refine lv_iconst (v := 1) hx hb dX0_closeParts_191 (by decide) ?_
                      refine lv_iload hx hb dX0_closeParts_192 (lv_at hl 2 rfl) ?_
                      refine lv_if_eq (tgt := 202) hx hb dX0_closeParts_194 (by decide) (fun c_ => ?_) (fun c_ => absurd (by decide) c_)
                      refine lv_iload hx hb dX0_closeParts_202 (lv_at hl 0 rfl) ?_
                      refine lv_aload_n hx hb dX0_closeParts_204 rfl (lv_at hl 5 rfl) ?_
                      refine g_calli (va_runV (As := []) (rest := [.int r_61, .int 1]) ⟨hx, hb, hml, hown, hts⟩ (r_X0_takeHeight l dC dI L kd tys fr_100 H.size g.2.2.2.1 a0_ ma0_ ka0_) (cwV 0 hts (gV_ t_1199 t_1201 t_16 t_190 t_1202) rfl rfl rfl (by decide +kernel) ⟨(Nat.le_of_ble_eq_true rfl), (Nat.le_of_ble_eq_true rfl)⟩) (pre3V g hK ma0_ ka0_ (by decide) (q := (RX0, TX0, 14)) rfl) rfl rfl hl.1 rfl (lv_room (Nat.le_of_ble_eq_true rfl)) dX0_closeParts_205 ⟨(Nat.le_of_ble_eq_true rfl), (Nat.le_of_ble_eq_true rfl)⟩) g hK (by decide) (by decide) (fx' := [(7, 6, q0_, .int x_101), (0, 8, a0_, .int y_59), (0, 3, a0_, .ref a_12), (0, 2, a0_, .ref q0_)]) rfl (fun r_104 fr_104 H locs hp hMr_104 g => ?_)
                      obtain ⟨x_105, h_106, hF_107⟩ := hp
                      have g := g.more hF_107
                      refine va_mmax hx hb (hml.trans hl.1.symm) hown (hts _ (List.mem_cons_of_mem _ t_1194)) (hts _ (List.mem_cons_of_mem _ t_1041)) (hts _ (List.mem_cons_of_mem _ t_204)) (hts _ (List.mem_cons_of_mem _ t_1042)) (Nat.le_of_ble_eq_true rfl) (Nat.le_of_ble_eq_true rfl) (Nat.le_of_ble_eq_true rfl) (Nat.le_of_ble_eq_true rfl) dX0_closeParts_208 ?_
                      refine lv_topi (fun y_108 ey_108 => ?_)
                      have ty_108 : y_108.toInt = max r_61.toInt r_104.toInt := by rw [ey_108]; exact mmax_ok _ _
                      have b_109 : bd (-2147483648) 2147483647 y_108 := max_rg ty_108 (bdT r_61) (bdT r_104) (by decide)
                      refine lv_iadd hx hb dX0_closeParts_211 ?_
                      refine lv_topi (fun y_110 ey_110 => ?_)
                      refine lv_istore (lv' := [(6, .int y_110), (2, .int 1), (5, .int 0), (4, .int x_15), (3, .int v4_3), (0, .ref a0_), (1, .int x1_)]) hx hb dX0_closeParts_212 hl (by decide) rfl (fun ls hl => ?_)
                      refine lv_aload_n hx hb dX0_closeParts_214 rfl (lv_at hl 5 rfl) ?_
                      refine lv_iload hx hb dX0_closeParts_215 (lv_at hl 0 rfl) ?_
                      refine g_callv (va_runV (As := [.int y_110]) (rest := []) ⟨hx, hb, hml, hown, hts⟩ (r_X0_addWhole l dC dI L kd tys fr_104 H.size g.2.2.2.1 a0_ ma0_ ka0_ y_110) (cwV 1 hts (gV_ t_1211 t_1213 t_17 t_190 t_1214) rfl rfl rfl (by decide +kernel) ⟨(Nat.le_of_ble_eq_true rfl), (Nat.le_of_ble_eq_true rfl)⟩) (pre3V g hK ma0_ ka0_ (by decide) (q := (RX0, TX0, 14)) rfl) rfl rfl hl.1 rfl (lv_room (Nat.le_of_ble_eq_true rfl)) dX0_closeParts_217 ⟨(Nat.le_of_ble_eq_true rfl), (Nat.le_of_ble_eq_true rfl)⟩) g hK (by decide) (by decide) (fx' := [(7, 6, q0_, .int x_101), (0, 8, a0_, .int y_59), (0, 3, a0_, .ref a_12), (0, 2, a0_, .ref q0_)]) rfl (fun fr_111 H locs hp hMr_111 g => ?_)
                      obtain ⟨x_112, h_113, hF_114⟩ := hp
                      have g := g.more hF_114
                      refine lv_iload hx hb dX0_closeParts_220 (lv_at hl 0 rfl) ?_
                      refine lv_bipush (v := 12) hx hb dX0_closeParts_222 (by decide) ?_
                      have kb_12 : bd 12 12 (12 : Int32) := ⟨by decide, by decide⟩
                      refine lv_icmp_le (tgt := 245) hx hb dX0_closeParts_224 (by decide) (fun c_115 => ?_) (fun c_115 => ?_)
                      · have fc_115 := le_f c_115
                        have b_116 : bd (-2147483648) 12 y_110 := leL fc_115 (bdT y_110) kb_12 (by decide)
                        obtain ⟨y_117, ey_117⟩ : ∃ z : Int32, z = v4_3 + 1 := ⟨_, rfl⟩
                        refine lv_iinc (v := y_117) (lv' := [(3, .int y_117), (6, .int y_110), (2, .int 1), (5, .int 0), (4, .int x_15), (0, .ref a0_), (1, .int x1_)]) hx hb dX0_closeParts_245 hl (k := 4) rfl (by rw [ey_117]; rfl) (by decide) rfl (fun ls hl => ?_)
                        have ty_117 := add_bd ey_117 b_4 kb_1 (by decide)
                        have b_118 : bd 1 300 y_117 := add_rg ty_117 b_4 kb_1 (by decide)
                        refine lv_goto (tgt := 4) hx hb dX0_closeParts_248 (by decide) ?_
                        have hl9 := lv_sub hl [0, 2, 5, 6] (by rfl : lv_pick [(3, .int y_117), (6, .int y_110), (2, .int 1), (5, .int 0), (4, .int x_15), (0, .ref a0_), (1, .int x1_)] [0, 2, 5, 6] = [(3, .int y_117), (2, .int 1), (0, .ref a0_), (1, .int x1_)])
                        have g9 := g.sub (fx' := [(0, 2, a0_, .ref q0_)]) [5] rfl
                        exact ih  y_117 1 (bd_sub b_118 (by decide)) (bd_sub kb_1 (by decide)) (by have h9_0 := b_118; unfold bd at h9_0; have h9_1 := kb_0; unfold bd at h9_1; have h9_2 := kb_1; unfold bd at h9_2; have h9_3 := kb_12; unfold bd at h9_3; have h9_4 := kb_205; unfold bd at h9_4; have h9_5 := kb_206; unfold bd at h9_5; have h9_6 := kb_300; unfold bd at h9_6; have h9_7 := kb_6; unfold bd at h9_7; have h9_8 := kb_7; unfold bd at h9_8; omega) _ _ _ _ g9 hl9
                      · have fc_115 := nle_f c_115
                        have b_119 : bd 13 2147483647 y_110 := ltR fc_115 kb_12 (bdT y_110) (by decide)
                        refine lv_aload_n hx hb dX0_closeParts_227 rfl (lv_at hl 5 rfl) ?_
                        refine g_getr (K := 8) (C := RX0) (T := TX0) (N := 14) hx hb hts (mc_ inX0) hown hK g ma0_ ka0_ (by decide) rfl 0 (by decide) rfl (hts _ (List.mem_cons_of_mem _ t_373)) (fun _ h9 => h9) rfl dX0_closeParts_228 (fun a_120 ma_120 ka_120 g => ?_)
                        refine lv_bipush (v := 7) hx hb dX0_closeParts_231 (by decide) ?_
                        refine lv_aload_n hx hb dX0_closeParts_233 rfl (lv_at hl 5 rfl) ?_
                        refine g_getr (K := 111) (C := RX0) (T := TX0) (N := 14) hx hb hts (mc_ inX0) hown hK g ma0_ ka0_ (by decide) rfl 4 (by decide) rfl (hts _ (List.mem_cons_of_mem _ t_377)) (fun _ h9 => h9) rfl dX0_closeParts_234 (fun a_121 ma_121 ka_121 g => ?_)
                        refine lv_aload_n hx hb dX0_closeParts_237 rfl (lv_at hl 5 rfl) ?_
                        refine g_getk (C := RX0) (T := TX0) (N := 14) hx hb hts (mc_ inX0) hown hK g rfl 8 (by decide) rfl (hts _ (List.mem_cons_of_mem _ t_381)) (fun _ h9 => h9) 5 rfl dX0_closeParts_238 ?_
                        refine g_iald hx hb hK g ma_121 ka_121 (by decide) rfl (in_bd b_60 (by decide)) dX0_closeParts_241 (fun x_122 bx_122 => ?_)
                        refine g_callv (va_runV (As := [.int 7, .int x_122]) (rest := []) ⟨hx, hb, hml, hown, hts⟩ (r_X8_fail_10 l dC dI L kd tys fr_111 H.size g.2.2.2.1 a_120 ma_120 ka_120 7 kb_7 x_122) (cwV 2 hts (gV_ t_1215 t_1107 t_1108 t_184 t_1109) rfl rfl rfl (by decide +kernel) ⟨(Nat.le_of_ble_eq_true rfl), (Nat.le_of_ble_eq_true rfl)⟩) (pre3V g hK ma_120 ka_120 (by decide) (q := (RX8, TX8, 10)) rfl) rfl rfl hl.1 rfl (lv_room (Nat.le_of_ble_eq_true rfl)) dX0_closeParts_242 ⟨(Nat.le_of_ble_eq_true rfl), (Nat.le_of_ble_eq_true rfl)⟩) g hK (by decide) (by decide) (fx' := [(0, 4, a0_, .ref a_121), (0, 0, a0_, .ref a_120), (0, 12, a0_, .int 0), (0, 10, a0_, .int x_112), (7, 6, q0_, .int x_101), (0, 8, a0_, .int y_59), (0, 3, a0_, .ref a_12), (0, 2, a0_, .ref q0_)]) rfl (fun fr_123 H locs hp hMr_123 g => ?_)
                        obtain ⟨x_124, h_125, hF_126⟩ := hp
                        have g := g.more hF_126
                        obtain ⟨y_127, ey_127⟩ : ∃ z : Int32, z = v4_3 + 1 := ⟨_, rfl⟩
                        refine lv_iinc (v := y_127) (lv' := [(3, .int y_127), (6, .int y_110), (2, .int 1), (5, .int 0), (4, .int x_15), (0, .ref a0_), (1, .int x1_)]) hx hb dX0_closeParts_245 hl (k := 4) rfl (by rw [ey_127]; rfl) (by decide) rfl (fun ls hl => ?_)
                        have ty_127 := add_bd ey_127 b_4 kb_1 (by decide)
                        have b_128 : bd 1 300 y_127 := add_rg ty_127 b_4 kb_1 (by decide)
                        refine lv_goto (tgt := 4) hx hb dX0_closeParts_248 (by decide) ?_
                        have hl9 := lv_sub hl [0, 2, 5, 6] (by rfl : lv_pick [(3, .int y_127), (6, .int y_110), (2, .int 1), (5, .int 0), (4, .int x_15), (0, .ref a0_), (1, .int x1_)] [0, 2, 5, 6] = [(3, .int y_127), (2, .int 1), (0, .ref a0_), (1, .int x1_)])
                        have g9 := g.sub (fx' := [(0, 2, a0_, .ref q0_)]) [9] rfl
                        exact ih  y_127 1 (bd_sub b_128 (by decide)) (bd_sub kb_1 (by decide)) (by have h9_0 := b_128; unfold bd at h9_0; have h9_1 := kb_0; unfold bd at h9_1; have h9_2 := kb_1; unfold bd at h9_2; have h9_3 := kb_12; unfold bd at h9_3; have h9_4 := kb_205; unfold bd at h9_4; have h9_5 := kb_206; unfold bd at h9_5; have h9_6 := kb_300; unfold bd at h9_6; have h9_7 := kb_6; unfold bd at h9_7; have h9_8 := kb_7; unfold bd at h9_8; omega) _ _ _ _ g9 hl9
                    · have fc_99 := eq_f c_99
                      have b_129 : bd 206 206 x_15 := eqX fc_99 (bdT x_15) kb_206 (by decide)
                      refine lv_aload_n hx hb dX0_closeParts_152 rfl (lv_at hl 5 rfl) ?_
                      refine g_getk (C := RX0) (T := TX0) (N := 14) hx hb hts (mc_ inX0) hown hK g rfl 2 (by decide) rfl (hts _ (List.mem_cons_of_mem _ t_375)) (fun _ h9 => h9) 3 rfl dX0_closeParts_153 ?_
                      refine lv_bipush (v := 8) hx hb dX0_closeParts_156 (by decide) ?_
                      refine lv_iconst (v := 0) hx hb dX0_closeParts_158 (by decide) ?_
                      refine g_callv (va_runV (As := [.int 8, .int 0]) (rest := []) ⟨hx, hb, hml, hown, hts⟩ (r_X7_emit l dC dI L kd tys fr_61 H.size g.2.2.2.1 q0_ mq0_ kq0_ 8 0) (cwV 2 hts (gV_ t_1203 t_1204 t_1205 t_191 t_1206) rfl rfl rfl (by decide +kernel) ⟨(Nat.le_of_ble_eq_true rfl), (Nat.le_of_ble_eq_true rfl)⟩) (pre3V g hK mq0_ kq0_ (by decide) (q := (RX7, TX7, 19)) rfl) rfl rfl hl.1 rfl (lv_room (Nat.le_of_ble_eq_true rfl)) dX0_closeParts_159 ⟨(Nat.le_of_ble_eq_true rfl), (Nat.le_of_ble_eq_true rfl)⟩) g hK (by decide) (by decide) (fx' := [(0, 10, a0_, .int x_62), (0, 8, a0_, .int y_59), (0, 3, a0_, .ref a_12), (0, 2, a0_, .ref q0_)]) rfl (fun fr_130 H locs hp hMr_130 g => ?_)
                      obtain ⟨x_131, h_132, hF_133⟩ := hp
                      have g := g.more hF_133
                      refine lv_aload_n hx hb dX0_closeParts_162 rfl (lv_at hl 5 rfl) ?_
                      refine g_getk (C := RX0) (T := TX0) (N := 14) hx hb hts (mc_ inX0) hown hK g rfl 2 (by decide) rfl (hts _ (List.mem_cons_of_mem _ t_375)) (fun _ h9 => h9) 4 rfl dX0_closeParts_163 ?_
                      refine lv_aload_n hx hb dX0_closeParts_166 rfl (lv_at hl 5 rfl) ?_
                      refine g_getr (K := 112) (C := RX0) (T := TX0) (N := 14) hx hb hts (mc_ inX0) hown hK g ma0_ ka0_ (by decide) rfl 5 (by decide) rfl (hts _ (List.mem_cons_of_mem _ t_378)) (fun _ h9 => h9) rfl dX0_closeParts_167 (fun a_134 ma_134 ka_134 g => ?_)
                      refine lv_aload_n hx hb dX0_closeParts_170 rfl (lv_at hl 5 rfl) ?_
                      refine g_getk (C := RX0) (T := TX0) (N := 14) hx hb hts (mc_ inX0) hown hK g rfl 8 (by decide) rfl (hts _ (List.mem_cons_of_mem _ t_381)) (fun _ h9 => h9) 3 rfl dX0_closeParts_171 ?_
                      refine g_iald hx hb hK g ma_134 ka_134 (by decide) rfl (in_bd b_60 (by decide)) dX0_closeParts_174 (fun x_135 bx_135 => ?_)
                      refine g_callv (va_runV (As := [.int x_135]) (rest := []) ⟨hx, hb, hml, hown, hts⟩ (r_X7_leadHere l dC dI L kd tys fr_130 H.size g.2.2.2.1 q0_ mq0_ kq0_ x_135) (cwV 1 hts (gV_ t_1207 t_1208 t_1209 t_191 t_1210) rfl rfl rfl (by decide +kernel) ⟨(Nat.le_of_ble_eq_true rfl), (Nat.le_of_ble_eq_true rfl)⟩) (pre3V g hK mq0_ kq0_ (by decide) (q := (RX7, TX7, 19)) rfl) rfl rfl hl.1 rfl (lv_room (Nat.le_of_ble_eq_true rfl)) dX0_closeParts_175 ⟨(Nat.le_of_ble_eq_true rfl), (Nat.le_of_ble_eq_true rfl)⟩) g hK (by decide) (by decide) (fx' := [(0, 5, a0_, .ref a_134), (7, 6, q0_, .int x_131), (0, 10, a0_, .int x_62), (0, 8, a0_, .int y_59), (0, 3, a0_, .ref a_12), (0, 2, a0_, .ref q0_)]) rfl (fun fr_136 H locs hp hMr_136 g => ?_)
                      refine lv_goto (tgt := 191) hx hb dX0_closeParts_178 (by decide) ?_
                      refine lv_iconst (v := 1) hx hb dX0_closeParts_191 (by decide) ?_
                      refine lv_iload hx hb dX0_closeParts_192 (lv_at hl 2 rfl) ?_
                      refine lv_if_eq (tgt := 202) hx hb dX0_closeParts_194 (by decide) (fun c_ => ?_) (fun c_ => absurd (by decide) c_)
                      refine lv_iload hx hb dX0_closeParts_202 (lv_at hl 0 rfl) ?_
                      refine lv_aload_n hx hb dX0_closeParts_204 rfl (lv_at hl 5 rfl) ?_
                      refine g_calli (va_runV (As := []) (rest := [.int r_61, .int 1]) ⟨hx, hb, hml, hown, hts⟩ (r_X0_takeHeight l dC dI L kd tys fr_136 H.size g.2.2.2.1 a0_ ma0_ ka0_) (cwV 0 hts (gV_ t_1199 t_1201 t_16 t_190 t_1202) rfl rfl rfl (by decide +kernel) ⟨(Nat.le_of_ble_eq_true rfl), (Nat.le_of_ble_eq_true rfl)⟩) (pre3V g hK ma0_ ka0_ (by decide) (q := (RX0, TX0, 14)) rfl) rfl rfl hl.1 rfl (lv_room (Nat.le_of_ble_eq_true rfl)) dX0_closeParts_205 ⟨(Nat.le_of_ble_eq_true rfl), (Nat.le_of_ble_eq_true rfl)⟩) g hK (by decide) (by decide) (fx' := [(0, 5, a0_, .ref a_134), (7, 6, q0_, .int x_131), (0, 8, a0_, .int y_59), (0, 3, a0_, .ref a_12), (0, 2, a0_, .ref q0_)]) rfl (fun r_137 fr_137 H locs hp hMr_137 g => ?_)
                      obtain ⟨x_138, h_139, hF_140⟩ := hp
                      have g := g.more hF_140
                      refine va_mmax hx hb (hml.trans hl.1.symm) hown (hts _ (List.mem_cons_of_mem _ t_1194)) (hts _ (List.mem_cons_of_mem _ t_1041)) (hts _ (List.mem_cons_of_mem _ t_204)) (hts _ (List.mem_cons_of_mem _ t_1042)) (Nat.le_of_ble_eq_true rfl) (Nat.le_of_ble_eq_true rfl) (Nat.le_of_ble_eq_true rfl) (Nat.le_of_ble_eq_true rfl) dX0_closeParts_208 ?_
                      refine lv_topi (fun y_141 ey_141 => ?_)
                      have ty_141 : y_141.toInt = max r_61.toInt r_137.toInt := by rw [ey_141]; exact mmax_ok _ _
                      have b_142 : bd (-2147483648) 2147483647 y_141 := max_rg ty_141 (bdT r_61) (bdT r_137) (by decide)
                      refine lv_iadd hx hb dX0_closeParts_211 ?_
                      refine lv_topi (fun y_143 ey_143 => ?_)
                      refine lv_istore (lv' := [(6, .int y_143), (2, .int 1), (5, .int 0), (4, .int x_15), (3, .int v4_3), (0, .ref a0_), (1, .int x1_)]) hx hb dX0_closeParts_212 hl (by decide) rfl (fun ls hl => ?_)
                      refine lv_aload_n hx hb dX0_closeParts_214 rfl (lv_at hl 5 rfl) ?_
                      refine lv_iload hx hb dX0_closeParts_215 (lv_at hl 0 rfl) ?_
                      refine g_callv (va_runV (As := [.int y_143]) (rest := []) ⟨hx, hb, hml, hown, hts⟩ (r_X0_addWhole l dC dI L kd tys fr_137 H.size g.2.2.2.1 a0_ ma0_ ka0_ y_143) (cwV 1 hts (gV_ t_1211 t_1213 t_17 t_190 t_1214) rfl rfl rfl (by decide +kernel) ⟨(Nat.le_of_ble_eq_true rfl), (Nat.le_of_ble_eq_true rfl)⟩) (pre3V g hK ma0_ ka0_ (by decide) (q := (RX0, TX0, 14)) rfl) rfl rfl hl.1 rfl (lv_room (Nat.le_of_ble_eq_true rfl)) dX0_closeParts_217 ⟨(Nat.le_of_ble_eq_true rfl), (Nat.le_of_ble_eq_true rfl)⟩) g hK (by decide) (by decide) (fx' := [(0, 5, a0_, .ref a_134), (7, 6, q0_, .int x_131), (0, 8, a0_, .int y_59), (0, 3, a0_, .ref a_12), (0, 2, a0_, .ref q0_)]) rfl (fun fr_144 H locs hp hMr_144 g => ?_)
                      obtain ⟨x_145, h_146, hF_147⟩ := hp
                      have g := g.more hF_147
                      refine lv_iload hx hb dX0_closeParts_220 (lv_at hl 0 rfl) ?_
                      refine lv_bipush (v := 12) hx hb dX0_closeParts_222 (by decide) ?_
                      have kb_12 : bd 12 12 (12 : Int32) := ⟨by decide, by decide⟩
                      refine lv_icmp_le (tgt := 245) hx hb dX0_closeParts_224 (by decide) (fun c_148 => ?_) (fun c_148 => ?_)
                      · have fc_148 := le_f c_148
                        have b_149 : bd (-2147483648) 12 y_143 := leL fc_148 (bdT y_143) kb_12 (by decide)
                        obtain ⟨y_150, ey_150⟩ : ∃ z : Int32, z = v4_3 + 1 := ⟨_, rfl⟩
                        refine lv_iinc (v := y_150) (lv' := [(3, .int y_150), (6, .int y_143), (2, .int 1), (5, .int 0), (4, .int x_15), (0, .ref a0_), (1, .int x1_)]) hx hb dX0_closeParts_245 hl (k := 4) rfl (by rw [ey_150]; rfl) (by decide) rfl (fun ls hl => ?_)
                        have ty_150 := add_bd ey_150 b_4 kb_1 (by decide)
                        have b_151 : bd 1 300 y_150 := add_rg ty_150 b_4 kb_1 (by decide)
                        refine lv_goto (tgt := 4) hx hb dX0_closeParts_248 (by decide) ?_
                        have hl9 := lv_sub hl [0, 2, 5, 6] (by rfl : lv_pick [(3, .int y_150), (6, .int y_143), (2, .int 1), (5, .int 0), (4, .int x_15), (0, .ref a0_), (1, .int x1_)] [0, 2, 5, 6] = [(3, .int y_150), (2, .int 1), (0, .ref a0_), (1, .int x1_)])
                        have g9 := g.sub (fx' := [(0, 2, a0_, .ref q0_)]) [6] rfl
                        exact ih  y_150 1 (bd_sub b_151 (by decide)) (bd_sub kb_1 (by decide)) (by have h9_0 := b_151; unfold bd at h9_0; have h9_1 := kb_0; unfold bd at h9_1; have h9_2 := kb_1; unfold bd at h9_2; have h9_3 := kb_12; unfold bd at h9_3; have h9_4 := kb_205; unfold bd at h9_4; have h9_5 := kb_206; unfold bd at h9_5; have h9_6 := kb_300; unfold bd at h9_6; have h9_7 := kb_6; unfold bd at h9_7; have h9_8 := kb_7; unfold bd at h9_8; omega) _ _ _ _ g9 hl9
                      · have fc_148 := nle_f c_148
                        have b_152 : bd 13 2147483647 y_143 := ltR fc_148 kb_12 (bdT y_143) (by decide)
                        refine lv_aload_n hx hb dX0_closeParts_227 rfl (lv_at hl 5 rfl) ?_
                        refine g_getr (K := 8) (C := RX0) (T := TX0) (N := 14) hx hb hts (mc_ inX0) hown hK g ma0_ ka0_ (by decide) rfl 0 (by decide) rfl (hts _ (List.mem_cons_of_mem _ t_373)) (fun _ h9 => h9) rfl dX0_closeParts_228 (fun a_153 ma_153 ka_153 g => ?_)
                        refine lv_bipush (v := 7) hx hb dX0_closeParts_231 (by decide) ?_
                        refine lv_aload_n hx hb dX0_closeParts_233 rfl (lv_at hl 5 rfl) ?_
                        refine g_getr (K := 111) (C := RX0) (T := TX0) (N := 14) hx hb hts (mc_ inX0) hown hK g ma0_ ka0_ (by decide) rfl 4 (by decide) rfl (hts _ (List.mem_cons_of_mem _ t_377)) (fun _ h9 => h9) rfl dX0_closeParts_234 (fun a_154 ma_154 ka_154 g => ?_)
                        refine lv_aload_n hx hb dX0_closeParts_237 rfl (lv_at hl 5 rfl) ?_
                        refine g_getk (C := RX0) (T := TX0) (N := 14) hx hb hts (mc_ inX0) hown hK g rfl 8 (by decide) rfl (hts _ (List.mem_cons_of_mem _ t_381)) (fun _ h9 => h9) 6 rfl dX0_closeParts_238 ?_
                        refine g_iald hx hb hK g ma_154 ka_154 (by decide) rfl (in_bd b_60 (by decide)) dX0_closeParts_241 (fun x_155 bx_155 => ?_)
                        refine g_callv (va_runV (As := [.int 7, .int x_155]) (rest := []) ⟨hx, hb, hml, hown, hts⟩ (r_X8_fail_10 l dC dI L kd tys fr_144 H.size g.2.2.2.1 a_153 ma_153 ka_153 7 kb_7 x_155) (cwV 2 hts (gV_ t_1215 t_1107 t_1108 t_184 t_1109) rfl rfl rfl (by decide +kernel) ⟨(Nat.le_of_ble_eq_true rfl), (Nat.le_of_ble_eq_true rfl)⟩) (pre3V g hK ma_153 ka_153 (by decide) (q := (RX8, TX8, 10)) rfl) rfl rfl hl.1 rfl (lv_room (Nat.le_of_ble_eq_true rfl)) dX0_closeParts_242 ⟨(Nat.le_of_ble_eq_true rfl), (Nat.le_of_ble_eq_true rfl)⟩) g hK (by decide) (by decide) (fx' := [(0, 4, a0_, .ref a_154), (0, 0, a0_, .ref a_153), (0, 12, a0_, .int 0), (0, 10, a0_, .int x_145), (0, 5, a0_, .ref a_134), (7, 6, q0_, .int x_131), (0, 8, a0_, .int y_59), (0, 3, a0_, .ref a_12), (0, 2, a0_, .ref q0_)]) rfl (fun fr_156 H locs hp hMr_156 g => ?_)
                        obtain ⟨x_157, h_158, hF_159⟩ := hp
                        have g := g.more hF_159
                        obtain ⟨y_160, ey_160⟩ : ∃ z : Int32, z = v4_3 + 1 := ⟨_, rfl⟩
                        refine lv_iinc (v := y_160) (lv' := [(3, .int y_160), (6, .int y_143), (2, .int 1), (5, .int 0), (4, .int x_15), (0, .ref a0_), (1, .int x1_)]) hx hb dX0_closeParts_245 hl (k := 4) rfl (by rw [ey_160]; rfl) (by decide) rfl (fun ls hl => ?_)
                        have ty_160 := add_bd ey_160 b_4 kb_1 (by decide)
                        have b_161 : bd 1 300 y_160 := add_rg ty_160 b_4 kb_1 (by decide)
                        refine lv_goto (tgt := 4) hx hb dX0_closeParts_248 (by decide) ?_
                        have hl9 := lv_sub hl [0, 2, 5, 6] (by rfl : lv_pick [(3, .int y_160), (6, .int y_143), (2, .int 1), (5, .int 0), (4, .int x_15), (0, .ref a0_), (1, .int x1_)] [0, 2, 5, 6] = [(3, .int y_160), (2, .int 1), (0, .ref a0_), (1, .int x1_)])
                        have g9 := g.sub (fx' := [(0, 2, a0_, .ref q0_)]) [10] rfl
                        exact ih  y_160 1 (bd_sub b_161 (by decide)) (bd_sub kb_1 (by decide)) (by have h9_0 := b_161; unfold bd at h9_0; have h9_1 := kb_0; unfold bd at h9_1; have h9_2 := kb_1; unfold bd at h9_2; have h9_3 := kb_12; unfold bd at h9_3; have h9_4 := kb_205; unfold bd at h9_4; have h9_5 := kb_206; unfold bd at h9_5; have h9_6 := kb_300; unfold bd at h9_6; have h9_7 := kb_6; unfold bd at h9_7; have h9_8 := kb_7; unfold bd at h9_8; omega) _ _ _ _ g9 hl9
              · have fc_51 := eq_f c_51
                have b_162 : bd 7 7 x_15 := eqX fc_51 (bdT x_15) kb_7 (by decide)
                refine lv_iconst (v := 1) hx hb dX0_closeParts_49 (by decide) ?_
                refine lv_goto (tgt := 54) hx hb dX0_closeParts_50 (by decide) ?_
                refine lv_istore (lv' := [(5, .int 1), (4, .int x_15), (3, .int v4_3), (2, .int v4_2), (0, .ref a0_), (1, .int x1_)]) hx hb dX0_closeParts_54 hl (by decide) rfl (fun ls hl => ?_)
                refine lv_iload hx hb dX0_closeParts_56 (lv_at hl 0 rfl) ?_
                refine lv_if_ne (tgt := 70) hx hb dX0_closeParts_58 (by decide) (fun c_ => ?_) (fun c_ => absurd c_ (by decide))
                refine lv_iconst (v := 1) hx hb dX0_closeParts_70 (by decide) ?_
                refine lv_goto (tgt := 75) hx hb dX0_closeParts_71 (by decide) ?_
                refine lv_istore_n (lv' := [(2, .int 1), (5, .int 1), (4, .int x_15), (3, .int v4_3), (0, .ref a0_), (1, .int x1_)]) hx hb dX0_closeParts_75 rfl hl (by decide) rfl (fun ls hl => ?_)
                refine lv_iload_n hx hb dX0_closeParts_76 rfl (lv_at hl 0 rfl) ?_
                refine lv_if_eq (tgt := 245) hx hb dX0_closeParts_77 (by decide) (fun c_ => absurd c_ (by decide)) (fun c_ => ?_)
                refine lv_aload_n hx hb dX0_closeParts_80 rfl (lv_at hl 4 rfl) ?_
                refine lv_dup hx hb dX0_closeParts_81 rfl ?_
                refine g_getk (C := RX0) (T := TX0) (N := 14) hx hb hts (mc_ inX0) hown hK g rfl 8 (by decide) rfl (hts _ (List.mem_cons_of_mem _ t_381)) (fun _ h9 => h9) 1 rfl dX0_closeParts_82 ?_
                refine lv_iconst (v := 1) hx hb dX0_closeParts_85 (by decide) ?_
                refine lv_isub hx hb dX0_closeParts_86 ?_
                refine lv_topi (fun y_163 ey_163 => ?_)
                have ty_163 := sub_bd ey_163 b_11 kb_1 (by decide)
                have b_164 : bd 0 299 y_163 := sub_rg ty_163 b_11 kb_1 (by decide)
                refine g_put (C := RX0) (T := TX0) (N := 14) hx hb hts (mc_ inX0) tyX0 tyX0_ok nmX0 hown hK g ma0_ ka0_ (by decide) rfl 8 (by decide) (hts _ (List.mem_cons_of_mem _ t_381)) (fun _ h9 => h9) rfl rfl (okV_i (bd_sub b_164 (by decide))) rfl rfl (by decide) (Or.inr (Or.inl (by decide))) (fx' := [(0, 3, a0_, .ref a_12), (0, 2, a0_, .ref q0_)]) rfl dX0_closeParts_87 (fun f H locs g => ?_)
                refine lv_aload_n hx hb dX0_closeParts_90 rfl (lv_at hl 4 rfl) ?_
                refine g_calli (va_runV (As := []) (rest := []) ⟨hx, hb, hml, hown, hts⟩ (r_X0_takeHeight l dC dI L kd tys f H.size g.2.2.2.1 a0_ ma0_ ka0_) (cwV 0 hts (gV_ t_1199 t_1201 t_16 t_190 t_1202) rfl rfl rfl (by decide +kernel) ⟨(Nat.le_of_ble_eq_true rfl), (Nat.le_of_ble_eq_true rfl)⟩) (pre3V g hK ma0_ ka0_ (by decide) (q := (RX0, TX0, 14)) rfl) rfl rfl hl.1 rfl (lv_room (Nat.le_of_ble_eq_true rfl)) dX0_closeParts_91 ⟨(Nat.le_of_ble_eq_true rfl), (Nat.le_of_ble_eq_true rfl)⟩) g hK (by decide) (by decide) (fx' := [(0, 8, a0_, .int y_163), (0, 3, a0_, .ref a_12), (0, 2, a0_, .ref q0_)]) rfl (fun r_165 fr_165 H locs hp hMr_165 g => ?_)
                obtain ⟨x_166, h_167, hF_168⟩ := hp
                have g := g.more hF_168
                refine lv_istore (lv' := [(6, .int r_165), (2, .int 1), (5, .int 1), (4, .int x_15), (3, .int v4_3), (0, .ref a0_), (1, .int x1_)]) hx hb dX0_closeParts_94 hl (by decide) rfl (fun ls hl => ?_)
                refine lv_iload hx hb dX0_closeParts_96 (lv_at hl 2 rfl) ?_
                refine lv_if_eq (tgt := 136) hx hb dX0_closeParts_98 (by decide) (fun c_ => absurd c_ (by decide)) (fun c_ => ?_)
                refine lv_aload_n hx hb dX0_closeParts_101 rfl (lv_at hl 5 rfl) ?_
                refine lv_dup hx hb dX0_closeParts_102 rfl ?_
                refine g_geti (C := RX0) (T := TX0) (N := 14) hx hb hts (mc_ inX0) hown hK g ma0_ ka0_ (by decide) rfl 11 (by decide) rfl (hts _ (List.mem_cons_of_mem _ t_384)) (fun _ h9 => h9) rfl dX0_closeParts_103 (fun x_169 bx_169 g => ?_)
                refine lv_iconst (v := 1) hx hb dX0_closeParts_106 (by decide) ?_
                refine lv_isub hx hb dX0_closeParts_107 ?_
                refine lv_topi (fun y_170 ey_170 => ?_)
                refine g_put (C := RX0) (T := TX0) (N := 14) hx hb hts (mc_ inX0) tyX0 tyX0_ok nmX0 hown hK g ma0_ ka0_ (by decide) rfl 11 (by decide) (hts _ (List.mem_cons_of_mem _ t_384)) (fun _ h9 => h9) rfl rfl (okV_i (bdT y_170)) rfl rfl (by decide) (Or.inr (Or.inl (by decide))) (fx' := [(0, 10, a0_, .int x_166), (0, 8, a0_, .int y_163), (0, 3, a0_, .ref a_12), (0, 2, a0_, .ref q0_)]) rfl dX0_closeParts_108 (fun f H locs g => ?_)
                refine lv_aload_n hx hb dX0_closeParts_111 rfl (lv_at hl 5 rfl) ?_
                refine g_getk (C := RX0) (T := TX0) (N := 14) hx hb hts (mc_ inX0) hown hK g rfl 2 (by decide) rfl (hts _ (List.mem_cons_of_mem _ t_375)) (fun _ h9 => h9) 4 rfl dX0_closeParts_112 ?_
                refine lv_iload hx hb dX0_closeParts_115 (lv_at hl 3 rfl) ?_
                refine lv_bipush (v := 6) hx hb dX0_closeParts_117 (by decide) ?_
                refine lv_icmp_ne (tgt := 127) hx hb dX0_closeParts_119 (by decide) (fun c_171 => ?_) (fun c_171 => ?_)
                · have fc_171 := neq_f c_171
                  refine lv_bipush (v := 7) hx hb dX0_closeParts_127 (by decide) ?_
                  refine lv_iconst (v := 0) hx hb dX0_closeParts_129 (by decide) ?_
                  refine g_callv (va_runV (As := [.int 7, .int 0]) (rest := []) ⟨hx, hb, hml, hown, hts⟩ (r_X7_emit l dC dI L kd tys f H.size g.2.2.2.1 q0_ mq0_ kq0_ 7 0) (cwV 2 hts (gV_ t_1203 t_1204 t_1205 t_191 t_1206) rfl rfl rfl (by decide +kernel) ⟨(Nat.le_of_ble_eq_true rfl), (Nat.le_of_ble_eq_true rfl)⟩) (pre3V g hK mq0_ kq0_ (by decide) (q := (RX7, TX7, 19)) rfl) rfl rfl hl.1 rfl (lv_room (Nat.le_of_ble_eq_true rfl)) dX0_closeParts_130 ⟨(Nat.le_of_ble_eq_true rfl), (Nat.le_of_ble_eq_true rfl)⟩) g hK (by decide) (by decide) (fx' := [(0, 11, a0_, .int y_170), (0, 10, a0_, .int x_166), (0, 8, a0_, .int y_163), (0, 3, a0_, .ref a_12), (0, 2, a0_, .ref q0_)]) rfl (fun fr_172 H locs hp hMr_172 g => ?_)
                  obtain ⟨x_173, h_174, hF_175⟩ := hp
                  have g := g.more hF_175
                  refine lv_goto (tgt := 191) hx hb dX0_closeParts_133 (by decide) ?_
                  refine lv_iconst (v := 1) hx hb dX0_closeParts_191 (by decide) ?_
                  refine lv_iload hx hb dX0_closeParts_192 (lv_at hl 2 rfl) ?_
                  refine lv_if_eq (tgt := 202) hx hb dX0_closeParts_194 (by decide) (fun c_ => absurd c_ (by decide)) (fun c_ => ?_)
                  refine lv_iload hx hb dX0_closeParts_197 (lv_at hl 0 rfl) ?_
                  refine lv_goto (tgt := 211) hx hb dX0_closeParts_199 (by decide) ?_
                  refine lv_iadd hx hb dX0_closeParts_211 ?_
                  refine lv_topi (fun y_176 ey_176 => ?_)
                  refine lv_istore (lv' := [(6, .int y_176), (2, .int 1), (5, .int 1), (4, .int x_15), (3, .int v4_3), (0, .ref a0_), (1, .int x1_)]) hx hb dX0_closeParts_212 hl (by decide) rfl (fun ls hl => ?_)
                  refine lv_aload_n hx hb dX0_closeParts_214 rfl (lv_at hl 5 rfl) ?_
                  refine lv_iload hx hb dX0_closeParts_215 (lv_at hl 0 rfl) ?_
                  refine g_callv (va_runV (As := [.int y_176]) (rest := []) ⟨hx, hb, hml, hown, hts⟩ (r_X0_addWhole l dC dI L kd tys fr_172 H.size g.2.2.2.1 a0_ ma0_ ka0_ y_176) (cwV 1 hts (gV_ t_1211 t_1213 t_17 t_190 t_1214) rfl rfl rfl (by decide +kernel) ⟨(Nat.le_of_ble_eq_true rfl), (Nat.le_of_ble_eq_true rfl)⟩) (pre3V g hK ma0_ ka0_ (by decide) (q := (RX0, TX0, 14)) rfl) rfl rfl hl.1 rfl (lv_room (Nat.le_of_ble_eq_true rfl)) dX0_closeParts_217 ⟨(Nat.le_of_ble_eq_true rfl), (Nat.le_of_ble_eq_true rfl)⟩) g hK (by decide) (by decide) (fx' := [(7, 6, q0_, .int x_173), (0, 11, a0_, .int y_170), (0, 8, a0_, .int y_163), (0, 3, a0_, .ref a_12), (0, 2, a0_, .ref q0_)]) rfl (fun fr_177 H locs hp hMr_177 g => ?_)
                  obtain ⟨x_178, h_179, hF_180⟩ := hp
                  have g := g.more hF_180
                  refine lv_iload hx hb dX0_closeParts_220 (lv_at hl 0 rfl) ?_
                  refine lv_bipush (v := 12) hx hb dX0_closeParts_222 (by decide) ?_
                  have kb_12 : bd 12 12 (12 : Int32) := ⟨by decide, by decide⟩
                  refine lv_icmp_le (tgt := 245) hx hb dX0_closeParts_224 (by decide) (fun c_181 => ?_) (fun c_181 => ?_)
                  · have fc_181 := le_f c_181
                    have b_182 : bd (-2147483648) 12 y_176 := leL fc_181 (bdT y_176) kb_12 (by decide)
                    obtain ⟨y_183, ey_183⟩ : ∃ z : Int32, z = v4_3 + 1 := ⟨_, rfl⟩
                    refine lv_iinc (v := y_183) (lv' := [(3, .int y_183), (6, .int y_176), (2, .int 1), (5, .int 1), (4, .int x_15), (0, .ref a0_), (1, .int x1_)]) hx hb dX0_closeParts_245 hl (k := 4) rfl (by rw [ey_183]; rfl) (by decide) rfl (fun ls hl => ?_)
                    have ty_183 := add_bd ey_183 b_4 kb_1 (by decide)
                    have b_184 : bd 1 300 y_183 := add_rg ty_183 b_4 kb_1 (by decide)
                    refine lv_goto (tgt := 4) hx hb dX0_closeParts_248 (by decide) ?_
                    have hl9 := lv_sub hl [0, 2, 5, 6] (by rfl : lv_pick [(3, .int y_183), (6, .int y_176), (2, .int 1), (5, .int 1), (4, .int x_15), (0, .ref a0_), (1, .int x1_)] [0, 2, 5, 6] = [(3, .int y_183), (2, .int 1), (0, .ref a0_), (1, .int x1_)])
                    have g9 := g.sub (fx' := [(0, 2, a0_, .ref q0_)]) [6] rfl
                    exact ih  y_183 1 (bd_sub b_184 (by decide)) (bd_sub kb_1 (by decide)) (by have h9_0 := b_184; unfold bd at h9_0; have h9_1 := kb_0; unfold bd at h9_1; have h9_2 := kb_1; unfold bd at h9_2; have h9_3 := kb_12; unfold bd at h9_3; have h9_4 := kb_300; unfold bd at h9_4; have h9_5 := kb_6; unfold bd at h9_5; have h9_6 := kb_7; unfold bd at h9_6; omega) _ _ _ _ g9 hl9
                  · have fc_181 := nle_f c_181
                    have b_185 : bd 13 2147483647 y_176 := ltR fc_181 kb_12 (bdT y_176) (by decide)
                    refine lv_aload_n hx hb dX0_closeParts_227 rfl (lv_at hl 5 rfl) ?_
                    refine g_getr (K := 8) (C := RX0) (T := TX0) (N := 14) hx hb hts (mc_ inX0) hown hK g ma0_ ka0_ (by decide) rfl 0 (by decide) rfl (hts _ (List.mem_cons_of_mem _ t_373)) (fun _ h9 => h9) rfl dX0_closeParts_228 (fun a_186 ma_186 ka_186 g => ?_)
                    refine lv_bipush (v := 7) hx hb dX0_closeParts_231 (by decide) ?_
                    refine lv_aload_n hx hb dX0_closeParts_233 rfl (lv_at hl 5 rfl) ?_
                    refine g_getr (K := 111) (C := RX0) (T := TX0) (N := 14) hx hb hts (mc_ inX0) hown hK g ma0_ ka0_ (by decide) rfl 4 (by decide) rfl (hts _ (List.mem_cons_of_mem _ t_377)) (fun _ h9 => h9) rfl dX0_closeParts_234 (fun a_187 ma_187 ka_187 g => ?_)
                    refine lv_aload_n hx hb dX0_closeParts_237 rfl (lv_at hl 5 rfl) ?_
                    refine g_getk (C := RX0) (T := TX0) (N := 14) hx hb hts (mc_ inX0) hown hK g rfl 8 (by decide) rfl (hts _ (List.mem_cons_of_mem _ t_381)) (fun _ h9 => h9) 6 rfl dX0_closeParts_238 ?_
                    refine g_iald hx hb hK g ma_187 ka_187 (by decide) rfl (in_bd b_164 (by decide)) dX0_closeParts_241 (fun x_188 bx_188 => ?_)
                    refine g_callv (va_runV (As := [.int 7, .int x_188]) (rest := []) ⟨hx, hb, hml, hown, hts⟩ (r_X8_fail_10 l dC dI L kd tys fr_177 H.size g.2.2.2.1 a_186 ma_186 ka_186 7 kb_7 x_188) (cwV 2 hts (gV_ t_1215 t_1107 t_1108 t_184 t_1109) rfl rfl rfl (by decide +kernel) ⟨(Nat.le_of_ble_eq_true rfl), (Nat.le_of_ble_eq_true rfl)⟩) (pre3V g hK ma_186 ka_186 (by decide) (q := (RX8, TX8, 10)) rfl) rfl rfl hl.1 rfl (lv_room (Nat.le_of_ble_eq_true rfl)) dX0_closeParts_242 ⟨(Nat.le_of_ble_eq_true rfl), (Nat.le_of_ble_eq_true rfl)⟩) g hK (by decide) (by decide) (fx' := [(0, 4, a0_, .ref a_187), (0, 0, a0_, .ref a_186), (0, 12, a0_, .int 0), (0, 10, a0_, .int x_178), (7, 6, q0_, .int x_173), (0, 11, a0_, .int y_170), (0, 8, a0_, .int y_163), (0, 3, a0_, .ref a_12), (0, 2, a0_, .ref q0_)]) rfl (fun fr_189 H locs hp hMr_189 g => ?_)
                    obtain ⟨x_190, h_191, hF_192⟩ := hp
                    have g := g.more hF_192
                    obtain ⟨y_193, ey_193⟩ : ∃ z : Int32, z = v4_3 + 1 := ⟨_, rfl⟩
                    refine lv_iinc (v := y_193) (lv' := [(3, .int y_193), (6, .int y_176), (2, .int 1), (5, .int 1), (4, .int x_15), (0, .ref a0_), (1, .int x1_)]) hx hb dX0_closeParts_245 hl (k := 4) rfl (by rw [ey_193]; rfl) (by decide) rfl (fun ls hl => ?_)
                    have ty_193 := add_bd ey_193 b_4 kb_1 (by decide)
                    have b_194 : bd 1 300 y_193 := add_rg ty_193 b_4 kb_1 (by decide)
                    refine lv_goto (tgt := 4) hx hb dX0_closeParts_248 (by decide) ?_
                    have hl9 := lv_sub hl [0, 2, 5, 6] (by rfl : lv_pick [(3, .int y_193), (6, .int y_176), (2, .int 1), (5, .int 1), (4, .int x_15), (0, .ref a0_), (1, .int x1_)] [0, 2, 5, 6] = [(3, .int y_193), (2, .int 1), (0, .ref a0_), (1, .int x1_)])
                    have g9 := g.sub (fx' := [(0, 2, a0_, .ref q0_)]) [10] rfl
                    exact ih  y_193 1 (bd_sub b_194 (by decide)) (bd_sub kb_1 (by decide)) (by have h9_0 := b_194; unfold bd at h9_0; have h9_1 := kb_0; unfold bd at h9_1; have h9_2 := kb_1; unfold bd at h9_2; have h9_3 := kb_12; unfold bd at h9_3; have h9_4 := kb_300; unfold bd at h9_4; have h9_5 := kb_6; unfold bd at h9_5; have h9_6 := kb_7; unfold bd at h9_6; omega) _ _ _ _ g9 hl9
                · have fc_171 := eq_f c_171
                  have b_195 : bd 7 6 x_15 := eqX fc_171 b_162 kb_6 (by decide)
                  exact bd_no b_195 (by decide)
  have kb_0 : bd 0 0 (0 : Int32) := ⟨by decide, by decide⟩
  have kb_1 : bd 1 1 (1 : Int32) := ⟨by decide, by decide⟩
  have hl9 := lv_sub hl [0, 1, 2, 3] (by rfl : lv_pick [(3, .int 0), (2, .int 1), (0, .ref a0_), (1, .int x1_)] [0, 1, 2, 3] = [(3, .int 0), (2, .int 1), (0, .ref a0_), (1, .int x1_)])
  have g9 := g.sub (fx' := [(0, 2, a0_, .ref q0_)]) [0] rfl
  exact loop_1 (603) 0 1 (bd_sub kb_0 (by decide)) (bd_sub kb_1 (by decide)) (by have h9_0 := kb_0; unfold bd at h9_0; have h9_1 := kb_1; unfold bd at h9_1; omega) _ _ _ _ g9 hl9
set_option maxHeartbeats 4000000 in
set_option maxRecDepth 100000 in
theorem r_X1_readyToAsk (l : Launch) (dC : Nat → ClassId) (dI : Nat → Nat → Nat) (L : List Nat) (kd : Nat → Nat) (tys : List (ClassId × FieldType)) (f0 : Nat → va_E) (sz : Nat) (hWT : WT L kd tys f0) (a0_ : Nat) (ma0_ : a0_ ∈ L) (ka0_ : kd a0_ = 1) (x1_ : Int32) (x2_ : Int32) : Met l yX1_readyToAsk (.code yX1_readyToAsk cX1_readyToAsk 3 none :: lw_g) ({ frames := 0, cells := 0, slots := 0, locals := 0 }) (va_Pc [.ref a0_, .int x1_, .int x2_] (P3 (dC, dI) L tys f0 sz)) (va_Qv (fun (f : Nat → va_E) => (Fs L kd f [(1, 12, a0_, .int 0), (1, 5, a0_, .int 1)])) (Q3 (dC, dI) L kd tys [(1, 5), (1, 6), (1, 12), (1, 13)] [] f0 sz) (pA L sz)) 0 0 (pA L sz) := by
  refine Met.ofW (cc := cX1_readyToAsk) (maxL := 3) (ret := none) (by decide) rfl ?_
  intro p e s m args below meth c s₁ B hml hv
  obtain ⟨rfl, hsz, hP, hK, hD0⟩ := hv
  have hx := B.exec
  have hb := B.bytes
  have hr := B.returns
  have hts := atoms_spec (ws := (.code yX1_readyToAsk cX1_readyToAsk 3 none :: lw_g)) B.pre
  have hown : s.vm.findClass RX1 = some m.cls := findClass_of_methodNamed B.named
  have hlocks := B.notSynchronized
  subst hsz
  have g : G3 (dC, dI) L kd tys s f0 [(1, 5), (1, 6), (1, 12), (1, 13)] [] f0 s.heap [] [] := G3.start hP hD0 hWT Fs.nil
  have hl := lv_entry ([.ref a0_, .int x1_, .int x2_]) (n := 3) (Nat.le_of_ble_eq_true rfl)
  rw [lg_entry_eq]
  generalize (lg_sl ([.ref a0_, .int x1_, .int x2_]) ++ List.replicate (3 - (lg_sl ([.ref a0_, .int x1_, .int x2_])).length) Slot.unset).toArray = ls at hl ⊢
  have hl : lv_has ls 3 [(0, .ref a0_), (1, .int x1_), (2, .int x2_)] := hl
  refine W_q (fun Q hQ => ?_)
  refine lv_aload_n hx hb dX1_readyToAsk_0 rfl (lv_at hl 0 rfl) ?_
  refine lv_iconst (v := 1) hx hb dX1_readyToAsk_1 (by decide) ?_
  have kb_1 : bd 1 1 (1 : Int32) := ⟨by decide, by decide⟩
  refine g_put (C := RX1) (T := TX1) (N := 18) hx hb hts (mc_ inX1) tyX1 tyX1_ok nmX1 hown hK g ma0_ ka0_ (by decide) rfl 5 (by decide) (hts _ (List.mem_cons_of_mem _ t_740)) (fun _ h9 => h9) rfl rfl (okV_i (bd_sub kb_1 (by decide))) rfl rfl (by decide) (Or.inr (Or.inl (by decide))) (fx' := []) rfl dX1_readyToAsk_2 (fun f H locs g => ?_)
  refine lv_aload_n hx hb dX1_readyToAsk_5 rfl (lv_at hl 0 rfl) ?_
  refine lv_iload_n hx hb dX1_readyToAsk_6 rfl (lv_at hl 2 rfl) ?_
  refine g_put (C := RX1) (T := TX1) (N := 18) hx hb hts (mc_ inX1) tyX1 tyX1_ok nmX1 hown hK g ma0_ ka0_ (by decide) rfl 6 (by decide) (hts _ (List.mem_cons_of_mem _ t_741)) (fun _ h9 => h9) rfl rfl (okV_i (bdT x2_)) rfl rfl (by decide) (Or.inr (Or.inl (by decide))) (fx' := [(1, 5, a0_, .int 1)]) rfl dX1_readyToAsk_7 (fun f H locs g => ?_)
  refine lv_aload_n hx hb dX1_readyToAsk_10 rfl (lv_at hl 0 rfl) ?_
  refine lv_iconst (v := 0) hx hb dX1_readyToAsk_11 (by decide) ?_
  have kb_0 : bd 0 0 (0 : Int32) := ⟨by decide, by decide⟩
  refine g_put (C := RX1) (T := TX1) (N := 18) hx hb hts (mc_ inX1) tyX1 tyX1_ok nmX1 hown hK g ma0_ ka0_ (by decide) rfl 12 (by decide) (hts _ (List.mem_cons_of_mem _ t_747)) (fun _ h9 => h9) rfl rfl (okV_i (bd_sub kb_0 (by decide))) rfl rfl (by decide) (Or.inr (Or.inl (by decide))) (fx' := [(1, 6, a0_, .int x2_), (1, 5, a0_, .int 1)]) rfl dX1_readyToAsk_12 (fun f H locs g => ?_)
  refine lv_aload_n hx hb dX1_readyToAsk_15 rfl (lv_at hl 0 rfl) ?_
  refine lv_iload_n hx hb dX1_readyToAsk_16 rfl (lv_at hl 1 rfl) ?_
  refine g_put (C := RX1) (T := TX1) (N := 18) hx hb hts (mc_ inX1) tyX1 tyX1_ok nmX1 hown hK g ma0_ ka0_ (by decide) rfl 13 (by decide) (hts _ (List.mem_cons_of_mem _ t_748)) (fun _ h9 => h9) rfl rfl (okV_i (bdT x1_)) rfl rfl (by decide) (Or.inr (Or.inl (by decide))) (fx' := [(1, 12, a0_, .int 0), (1, 6, a0_, .int x2_), (1, 5, a0_, .int 1)]) rfl dX1_readyToAsk_17 (fun f H locs g => ?_)
  subst hQ
  exact W.vret hx hb hr (fun t ht hW => ⟨⟨_, rfl, (g.fcts [1, 3] rfl), q3_of g hK ht hW⟩, g.2.2.1.F ht⟩) g.2.2.1.2.2 dX1_readyToAsk_20
set_option maxHeartbeats 4000000 in
set_option maxRecDepth 100000 in
theorem r_X1_readyToCall (l : Launch) (dC : Nat → ClassId) (dI : Nat → Nat → Nat) (L : List Nat) (kd : Nat → Nat) (tys : List (ClassId × FieldType)) (f0 : Nat → va_E) (sz : Nat) (hWT : WT L kd tys f0) (a0_ : Nat) (ma0_ : a0_ ∈ L) (ka0_ : kd a0_ = 1) (a1_ : Nat) (ma1_ : a1_ ∈ L) (ka1_ : kd a1_ = 6) : Met l yX1_readyToCall (.code yX1_readyToCall cX1_readyToCall 2 none :: lw_g) ({ frames := 0, cells := 0, slots := 0, locals := 0 }) (va_Pc [.ref a0_, .ref a1_] (P3 (dC, dI) L tys f0 sz)) (va_Qv (fun (f : Nat → va_E) => (Fs L kd f [(1, 12, a0_, .int 1), (1, 6, a0_, .int 0), (1, 5, a0_, .int 0)])) (Q3 (dC, dI) L kd tys [(1, 5), (1, 6), (1, 12), (1, 13)] [] f0 sz) (pA L sz)) 0 0 (pA L sz) := by
  refine Met.ofW (cc := cX1_readyToCall) (maxL := 2) (ret := none) (by decide) rfl ?_
  intro p e s m args below meth c s₁ B hml hv
  obtain ⟨rfl, hsz, hP, hK, hD0⟩ := hv
  have hx := B.exec
  have hb := B.bytes
  have hr := B.returns
  have hts := atoms_spec (ws := (.code yX1_readyToCall cX1_readyToCall 2 none :: lw_g)) B.pre
  have hown : s.vm.findClass RX1 = some m.cls := findClass_of_methodNamed B.named
  have hlocks := B.notSynchronized
  subst hsz
  have g : G3 (dC, dI) L kd tys s f0 [(1, 5), (1, 6), (1, 12), (1, 13)] [] f0 s.heap [] [] := G3.start hP hD0 hWT Fs.nil
  have hl := lv_entry ([.ref a0_, .ref a1_]) (n := 2) (Nat.le_of_ble_eq_true rfl)
  rw [lg_entry_eq]
  generalize (lg_sl ([.ref a0_, .ref a1_]) ++ List.replicate (2 - (lg_sl ([.ref a0_, .ref a1_])).length) Slot.unset).toArray = ls at hl ⊢
  have hl : lv_has ls 2 [(0, .ref a0_), (1, .ref a1_)] := hl
  refine W_q (fun Q hQ => ?_)
  refine lv_aload_n hx hb dX1_readyToCall_0 rfl (lv_at hl 0 rfl) ?_
  refine lv_iconst (v := 0) hx hb dX1_readyToCall_1 (by decide) ?_
  have kb_0 : bd 0 0 (0 : Int32) := ⟨by decide, by decide⟩
  refine g_put (C := RX1) (T := TX1) (N := 18) hx hb hts (mc_ inX1) tyX1 tyX1_ok nmX1 hown hK g ma0_ ka0_ (by decide) rfl 5 (by decide) (hts _ (List.mem_cons_of_mem _ t_740)) (fun _ h9 => h9) rfl rfl (okV_i (bd_sub kb_0 (by decide))) rfl rfl (by decide) (Or.inr (Or.inl (by decide))) (fx' := []) rfl dX1_readyToCall_2 (fun f H locs g => ?_)
  refine lv_aload_n hx hb dX1_readyToCall_5 rfl (lv_at hl 0 rfl) ?_
  refine lv_iconst (v := 0) hx hb dX1_readyToCall_6 (by decide) ?_
  refine g_put (C := RX1) (T := TX1) (N := 18) hx hb hts (mc_ inX1) tyX1 tyX1_ok nmX1 hown hK g ma0_ ka0_ (by decide) rfl 6 (by decide) (hts _ (List.mem_cons_of_mem _ t_741)) (fun _ h9 => h9) rfl rfl (okV_i (bd_sub kb_0 (by decide))) rfl rfl (by decide) (Or.inr (Or.inl (by decide))) (fx' := [(1, 5, a0_, .int 0)]) rfl dX1_readyToCall_7 (fun f H locs g => ?_)
  refine lv_aload_n hx hb dX1_readyToCall_10 rfl (lv_at hl 0 rfl) ?_
  refine lv_iconst (v := 1) hx hb dX1_readyToCall_11 (by decide) ?_
  have kb_1 : bd 1 1 (1 : Int32) := ⟨by decide, by decide⟩
  refine g_put (C := RX1) (T := TX1) (N := 18) hx hb hts (mc_ inX1) tyX1 tyX1_ok nmX1 hown hK g ma0_ ka0_ (by decide) rfl 12 (by decide) (hts _ (List.mem_cons_of_mem _ t_747)) (fun _ h9 => h9) rfl rfl (okV_i (bd_sub kb_1 (by decide))) rfl rfl (by decide) (Or.inr (Or.inl (by decide))) (fx' := [(1, 6, a0_, .int 0), (1, 5, a0_, .int 0)]) rfl dX1_readyToCall_12 (fun f H locs g => ?_)
  refine lv_aload_n hx hb dX1_readyToCall_15 rfl (lv_at hl 0 rfl) ?_
  refine lv_aload_n hx hb dX1_readyToCall_16 rfl (lv_at hl 1 rfl) ?_
  refine g_geti (C := RX6) (T := TX6) (N := 13) hx hb hts (mc_ inX6) hown hK g ma1_ ka1_ (by decide) rfl 8 (by decide) rfl (hts _ (List.mem_cons_of_mem _ t_582)) (fun _ h9 => h9) rfl dX1_readyToCall_17 (fun x_1 bx_1 g => ?_)
  refine g_put (C := RX1) (T := TX1) (N := 18) hx hb hts (mc_ inX1) tyX1 tyX1_ok nmX1 hown hK g ma0_ ka0_ (by decide) rfl 13 (by decide) (hts _ (List.mem_cons_of_mem _ t_748)) (fun _ h9 => h9) rfl rfl (okV_i (bdT x_1)) rfl rfl (by decide) (Or.inr (Or.inl (by decide))) (fx' := [(6, 8, a1_, .int x_1), (1, 12, a0_, .int 1), (1, 6, a0_, .int 0), (1, 5, a0_, .int 0)]) rfl dX1_readyToCall_20 (fun f H locs g => ?_)
  subst hQ
  exact W.vret hx hb hr (fun t ht hW => ⟨⟨_, rfl, (g.fcts [2, 3, 4] rfl), q3_of g hK ht hW⟩, g.2.2.1.F ht⟩) g.2.2.1.2.2 dX1_readyToCall_23
set_option maxHeartbeats 4000000 in
set_option maxRecDepth 100000 in
theorem r_X1_begin (l : Launch) (dC : Nat → ClassId) (dI : Nat → Nat → Nat) (L : List Nat) (kd : Nat → Nat) (tys : List (ClassId × FieldType)) (f0 : Nat → va_E) (sz : Nat) (hWT : WT L kd tys f0) (a0_ : Nat) (ma0_ : a0_ ∈ L) (ka0_ : kd a0_ = 1) : Met l yX1_begin (.code yX1_begin cX1_begin 2 none :: lw_g) ({ frames := 0, cells := 0, slots := 0, locals := 0 }) (va_Pc [.ref a0_] (P3 (dC, dI) L tys f0 sz)) (va_Qv (fun (f : Nat → va_E) => (∃ z4_ : Int32, bd 0 1 z4_ ∧ Fs L kd f [(1, 16, a0_, .int 0), (1, 15, a0_, .int 0), (1, 14, a0_, .int 0), (1, 8, a0_, .int 0), (1, 11, a0_, .int z4_)])) (Q3 (dC, dI) L kd tys [(1, 8), (1, 11), (1, 14), (1, 15), (1, 16)] [116] f0 sz) (pA L sz)) 0 0 (pA L sz) := by
  refine Met.ofW (cc := cX1_begin) (maxL := 2) (ret := none) (by decide) rfl ?_
  intro p e s m args below meth c s₁ B hml hv
  obtain ⟨rfl, hsz, hP, hK, hD0⟩ := hv
  have hx := B.exec
  have hb := B.bytes
  have hr := B.returns
  have hts := atoms_spec (ws := (.code yX1_begin cX1_begin 2 none :: lw_g)) B.pre
  have hown : s.vm.findClass RX1 = some m.cls := findClass_of_methodNamed B.named
  have hlocks := B.notSynchronized
  subst hsz
  have g : G3 (dC, dI) L kd tys s f0 [(1, 8), (1, 11), (1, 14), (1, 15), (1, 16)] [116] f0 s.heap [] [] := G3.start hP hD0 hWT Fs.nil
  have hl := lv_entry ([.ref a0_]) (n := 2) (Nat.le_of_ble_eq_true rfl)
  rw [lg_entry_eq]
  generalize (lg_sl ([.ref a0_]) ++ List.replicate (2 - (lg_sl ([.ref a0_])).length) Slot.unset).toArray = ls at hl ⊢
  have hl : lv_has ls 2 [(0, .ref a0_)] := hl
  refine W_q (fun Q hQ => ?_)
  refine lv_aload_n hx hb dX1_begin_0 rfl (lv_at hl 0 rfl) ?_
  refine lv_aload_n hx hb dX1_begin_1 rfl (lv_at hl 0 rfl) ?_
  refine g_geti (C := RX1) (T := TX1) (N := 18) hx hb hts (mc_ inX1) hown hK g ma0_ ka0_ (by decide) rfl 12 (by decide) rfl (hts _ (List.mem_cons_of_mem _ t_747)) (fun _ h9 => h9) rfl dX1_begin_2 (fun x_1 bx_1 g => ?_)
  refine g_put (C := RX1) (T := TX1) (N := 18) hx hb hts (mc_ inX1) tyX1 tyX1_ok nmX1 hown hK g ma0_ ka0_ (by decide) rfl 11 (by decide) (hts _ (List.mem_cons_of_mem _ t_746)) (fun _ h9 => h9) rfl rfl (okV_i (bd_sub bx_1 (by decide))) rfl rfl (by decide) (Or.inr (Or.inl (by decide))) (fx' := [(1, 12, a0_, .int x_1)]) rfl dX1_begin_5 (fun f H locs g => ?_)
  refine lv_aload_n hx hb dX1_begin_8 rfl (lv_at hl 0 rfl) ?_
  refine lv_iconst (v := 0) hx hb dX1_begin_9 (by decide) ?_
  have kb_0 : bd 0 0 (0 : Int32) := ⟨by decide, by decide⟩
  refine g_put (C := RX1) (T := TX1) (N := 18) hx hb hts (mc_ inX1) tyX1 tyX1_ok nmX1 hown hK g ma0_ ka0_ (by decide) rfl 8 (by decide) (hts _ (List.mem_cons_of_mem _ t_743)) (fun _ h9 => h9) rfl rfl (okV_i (bd_sub kb_0 (by decide))) rfl rfl (by decide) (Or.inr (Or.inl (by decide))) (fx' := [(1, 11, a0_, .int x_1), (1, 12, a0_, .int x_1)]) rfl dX1_begin_10 (fun f H locs g => ?_)
  refine lv_aload_n hx hb dX1_begin_13 rfl (lv_at hl 0 rfl) ?_
  refine lv_iconst (v := 0) hx hb dX1_begin_14 (by decide) ?_
  refine g_put (C := RX1) (T := TX1) (N := 18) hx hb hts (mc_ inX1) tyX1 tyX1_ok nmX1 hown hK g ma0_ ka0_ (by decide) rfl 14 (by decide) (hts _ (List.mem_cons_of_mem _ t_749)) (fun _ h9 => h9) rfl rfl (okV_i (bd_sub kb_0 (by decide))) rfl rfl (by decide) (Or.inr (Or.inl (by decide))) (fx' := [(1, 8, a0_, .int 0), (1, 11, a0_, .int x_1), (1, 12, a0_, .int x_1)]) rfl dX1_begin_15 (fun f H locs g => ?_)
  refine lv_aload_n hx hb dX1_begin_18 rfl (lv_at hl 0 rfl) ?_
  refine lv_iconst (v := 0) hx hb dX1_begin_19 (by decide) ?_
  refine g_put (C := RX1) (T := TX1) (N := 18) hx hb hts (mc_ inX1) tyX1 tyX1_ok nmX1 hown hK g ma0_ ka0_ (by decide) rfl 15 (by decide) (hts _ (List.mem_cons_of_mem _ t_750)) (fun _ h9 => h9) rfl rfl (okV_i (bd_sub kb_0 (by decide))) rfl rfl (by decide) (Or.inr (Or.inl (by decide))) (fx' := [(1, 14, a0_, .int 0), (1, 8, a0_, .int 0), (1, 11, a0_, .int x_1), (1, 12, a0_, .int x_1)]) rfl dX1_begin_20 (fun f H locs g => ?_)
  refine lv_aload_n hx hb dX1_begin_23 rfl (lv_at hl 0 rfl) ?_
  refine lv_iconst (v := 0) hx hb dX1_begin_24 (by decide) ?_
  refine g_put (C := RX1) (T := TX1) (N := 18) hx hb hts (mc_ inX1) tyX1 tyX1_ok nmX1 hown hK g ma0_ ka0_ (by decide) rfl 16 (by decide) (hts _ (List.mem_cons_of_mem _ t_752)) (fun _ h9 => h9) rfl rfl (okV_i (bd_sub kb_0 (by decide))) rfl rfl (by decide) (Or.inr (Or.inl (by decide))) (fx' := [(1, 15, a0_, .int 0), (1, 14, a0_, .int 0), (1, 8, a0_, .int 0), (1, 11, a0_, .int x_1), (1, 12, a0_, .int x_1)]) rfl dX1_begin_25 (fun f H locs g => ?_)
  refine lv_iconst (v := 0) hx hb dX1_begin_28 (by decide) ?_
  refine lv_istore_n (lv' := [(1, .int 0), (0, .ref a0_)]) hx hb dX1_begin_29 rfl hl (by decide) rfl (fun ls hl => ?_)
  have loop_2 : ∀ (n : Nat) (v30_1 : Int32), bd 0 3 v30_1 → (3 - v30_1.toInt < (n : Int)) → ∀ (f : Nat → va_E) (H : Heap) (locs : List Loc) (ls : Array Slot), G3 (dC, dI) L kd tys s f0 [(1, 8), (1, 11), (1, 14), (1, 15), (1, 16)] [116] f H locs [(1, 16, a0_, .int 0), (1, 15, a0_, .int 0), (1, 14, a0_, .int 0), (1, 8, a0_, .int 0), (1, 11, a0_, .int x_1), (1, 12, a0_, .int x_1)] → lv_has ls 2 [(1, .int v30_1), (0, .ref a0_)] → W p l e ({ frames := 0, cells := 0, slots := 0, locals := 0 } : Room) s m [.ref a0_].toArray below meth c H locs 0 0 Q (F0 m 30 ls []) := by
    intro n
    induction n with
    | zero =>
      intro v30_1 bv30_1 hm f H locs ls g hl
      exact absurd hm (by have h9_v30_1 := bv30_1; unfold bd at h9_v30_1; omega)
    | succ n ih =>
      intro v30_1 bv30_1 hm f H locs ls g hl
      refine lv_iload_n hx hb dX1_begin_30 rfl (lv_at hl 0 rfl) ?_
      refine lv_iconst (v := 3) hx hb dX1_begin_31 (by decide) ?_
      have kb_3 : bd 3 3 (3 : Int32) := ⟨by decide, by decide⟩
      refine lv_icmp_ge (tgt := 70) hx hb dX1_begin_32 (by decide) (fun c_3 => ?_) (fun c_3 => ?_)
      · have fc_3 := le_f c_3
        have b_4 : bd 3 3 v30_1 := leR fc_3 kb_3 bv30_1 (by decide)
        subst hQ
        exact W.vret hx hb hr (fun t ht hW => ⟨⟨_, rfl, ⟨x_1, bx_1, (g.fcts [0, 1, 2, 3, 4] rfl)⟩, q3_of g hK ht hW⟩, g.2.2.1.F ht⟩) g.2.2.1.2.2 dX1_begin_70
      · have fc_3 := nle_f c_3
        have b_5 : bd 0 2 v30_1 := ltL fc_3 bv30_1 kb_3 (by decide)
        refine lv_iload_n hx hb dX1_begin_35 rfl (lv_at hl 0 rfl) ?_
        refine lv_aload_n hx hb dX1_begin_36 rfl (lv_at hl 1 rfl) ?_
        refine g_getu (lo := 100) (hi := 103) (C := RX1) (T := TX1) (N := 18) hx hb hts (mc_ inX1) hown hK g ma0_ ka0_ (by decide) rfl 4 (by decide) rfl (hts _ (List.mem_cons_of_mem _ t_739)) (fun _ h9 => h9) rfl dX1_begin_37 (fun a_6 ma_6 ka_6 g => ?_)
        refine g_alenU hx hb hK g ma_6 ka_6 dX1_begin_40 (fun x_7 ex_7 bx_7 => ?_)
        refine lv_icmp_ge (tgt := 70) hx hb dX1_begin_41 (by decide) (fun c_8 => ?_) (fun c_8 => ?_)
        · have fc_8 := le_f c_8
          have b_9 : bd 3 2 x_7 := leL fc_8 bx_7 b_5 (by decide)
          exact bd_no b_9 (by decide)
        · have fc_8 := nle_f c_8
          refine lv_aload_n hx hb dX1_begin_44 rfl (lv_at hl 1 rfl) ?_
          refine g_getr (K := 116) (C := RX1) (T := TX1) (N := 18) hx hb hts (mc_ inX1) hown hK g ma0_ ka0_ (by decide) rfl 9 (by decide) rfl (hts _ (List.mem_cons_of_mem _ t_744)) (fun _ h9 => h9) rfl dX1_begin_45 (fun a_10 ma_10 ka_10 g => ?_)
          refine lv_aload_n hx hb dX1_begin_48 rfl (lv_at hl 1 rfl) ?_
          refine g_getk (C := RX1) (T := TX1) (N := 18) hx hb hts (mc_ inX1) hown hK g rfl 11 (by decide) rfl (hts _ (List.mem_cons_of_mem _ t_746)) (fun _ h9 => h9) 6 rfl dX1_begin_49 ?_
          refine lv_bipush (v := 11) hx hb dX1_begin_52 (by decide) ?_
          refine lv_imul hx hb dX1_begin_54 ?_
          refine lv_topi (fun y_11 ey_11 => ?_)
          have ty_11 := mulc_bd ey_11 (c := 11) (by decide) bx_1 (by decide)
          have b_12 : bd 0 11 y_11 := mulc_rg ty_11 bx_1 (by decide)
          refine lv_iload_n hx hb dX1_begin_55 rfl (lv_at hl 0 rfl) ?_
          refine lv_iadd hx hb dX1_begin_56 ?_
          refine lv_topi (fun y_13 ey_13 => ?_)
          have ty_13 := add_bd ey_13 b_12 b_5 (by decide)
          have b_14 : bd 0 13 y_13 := add_rg ty_13 b_12 b_5 (by decide)
          refine lv_aload_n hx hb dX1_begin_57 rfl (lv_at hl 1 rfl) ?_
          refine g_getk (C := RX1) (T := TX1) (N := 18) hx hb hts (mc_ inX1) hown hK g rfl 4 (by decide) rfl (hts _ (List.mem_cons_of_mem _ t_739)) (fun _ h9 => h9) 1 rfl dX1_begin_58 ?_
          refine lv_iload_n hx hb dX1_begin_61 rfl (lv_at hl 0 rfl) ?_
          refine g_ialdU hx hb hK g ma_6 ka_6 (in_ok (by have h9 := b_5; unfold bd at h9; omega) (by omega)) dX1_begin_62 (fun x_15 => ?_)
          refine g_iast hx hb hK g ma_10 ka_10 (by decide) rfl (in_bd b_14 (by decide)) (bdT x_15) (by decide) dX1_begin_63 (fun f H locs g => ?_)
          have kb_1 : bd 1 1 (1 : Int32) := ⟨by decide, by decide⟩
          obtain ⟨y_16, ey_16⟩ : ∃ z : Int32, z = v30_1 + 1 := ⟨_, rfl⟩
          refine lv_iinc (v := y_16) (lv' := [(1, .int y_16), (0, .ref a0_)]) hx hb dX1_begin_64 hl (k := 0) rfl (by rw [ey_16]; rfl) (by decide) rfl (fun ls hl => ?_)
          have ty_16 := add_bd ey_16 b_5 kb_1 (by decide)
          have b_17 : bd 1 3 y_16 := add_rg ty_16 b_5 kb_1 (by decide)
          refine lv_goto (tgt := 30) hx hb dX1_begin_67 (by decide) ?_
          have hl9 := lv_sub hl [0, 1] (by rfl : lv_pick [(1, .int y_16), (0, .ref a0_)] [0, 1] = [(1, .int y_16), (0, .ref a0_)])
          have g9 := g.sub (fx' := [(1, 16, a0_, .int 0), (1, 15, a0_, .int 0), (1, 14, a0_, .int 0), (1, 8, a0_, .int 0), (1, 11, a0_, .int x_1), (1, 12, a0_, .int x_1)]) [2, 3, 4, 5, 6, 7] rfl
          exact ih  y_16 (bd_sub b_17 (by decide)) (by have h9_0 := b_17; unfold bd at h9_0; have h9_1 := kb_0; unfold bd at h9_1; have h9_2 := kb_1; unfold bd at h9_2; have h9_3 := kb_3; unfold bd at h9_3; omega) _ _ _ _ g9 hl9
  have hl9 := lv_sub hl [0, 1] (by rfl : lv_pick [(1, .int 0), (0, .ref a0_)] [0, 1] = [(1, .int 0), (0, .ref a0_)])
  have g9 := g.sub (fx' := [(1, 16, a0_, .int 0), (1, 15, a0_, .int 0), (1, 14, a0_, .int 0), (1, 8, a0_, .int 0), (1, 11, a0_, .int x_1), (1, 12, a0_, .int x_1)]) [0, 1, 2, 3, 4, 5] rfl
  exact loop_2 (9) 0 (bd_sub kb_0 (by decide)) (by have h9_0 := kb_0; unfold bd at h9_0; omega) _ _ _ _ g9 hl9
set_option maxHeartbeats 4000000 in
set_option maxRecDepth 100000 in
theorem r_X1_push (l : Launch) (dC : Nat → ClassId) (dI : Nat → Nat → Nat) (L : List Nat) (kd : Nat → Nat) (tys : List (ClassId × FieldType)) (f0 : Nat → va_E) (sz : Nat) (hWT : WT L kd tys f0) (a0_ : Nat) (ma0_ : a0_ ∈ L) (ka0_ : kd a0_ = 1) (x1_ : Int32) : Met l yX1_push (.code yX1_push cX1_push 2 none :: lw_g) ({ frames := 0, cells := 0, slots := 0, locals := 0 }) (va_Pc [.ref a0_, .int x1_] (P3 (dC, dI) L tys f0 sz)) (va_Qv (fun (f : Nat → va_E) => (∃ z0_ : Int32, bd 1 700 z0_ ∧ Fs L kd f [(1, 8, a0_, .int z0_)])) (Q3 (dC, dI) L kd tys [(1, 8)] [100] f0 sz) (pA L sz)) 0 0 (pA L sz) := by
  refine Met.ofW (cc := cX1_push) (maxL := 2) (ret := none) (by decide) rfl ?_
  intro p e s m args below meth c s₁ B hml hv
  obtain ⟨rfl, hsz, hP, hK, hD0⟩ := hv
  have hx := B.exec
  have hb := B.bytes
  have hr := B.returns
  have hts := atoms_spec (ws := (.code yX1_push cX1_push 2 none :: lw_g)) B.pre
  have hown : s.vm.findClass RX1 = some m.cls := findClass_of_methodNamed B.named
  have hlocks := B.notSynchronized
  subst hsz
  have g : G3 (dC, dI) L kd tys s f0 [(1, 8)] [100] f0 s.heap [] [] := G3.start hP hD0 hWT Fs.nil
  have hl := lv_entry ([.ref a0_, .int x1_]) (n := 2) (Nat.le_of_ble_eq_true rfl)
  rw [lg_entry_eq]
  generalize (lg_sl ([.ref a0_, .int x1_]) ++ List.replicate (2 - (lg_sl ([.ref a0_, .int x1_])).length) Slot.unset).toArray = ls at hl ⊢
  have hl : lv_has ls 2 [(0, .ref a0_), (1, .int x1_)] := hl
  refine W_q (fun Q hQ => ?_)
  refine lv_aload_n hx hb dX1_push_0 rfl (lv_at hl 0 rfl) ?_
  refine g_geti (C := RX1) (T := TX1) (N := 18) hx hb hts (mc_ inX1) hown hK g ma0_ ka0_ (by decide) rfl 8 (by decide) rfl (hts _ (List.mem_cons_of_mem _ t_743)) (fun _ h9 => h9) rfl dX1_push_1 (fun x_1 bx_1 g => ?_)
  refine lv_sipush (v := 700) hx hb dX1_push_4 (by decide) ?_
  have kb_700 : bd 700 700 (700 : Int32) := ⟨by decide, by decide⟩
  refine lv_icmp_ge (tgt := 30) hx hb dX1_push_7 (by decide) (fun c_2 => ?_) (fun c_2 => ?_)
  · have fc_2 := le_f c_2
    have b_3 : bd 700 700 x_1 := leR fc_2 kb_700 bx_1 (by decide)
    subst hQ
    exact W.vret hx hb hr (fun t ht hW => ⟨⟨_, rfl, ⟨x_1, (bd_sub b_3 (by decide)), (g.fcts [0] rfl)⟩, q3_of g hK ht hW⟩, g.2.2.1.F ht⟩) g.2.2.1.2.2 dX1_push_30
  · have fc_2 := nle_f c_2
    have b_4 : bd 0 699 x_1 := ltL fc_2 bx_1 kb_700 (by decide)
    refine lv_aload_n hx hb dX1_push_10 rfl (lv_at hl 0 rfl) ?_
    refine g_getr (K := 100) (C := RX1) (T := TX1) (N := 18) hx hb hts (mc_ inX1) hown hK g ma0_ ka0_ (by decide) rfl 7 (by decide) rfl (hts _ (List.mem_cons_of_mem _ t_742)) (fun _ h9 => h9) rfl dX1_push_11 (fun a_5 ma_5 ka_5 g => ?_)
    refine lv_aload_n hx hb dX1_push_14 rfl (lv_at hl 0 rfl) ?_
    refine g_getk (C := RX1) (T := TX1) (N := 18) hx hb hts (mc_ inX1) hown hK g rfl 8 (by decide) rfl (hts _ (List.mem_cons_of_mem _ t_743)) (fun _ h9 => h9) 1 rfl dX1_push_15 ?_
    refine lv_iload_n hx hb dX1_push_18 rfl (lv_at hl 1 rfl) ?_
    refine g_iast hx hb hK g ma_5 ka_5 (by decide) rfl (in_bd b_4 (by decide)) (bdT x1_) (by decide) dX1_push_19 (fun f H locs g => ?_)
    refine lv_aload_n hx hb dX1_push_20 rfl (lv_at hl 0 rfl) ?_
    refine lv_dup hx hb dX1_push_21 rfl ?_
    refine g_getk (C := RX1) (T := TX1) (N := 18) hx hb hts (mc_ inX1) hown hK g rfl 8 (by decide) rfl (hts _ (List.mem_cons_of_mem _ t_743)) (fun _ h9 => h9) 1 rfl dX1_push_22 ?_
    refine lv_iconst (v := 1) hx hb dX1_push_25 (by decide) ?_
    have kb_1 : bd 1 1 (1 : Int32) := ⟨by decide, by decide⟩
    refine lv_iadd hx hb dX1_push_26 ?_
    refine lv_topi (fun y_6 ey_6 => ?_)
    have ty_6 := add_bd ey_6 b_4 kb_1 (by decide)
    have b_7 : bd 1 700 y_6 := add_rg ty_6 b_4 kb_1 (by decide)
    refine g_put (C := RX1) (T := TX1) (N := 18) hx hb hts (mc_ inX1) tyX1 tyX1_ok nmX1 hown hK g ma0_ ka0_ (by decide) rfl 8 (by decide) (hts _ (List.mem_cons_of_mem _ t_743)) (fun _ h9 => h9) rfl rfl (okV_i (bd_sub b_7 (by decide))) rfl rfl (by decide) (Or.inr (Or.inl (by decide))) (fx' := [(1, 7, a0_, .ref a_5)]) rfl dX1_push_27 (fun f H locs g => ?_)
    subst hQ
    exact W.vret hx hb hr (fun t ht hW => ⟨⟨_, rfl, ⟨y_6, b_7, (g.fcts [0] rfl)⟩, q3_of g hK ht hW⟩, g.2.2.1.F ht⟩) g.2.2.1.2.2 dX1_push_30
set_option maxHeartbeats 4000000 in
set_option maxRecDepth 100000 in
theorem r_X1_pop (l : Launch) (dC : Nat → ClassId) (dI : Nat → Nat → Nat) (L : List Nat) (kd : Nat → Nat) (tys : List (ClassId × FieldType)) (f0 : Nat → va_E) (sz : Nat) (hWT : WT L kd tys f0) (a0_ : Nat) (ma0_ : a0_ ∈ L) (ka0_ : kd a0_ = 1) : Met l yX1_pop (.code yX1_pop cX1_pop 1 (some .int) :: lw_g) ({ frames := 0, cells := 0, slots := 0, locals := 0 }) (va_Pc [.ref a0_] (P3 (dC, dI) L tys f0 sz)) (va_Qi (fun (r : Int32) (f : Nat → va_E) => (∃ z0_ : Int32, bd 0 699 z0_ ∧ Fs L kd f [(1, 8, a0_, .int z0_)])) (Q3 (dC, dI) L kd tys [(1, 8)] [] f0 sz) (pA L sz)) 0 0 (pA L sz) := by
  refine Met.ofW (cc := cX1_pop) (maxL := 1) (ret := (some .int)) (by decide) rfl ?_
  intro p e s m args below meth c s₁ B hml hv
  obtain ⟨rfl, hsz, hP, hK, hD0⟩ := hv
  have hx := B.exec
  have hb := B.bytes
  have hr := B.returns
  have hts := atoms_spec (ws := (.code yX1_pop cX1_pop 1 (some .int) :: lw_g)) B.pre
  have hown : s.vm.findClass RX1 = some m.cls := findClass_of_methodNamed B.named
  have hlocks := B.notSynchronized
  subst hsz
  have g : G3 (dC, dI) L kd tys s f0 [(1, 8)] [] f0 s.heap [] [] := G3.start hP hD0 hWT Fs.nil
  have hl := lv_entry ([.ref a0_]) (n := 1) (Nat.le_of_ble_eq_true rfl)
  rw [lg_entry_eq]
  generalize (lg_sl ([.ref a0_]) ++ List.replicate (1 - (lg_sl ([.ref a0_])).length) Slot.unset).toArray = ls at hl ⊢
  have hl : lv_has ls 1 [(0, .ref a0_)] := hl
  refine W_q (fun Q hQ => ?_)
  refine lv_aload_n hx hb dX1_pop_0 rfl (lv_at hl 0 rfl) ?_
  refine g_geti (C := RX1) (T := TX1) (N := 18) hx hb hts (mc_ inX1) hown hK g ma0_ ka0_ (by decide) rfl 8 (by decide) rfl (hts _ (List.mem_cons_of_mem _ t_743)) (fun _ h9 => h9) rfl dX1_pop_1 (fun x_1 bx_1 g => ?_)
  have kb_0 : bd 0 0 (0 : Int32) := ⟨by decide, by decide⟩
  refine lv_if_ne (tgt := 9) hx hb dX1_pop_4 (by decide) (fun c_2 => ?_) (fun c_2 => ?_)
  · have fc_2 := neq_f c_2
    have b_3 : bd 1 700 x_1 := neX fc_2 bx_1 kb_0 (by decide)
    refine lv_aload_n hx hb dX1_pop_9 rfl (lv_at hl 0 rfl) ?_
    refine lv_dup hx hb dX1_pop_10 rfl ?_
    refine g_getk (C := RX1) (T := TX1) (N := 18) hx hb hts (mc_ inX1) hown hK g rfl 8 (by decide) rfl (hts _ (List.mem_cons_of_mem _ t_743)) (fun _ h9 => h9) 0 rfl dX1_pop_11 ?_
    refine lv_iconst (v := 1) hx hb dX1_pop_14 (by decide) ?_
    have kb_1 : bd 1 1 (1 : Int32) := ⟨by decide, by decide⟩
    refine lv_isub hx hb dX1_pop_15 ?_
    refine lv_topi (fun y_4 ey_4 => ?_)
    have ty_4 := sub_bd ey_4 b_3 kb_1 (by decide)
    have b_5 : bd 0 699 y_4 := sub_rg ty_4 b_3 kb_1 (by decide)
    refine g_put (C := RX1) (T := TX1) (N := 18) hx hb hts (mc_ inX1) tyX1 tyX1_ok nmX1 hown hK g ma0_ ka0_ (by decide) rfl 8 (by decide) (hts _ (List.mem_cons_of_mem _ t_743)) (fun _ h9 => h9) rfl rfl (okV_i (bd_sub b_5 (by decide))) rfl rfl (by decide) (Or.inr (Or.inl (by decide))) (fx' := []) rfl dX1_pop_16 (fun f H locs g => ?_)
    refine lv_aload_n hx hb dX1_pop_19 rfl (lv_at hl 0 rfl) ?_
    refine g_getr (K := 100) (C := RX1) (T := TX1) (N := 18) hx hb hts (mc_ inX1) hown hK g ma0_ ka0_ (by decide) rfl 7 (by decide) rfl (hts _ (List.mem_cons_of_mem _ t_742)) (fun _ h9 => h9) rfl dX1_pop_20 (fun a_6 ma_6 ka_6 g => ?_)
    refine lv_aload_n hx hb dX1_pop_23 rfl (lv_at hl 0 rfl) ?_
    refine g_getk (C := RX1) (T := TX1) (N := 18) hx hb hts (mc_ inX1) hown hK g rfl 8 (by decide) rfl (hts _ (List.mem_cons_of_mem _ t_743)) (fun _ h9 => h9) 1 rfl dX1_pop_24 ?_
    refine g_iald hx hb hK g ma_6 ka_6 (by decide) rfl (in_bd b_5 (by decide)) dX1_pop_27 (fun x_7 bx_7 => ?_)
    subst hQ
    exact W.iret (v := x_7) hx hb hr (fun t ht hW => ⟨⟨_, _, rfl, ⟨y_4, b_5, (g.fcts [1] rfl)⟩, q3_of g hK ht hW⟩, g.2.2.1.F ht⟩) g.2.2.1.2.2 dX1_pop_28
  · have fc_2 := eq_f c_2
    have b_8 : bd 0 0 x_1 := eqX fc_2 bx_1 kb_0 (by decide)
    refine lv_iconst (v := 0) hx hb dX1_pop_7 (by decide) ?_
    subst hQ
    exact W.iret (v := 0) hx hb hr (fun t ht hW => ⟨⟨_, _, rfl, ⟨x_1, (bd_sub b_8 (by decide)), (g.fcts [0] rfl)⟩, q3_of g hK ht hW⟩, g.2.2.1.F ht⟩) g.2.2.1.2.2 dX1_pop_8
set_option maxHeartbeats 4000000 in
set_option maxRecDepth 100000 in
theorem r_X1_turn (l : Launch) (dC : Nat → ClassId) (dI : Nat → Nat → Nat) (L : List Nat) (kd : Nat → Nat) (tys : List (ClassId × FieldType)) (f0 : Nat → va_E) (sz : Nat) (hWT : WT L kd tys f0) (a0_ : Nat) (ma0_ : a0_ ∈ L) (ka0_ : kd a0_ = 1) (x1_ : Int32) (x2_ : Int32) (x3_ : Int32) : Met l yX1_turn (.code yX1_turn cX1_turn 5 (some .int) :: lw_g) ({ frames := 0, cells := 0, slots := 0, locals := 0 }) (va_Pc [.ref a0_, .int x1_, .int x2_, .int x3_] (P3 (dC, dI) L tys f0 sz)) (va_Qi (fun (r : Int32) (f : Nat → va_E) => (True)) (Q3 (dC, dI) L kd tys [(1, 15), (1, 17)] [] f0 sz) (pA L sz)) 0 0 (pA L sz) := by
  refine Met.ofW (cc := cX1_turn) (maxL := 5) (ret := (some .int)) (by decide) rfl ?_
  intro p e s m args below meth c s₁ B hml hv
  obtain ⟨rfl, hsz, hP, hK, hD0⟩ := hv
  have hx := B.exec
  have hb := B.bytes
  have hr := B.returns
  have hts := atoms_spec (ws := (.code yX1_turn cX1_turn 5 (some .int) :: lw_g)) B.pre
  have hown : s.vm.findClass RX1 = some m.cls := findClass_of_methodNamed B.named
  have hlocks := B.notSynchronized
  subst hsz
  have g : G3 (dC, dI) L kd tys s f0 [(1, 15), (1, 17)] [] f0 s.heap [] [] := G3.start hP hD0 hWT Fs.nil
  have hl := lv_entry ([.ref a0_, .int x1_, .int x2_, .int x3_]) (n := 5) (Nat.le_of_ble_eq_true rfl)
  rw [lg_entry_eq]
  generalize (lg_sl ([.ref a0_, .int x1_, .int x2_, .int x3_]) ++ List.replicate (5 - (lg_sl ([.ref a0_, .int x1_, .int x2_, .int x3_])).length) Slot.unset).toArray = ls at hl ⊢
  have hl : lv_has ls 5 [(0, .ref a0_), (1, .int x1_), (2, .int x2_), (3, .int x3_)] := hl
  refine W_q (fun Q hQ => ?_)
  refine lv_iload_n hx hb dX1_turn_0 rfl (lv_at hl 1 rfl) ?_
  refine lv_bipush (v := 6) hx hb dX1_turn_1 (by decide) ?_
  have kb_6 : bd 6 6 (6 : Int32) := ⟨by decide, by decide⟩
  refine lv_icmp_ne (tgt := 9) hx hb dX1_turn_3 (by decide) (fun c_1 => ?_) (fun c_1 => ?_)
  · have fc_1 := neq_f c_1
    refine lv_iload_n hx hb dX1_turn_9 rfl (lv_at hl 1 rfl) ?_
    refine lv_bipush (v := 7) hx hb dX1_turn_10 (by decide) ?_
    have kb_7 : bd 7 7 (7 : Int32) := ⟨by decide, by decide⟩
    refine lv_icmp_ne (tgt := 25) hx hb dX1_turn_12 (by decide) (fun c_2 => ?_) (fun c_2 => ?_)
    · have fc_2 := neq_f c_2
      refine lv_iload_n hx hb dX1_turn_25 rfl (lv_at hl 1 rfl) ?_
      refine lv_bipush (v := 8) hx hb dX1_turn_26 (by decide) ?_
      have kb_8 : bd 8 8 (8 : Int32) := ⟨by decide, by decide⟩
      refine lv_icmp_ne (tgt := 41) hx hb dX1_turn_28 (by decide) (fun c_3 => ?_) (fun c_3 => ?_)
      · have fc_3 := neq_f c_3
        refine lv_iload_n hx hb dX1_turn_41 rfl (lv_at hl 3 rfl) ?_
        have kb_0 : bd 0 0 (0 : Int32) := ⟨by decide, by decide⟩
        refine lv_if_lt (tgt := 53) hx hb dX1_turn_42 (by decide) (fun c_4 => ?_) (fun c_4 => ?_)
        · have fc_4 := lt_f c_4
          have b_5 : bd (-2147483648) (-1) x3_ := ltL fc_4 (bdT x3_) kb_0 (by decide)
          refine lv_aload_n hx hb dX1_turn_53 rfl (lv_at hl 0 rfl) ?_
          refine lv_iconst (v := 2) hx hb dX1_turn_54 (by decide) ?_
          have kb_2 : bd 2 2 (2 : Int32) := ⟨by decide, by decide⟩
          refine g_put (C := RX1) (T := TX1) (N := 18) hx hb hts (mc_ inX1) tyX1 tyX1_ok nmX1 hown hK g ma0_ ka0_ (by decide) rfl 15 (by decide) (hts _ (List.mem_cons_of_mem _ t_750)) (fun _ h9 => h9) rfl rfl (okV_i (bd_sub kb_2 (by decide))) rfl rfl (by decide) (Or.inr (Or.inl (by decide))) (fx' := []) rfl dX1_turn_55 (fun f H locs g => ?_)
          refine lv_aload_n hx hb dX1_turn_58 rfl (lv_at hl 0 rfl) ?_
          refine lv_ldc2 (v := 19540422) hx hb hown (hts _ (List.mem_cons_of_mem _ t_1580)) dX1_turn_59 ?_
          refine g_put (C := RX1) (T := TX1) (N := 18) hx hb hts (mc_ inX1) tyX1 tyX1_ok nmX1 hown hK g ma0_ ka0_ (by decide) rfl 17 (by decide) (hts _ (List.mem_cons_of_mem _ t_754)) (fun _ h9 => h9) rfl rfl okV_l rfl rfl (by decide) (Or.inr (Or.inl (by decide))) (fx' := [(1, 15, a0_, .int 2)]) rfl dX1_turn_62 (fun f H locs g => ?_)
          refine lv_iconst (v := 0) hx hb dX1_turn_65 (by decide) ?_
          subst hQ
          exact W.iret (v := 0) hx hb hr (fun t ht hW => ⟨⟨_, _, rfl, trivial, q3_of g hK ht hW⟩, g.2.2.1.F ht⟩) g.2.2.1.2.2 dX1_turn_66
        · have fc_4 := nlt_f c_4
          have b_6 : bd 0 2147483647 x3_ := leR fc_4 kb_0 (bdT x3_) (by decide)
          refine lv_iload_n hx hb dX1_turn_45 rfl (lv_at hl 3 rfl) ?_
          refine lv_iload_n hx hb dX1_turn_46 rfl (lv_at hl 2 rfl) ?_
          refine lv_bipush (v := 15) hx hb dX1_turn_47 (by decide) ?_
          have kb_15 : bd 15 15 (15 : Int32) := ⟨by decide, by decide⟩
          refine lv_iand hx hb dX1_turn_49 ?_
          refine lv_topi (fun y_7 ey_7 => ?_)
          have b_8 : bd 0 15 y_7 := and_rg ey_7 (bdT x2_) kb_15 (by decide)
          refine lv_icmp_lt (tgt := 67) hx hb dX1_turn_50 (by decide) (fun c_9 => ?_) (fun c_9 => ?_)
          · have fc_9 := lt_f c_9
            have b_10 : bd 0 14 x3_ := ltL fc_9 b_6 b_8 (by decide)
            have b_11 : bd 1 15 y_7 := ltR fc_9 b_6 b_8 (by decide)
            refine lv_iload_n hx hb dX1_turn_67 rfl (lv_at hl 2 rfl) ?_
            refine lv_iconst (v := 4) hx hb dX1_turn_68 (by decide) ?_
            have kb_4 : bd 4 4 (4 : Int32) := ⟨by decide, by decide⟩
            refine lv_ishr hx hb dX1_turn_69 ?_
            refine lv_topi (fun y_12 ey_12 => ?_)
            have b_13 : bd (-134217728) 134217727 y_12 := shr_rg ey_12 (bdT x2_) kb_4 (by decide)
            refine lv_iload_n hx hb dX1_turn_70 rfl (lv_at hl 3 rfl) ?_
            refine lv_iadd hx hb dX1_turn_71 ?_
            refine lv_topi (fun y_14 ey_14 => ?_)
            have ty_14 := add_bd ey_14 b_13 b_10 (by decide)
            have b_15 : bd (-134217728) 134217741 y_14 := add_rg ty_14 b_13 b_10 (by decide)
            refine lv_istore (lv' := [(4, .int y_14), (0, .ref a0_), (1, .int x1_), (2, .int x2_), (3, .int x3_)]) hx hb dX1_turn_72 hl (by decide) rfl (fun ls hl => ?_)
            refine lv_iload_n hx hb dX1_turn_74 rfl (lv_at hl 2 rfl) ?_
            refine lv_bipush (v := 11) hx hb dX1_turn_75 (by decide) ?_
            have kb_11 : bd 11 11 (11 : Int32) := ⟨by decide, by decide⟩
            refine lv_icmp_eq (tgt := 100) hx hb dX1_turn_77 (by decide) (fun c_16 => ?_) (fun c_16 => ?_)
            · have fc_16 := eq_f c_16
              have b_17 : bd 11 11 x1_ := eqX fc_16 (bdT x1_) kb_11 (by decide)
              refine lv_iload_n hx hb dX1_turn_100 rfl (lv_at hl 4 rfl) ?_
              subst hQ
              exact W.iret (v := x3_) hx hb hr (fun t ht hW => ⟨⟨_, _, rfl, trivial, q3_of g hK ht hW⟩, g.2.2.1.F ht⟩) g.2.2.1.2.2 dX1_turn_101
            · have fc_16 := neq_f c_16
              refine lv_iload hx hb dX1_turn_80 (lv_at hl 0 rfl) ?_
              refine lv_aload_n hx hb dX1_turn_82 rfl (lv_at hl 1 rfl) ?_
              refine g_getu (lo := 100) (hi := 103) (C := RX1) (T := TX1) (N := 18) hx hb hts (mc_ inX1) hown hK g ma0_ ka0_ (by decide) rfl 2 (by decide) rfl (hts _ (List.mem_cons_of_mem _ t_737)) (fun _ h9 => h9) rfl dX1_turn_83 (fun a_18 ma_18 ka_18 g => ?_)
              refine g_alenU hx hb hK g ma_18 ka_18 dX1_turn_86 (fun x_19 ex_19 bx_19 => ?_)
              refine lv_icmp_ge (tgt := 100) hx hb dX1_turn_87 (by decide) (fun c_20 => ?_) (fun c_20 => ?_)
              · have fc_20 := le_f c_20
                have b_21 : bd 3 134217741 y_14 := leR fc_20 bx_19 b_15 (by decide)
                refine lv_iload_n hx hb dX1_turn_100 rfl (lv_at hl 4 rfl) ?_
                subst hQ
                exact W.iret (v := x3_) hx hb hr (fun t ht hW => ⟨⟨_, _, rfl, trivial, q3_of g hK ht hW⟩, g.2.2.1.F ht⟩) g.2.2.1.2.2 dX1_turn_101
              · have fc_20 := nle_f c_20
                have b_22 : bd (-134217728) 699 y_14 := ltL fc_20 b_15 bx_19 (by decide)
                refine lv_iload hx hb dX1_turn_90 (lv_at hl 0 rfl) ?_
                refine lv_aload_n hx hb dX1_turn_92 rfl (lv_at hl 1 rfl) ?_
                refine g_getu (lo := 100) (hi := 103) (C := RX1) (T := TX1) (N := 18) hx hb hts (mc_ inX1) hown hK g ma0_ ka0_ (by decide) rfl 3 (by decide) rfl (hts _ (List.mem_cons_of_mem _ t_738)) (fun _ h9 => h9) rfl dX1_turn_93 (fun a_23 ma_23 ka_23 g => ?_)
                refine g_alenU hx hb hK g ma_23 ka_23 dX1_turn_96 (fun x_24 ex_24 bx_24 => ?_)
                refine lv_icmp_lt (tgt := 102) hx hb dX1_turn_97 (by decide) (fun c_25 => ?_) (fun c_25 => ?_)
                · have fc_25 := lt_f c_25
                  refine lv_iload_n hx hb dX1_turn_102 rfl (lv_at hl 2 rfl) ?_
                  refine lv_bipush (v := 9) hx hb dX1_turn_103 (by decide) ?_
                  have kb_9 : bd 9 9 (9 : Int32) := ⟨by decide, by decide⟩
                  refine lv_icmp_ne (tgt := 118) hx hb dX1_turn_105 (by decide) (fun c_26 => ?_) (fun c_26 => ?_)
                  · have fc_26 := neq_f c_26
                    refine lv_aload_n hx hb dX1_turn_118 rfl (lv_at hl 1 rfl) ?_
                    refine g_getk (C := RX1) (T := TX1) (N := 18) hx hb hts (mc_ inX1) hown hK g rfl 3 (by decide) rfl (hts _ (List.mem_cons_of_mem _ t_738)) (fun _ h9 => h9) 0 rfl dX1_turn_119 ?_
                    refine lv_iload hx hb dX1_turn_122 (lv_at hl 0 rfl) ?_
                    refine g_ialdU hx hb hK g ma_23 ka_23 (in_ok (by have h9 := b_22; unfold bd at h9; omega) (by omega)) dX1_turn_124 (fun x_27 => ?_)
                    subst hQ
                    exact W.iret (v := x_27) hx hb hr (fun t ht hW => ⟨⟨_, _, rfl, trivial, q3_of g hK ht hW⟩, g.2.2.1.F ht⟩) g.2.2.1.2.2 dX1_turn_125
                  · have fc_26 := eq_f c_26
                    have b_28 : bd 9 9 x1_ := eqX fc_26 (bdT x1_) kb_9 (by decide)
                    refine lv_aload_n hx hb dX1_turn_108 rfl (lv_at hl 1 rfl) ?_
                    refine g_getk (C := RX1) (T := TX1) (N := 18) hx hb hts (mc_ inX1) hown hK g rfl 2 (by decide) rfl (hts _ (List.mem_cons_of_mem _ t_737)) (fun _ h9 => h9) 1 rfl dX1_turn_109 ?_
                    refine lv_iload hx hb dX1_turn_112 (lv_at hl 0 rfl) ?_
                    refine g_ialdU hx hb hK g ma_18 ka_18 (in_ok (by have h9 := b_22; unfold bd at h9; omega) (by omega)) dX1_turn_114 (fun x_29 => ?_)
                    refine lv_goto (tgt := 125) hx hb dX1_turn_115 (by decide) ?_
                    subst hQ
                    exact W.iret (v := x_29) hx hb hr (fun t ht hW => ⟨⟨_, _, rfl, trivial, q3_of g hK ht hW⟩, g.2.2.1.F ht⟩) g.2.2.1.2.2 dX1_turn_125
                · have fc_25 := nlt_f c_25
                  have b_30 : bd 3 699 x_24 := leL fc_25 bx_24 b_22 (by decide)
                  have b_31 : bd 3 699 y_14 := leR fc_25 bx_24 b_22 (by decide)
                  refine lv_iload_n hx hb dX1_turn_100 rfl (lv_at hl 4 rfl) ?_
                  subst hQ
                  exact W.iret (v := x3_) hx hb hr (fun t ht hW => ⟨⟨_, _, rfl, trivial, q3_of g hK ht hW⟩, g.2.2.1.F ht⟩) g.2.2.1.2.2 dX1_turn_101
          · have fc_9 := nlt_f c_9
            refine lv_aload_n hx hb dX1_turn_53 rfl (lv_at hl 0 rfl) ?_
            refine lv_iconst (v := 2) hx hb dX1_turn_54 (by decide) ?_
            have kb_2 : bd 2 2 (2 : Int32) := ⟨by decide, by decide⟩
            refine g_put (C := RX1) (T := TX1) (N := 18) hx hb hts (mc_ inX1) tyX1 tyX1_ok nmX1 hown hK g ma0_ ka0_ (by decide) rfl 15 (by decide) (hts _ (List.mem_cons_of_mem _ t_750)) (fun _ h9 => h9) rfl rfl (okV_i (bd_sub kb_2 (by decide))) rfl rfl (by decide) (Or.inr (Or.inl (by decide))) (fx' := []) rfl dX1_turn_55 (fun f H locs g => ?_)
            refine lv_aload_n hx hb dX1_turn_58 rfl (lv_at hl 0 rfl) ?_
            refine lv_ldc2 (v := 19540422) hx hb hown (hts _ (List.mem_cons_of_mem _ t_1580)) dX1_turn_59 ?_
            refine g_put (C := RX1) (T := TX1) (N := 18) hx hb hts (mc_ inX1) tyX1 tyX1_ok nmX1 hown hK g ma0_ ka0_ (by decide) rfl 17 (by decide) (hts _ (List.mem_cons_of_mem _ t_754)) (fun _ h9 => h9) rfl rfl okV_l rfl rfl (by decide) (Or.inr (Or.inl (by decide))) (fx' := [(1, 15, a0_, .int 2)]) rfl dX1_turn_62 (fun f H locs g => ?_)
            refine lv_iconst (v := 0) hx hb dX1_turn_65 (by decide) ?_
            subst hQ
            exact W.iret (v := 0) hx hb hr (fun t ht hW => ⟨⟨_, _, rfl, trivial, q3_of g hK ht hW⟩, g.2.2.1.F ht⟩) g.2.2.1.2.2 dX1_turn_66
      · have fc_3 := eq_f c_3
        have b_32 : bd 8 8 x1_ := eqX fc_3 (bdT x1_) kb_8 (by decide)
        refine lv_iload_n hx hb dX1_turn_31 rfl (lv_at hl 3 rfl) ?_
        have kb_0 : bd 0 0 (0 : Int32) := ⟨by decide, by decide⟩
        refine lv_if_ne (tgt := 39) hx hb dX1_turn_32 (by decide) (fun c_33 => ?_) (fun c_33 => ?_)
        · have fc_33 := neq_f c_33
          refine lv_iconst (v := 1) hx hb dX1_turn_39 (by decide) ?_
          subst hQ
          exact W.iret (v := 1) hx hb hr (fun t ht hW => ⟨⟨_, _, rfl, trivial, q3_of g hK ht hW⟩, g.2.2.1.F ht⟩) g.2.2.1.2.2 dX1_turn_40
        · have fc_33 := eq_f c_33
          have b_34 : bd 0 0 x3_ := eqX fc_33 (bdT x3_) kb_0 (by decide)
          refine lv_iconst (v := 0) hx hb dX1_turn_35 (by decide) ?_
          refine lv_goto (tgt := 40) hx hb dX1_turn_36 (by decide) ?_
          subst hQ
          exact W.iret (v := 0) hx hb hr (fun t ht hW => ⟨⟨_, _, rfl, trivial, q3_of g hK ht hW⟩, g.2.2.1.F ht⟩) g.2.2.1.2.2 dX1_turn_40
    · have fc_2 := eq_f c_2
      have b_35 : bd 7 7 x1_ := eqX fc_2 (bdT x1_) kb_7 (by decide)
      refine lv_iload_n hx hb dX1_turn_15 rfl (lv_at hl 3 rfl) ?_
      have kb_0 : bd 0 0 (0 : Int32) := ⟨by decide, by decide⟩
      refine lv_if_ne (tgt := 23) hx hb dX1_turn_16 (by decide) (fun c_36 => ?_) (fun c_36 => ?_)
      · have fc_36 := neq_f c_36
        refine lv_iconst (v := 0) hx hb dX1_turn_23 (by decide) ?_
        subst hQ
        exact W.iret (v := 0) hx hb hr (fun t ht hW => ⟨⟨_, _, rfl, trivial, q3_of g hK ht hW⟩, g.2.2.1.F ht⟩) g.2.2.1.2.2 dX1_turn_24
      · have fc_36 := eq_f c_36
        have b_37 : bd 0 0 x3_ := eqX fc_36 (bdT x3_) kb_0 (by decide)
        refine lv_iconst (v := 1) hx hb dX1_turn_19 (by decide) ?_
        refine lv_goto (tgt := 24) hx hb dX1_turn_20 (by decide) ?_
        subst hQ
        exact W.iret (v := 1) hx hb hr (fun t ht hW => ⟨⟨_, _, rfl, trivial, q3_of g hK ht hW⟩, g.2.2.1.F ht⟩) g.2.2.1.2.2 dX1_turn_24
  · have fc_1 := eq_f c_1
    have b_38 : bd 6 6 x1_ := eqX fc_1 (bdT x1_) kb_6 (by decide)
    refine lv_iload_n hx hb dX1_turn_6 rfl (lv_at hl 3 rfl) ?_
    refine lv_ineg hx hb dX1_turn_7 ?_
    refine lv_topi (fun y_39 ey_39 => ?_)
    subst hQ
    exact W.iret (v := y_39) hx hb hr (fun t ht hW => ⟨⟨_, _, rfl, trivial, q3_of g hK ht hW⟩, g.2.2.1.F ht⟩) g.2.2.1.2.2 dX1_turn_8
