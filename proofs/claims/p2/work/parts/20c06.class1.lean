set_option maxHeartbeats 4000000 in
set_option maxRecDepth 100000 in
theorem r_X0_closeParts (l : Launch) (dC : Nat → ClassId) (dI : Nat → Nat → Nat) (L : List Nat) (kd : Nat → Nat) (tys : List (ClassId × FieldType)) (f0 : Nat → va_E) (sz : Nat) (hWT : WT L kd tys f0) (a0_ : Nat) (ma0_ : a0_ ∈ L) (ka0_ : kd a0_ = 0) (x1_ : Int32) (q0_ : Nat) (mq0_ : q0_ ∈ L) (kq0_ : kd q0_ = 7) (hfx : Fs L kd f0 [(0, 2, a0_, .ref q0_)]) : Met l yX0_closeParts (.code yX0_closeParts cX0_closeParts 7 none :: lw_g) ({ frames := 1, cells := 0, slots := 0, locals := 23 }) (va_Pc [.ref a0_, .int x1_] (P3 (dC, dI) L tys f0 sz)) (va_Qv (fun (f : Nat → va_E) => (True)) (Q3 (dC, dI) L kd tys [(0, 8), (0, 10), (0, 11), (0, 12), (7, 6), (8, 6), (8, 8), (8, 9)] [115, 138, 139] f0 sz) (pA L sz)) 0 0 (pA L sz) := by
  refine Met.ofW (cc := cX0_closeParts) (maxL := 7) (ret := none) (by decide) rfl ?_
  intro p e s m args below meth c s₁ B hml hv
  obtain ⟨rfl, hsz, hP, hK, hD0⟩ := hv
  have hx := B.exec
  have hb := B.bytes
  have hr := B.returns
  have hts := atoms_spec (ws := (.code yX0_closeParts cX0_closeParts 7 none :: lw_g)) B.pre
  have hown : s.vm.findClass RX0 = some m.cls := findClass_of_methodNamed B.named
  have hlocks := B.notSynchronized
  subst hsz
  have g : G3 (dC, dI) L kd tys s f0 [(0, 8), (0, 10), (0, 11), (0, 12), (7, 6), (8, 6), (8, 8), (8, 9)] [115, 138, 139] f0 s.heap [] [(0, 2, a0_, .ref q0_)] := G3.start hP hD0 hWT hfx
  have hl := lv_entry ([.ref a0_, .int x1_]) (n := 7) (Nat.le_of_ble_eq_true rfl)
  rw [lg_entry_eq]
  generalize (lg_sl ([.ref a0_, .int x1_]) ++ List.replicate (7 - (lg_sl ([.ref a0_, .int x1_])).length) Slot.unset).toArray = ls at hl ⊢
  have hl : lv_has ls 7 [(0, .ref a0_), (1, .int x1_)] := hl
  refine W_q (fun Q hQ => ?_)
  refine lv_iconst (v := 1) hx hb dX0_closeParts_0 (by decide) ?_
  refine lv_istore_n (lv' := [(2, .int 1), (0, .ref a0_), (1, .int x1_)]) hx hb dX0_closeParts_1 rfl hl (by decide) rfl (fun ls hl => ?_)
  refine lv_iconst (v := 0) hx hb dX0_closeParts_2 (by decide) ?_
  refine lv_istore_n (lv' := [(3, .int 0), (2, .int 1), (0, .ref a0_), (1, .int x1_)]) hx hb dX0_closeParts_3 rfl hl (by decide) rfl (fun ls hl => ?_)
  have loop_1 : ∀ (n : Nat) (v4_3 : Int32) (v4_2 : Int32), bd 0 300 v4_3 → bd 0 1 v4_2 → (300 - v4_3.toInt < (n : Int)) → ∀ (f : Nat → va_E) (H : Heap) (locs : List Loc) (ls : Array Slot), G3 (dC, dI) L kd tys s f0 [(0, 8), (0, 10), (0, 11), (0, 12), (7, 6), (8, 6), (8, 8), (8, 9)] [115, 138, 139] f H locs [(0, 2, a0_, .ref q0_)] → lv_has ls 7 [(3, .int v4_3), (2, .int v4_2), (0, .ref a0_), (1, .int x1_)] → W p l e ({ frames := 1, cells := 0, slots := 0, locals := 23 } : Room) s m [.ref a0_, .int x1_].toArray below meth c H locs 0 0 Q (F0 m 4 ls []) := by
    intro n4
    induction n4 with
    | zero =>
      intro v4_3 v4_2 bv4_3 bv4_2 hm4 f H locs ls g  hl
      exact absurd hm4 (by have h9_v4_3 := bv4_3; unfold bd at h9_v4_3; have h9_v4_2 := bv4_2; unfold bd at h9_v4_2; omega)
    | succ n4 ih4 =>
      intro v4_3 v4_2 bv4_3 bv4_2 hm4 f H locs ls g  hl
      refine lv_iload_n hx hb dX0_closeParts_4 rfl (lv_at hl 0 rfl) ?_
      refine lv_sipush (v := 300) hx hb dX0_closeParts_5 (by decide) ?_
      have kb_300 : bd 300 300 (300 : Int32) := ⟨by decide, by decide⟩
      refine lv_icmp_ge (tgt := 251) hx hb dX0_closeParts_8 (by decide) (fun c_2 => ?_) (fun c_2 => ?_)
      · have fc_2 := le_f c_2
        have b_3 : bd 300 300 v4_3 := leR fc_2 kb_300 bv4_3 (by decide)
        subst hQ
        exact W.vret hx hb hr (fun t ht hW => ⟨⟨_, rfl, trivial, q3_of g hK ht hW⟩, g.2.2.1.F ht⟩) g.2.2.1.2.2 dX0_closeParts_251
      · have fc_2 := nle_f c_2
        have b_4 : bd 0 299 v4_3 := ltL fc_2 bv4_3 kb_300 (by decide)
        refine lv_iload_n hx hb dX0_closeParts_11 rfl (lv_at hl 1 rfl) ?_
        have kb_0 : bd 0 0 (0 : Int32) := ⟨by decide, by decide⟩
        refine lv_if_eq (tgt := 251) hx hb dX0_closeParts_12 (by decide) (fun c_5 => ?_) (fun c_5 => ?_)
        · have fc_5 := eq_f c_5
          have b_6 : bd 0 0 v4_2 := eqX fc_5 bv4_2 kb_0 (by decide)
          subst hQ
          exact W.vret hx hb hr (fun t ht hW => ⟨⟨_, rfl, trivial, q3_of g hK ht hW⟩, g.2.2.1.F ht⟩) g.2.2.1.2.2 dX0_closeParts_251
        · have fc_5 := neq_f c_5
          have b_7 : bd 1 1 v4_2 := neX fc_5 bv4_2 kb_0 (by decide)
          refine lv_aload_n hx hb dX0_closeParts_15 rfl (lv_at hl 2 rfl) ?_
          refine g_geti (C := RX0) (T := TX0) (N := 14) hx hb hts (mc_ inX0) hown hK g ma0_ ka0_ (by decide) rfl 8 (by decide) rfl (hts _ (List.mem_cons_of_mem _ t_381)) (fun _ h9 => h9) rfl dX0_closeParts_16 (fun x_8 bx_8 g => ?_)
          refine lv_if_le (tgt := 251) hx hb dX0_closeParts_19 (by decide) (fun c_9 => ?_) (fun c_9 => ?_)
          · have fc_9 := le_f c_9
            have b_10 : bd 0 0 x_8 := leL fc_9 bx_8 kb_0 (by decide)
            subst hQ
            exact W.vret hx hb hr (fun t ht hW => ⟨⟨_, rfl, trivial, q3_of g hK ht hW⟩, g.2.2.1.F ht⟩) g.2.2.1.2.2 dX0_closeParts_251
          · have fc_9 := nle_f c_9
            have b_11 : bd 1 300 x_8 := ltR fc_9 kb_0 bx_8 (by decide)
            refine lv_aload_n hx hb dX0_closeParts_22 rfl (lv_at hl 2 rfl) ?_
            refine g_getr (K := 110) (C := RX0) (T := TX0) (N := 14) hx hb hts (mc_ inX0) hown hK g ma0_ ka0_ (by decide) rfl 3 (by decide) rfl (hts _ (List.mem_cons_of_mem _ t_376)) (fun _ h9 => h9) rfl dX0_closeParts_23 (fun a_12 ma_12 ka_12 g => ?_)
            refine lv_aload_n hx hb dX0_closeParts_26 rfl (lv_at hl 2 rfl) ?_
            refine g_getk (C := RX0) (T := TX0) (N := 14) hx hb hts (mc_ inX0) hown hK g rfl 8 (by decide) rfl (hts _ (List.mem_cons_of_mem _ t_381)) (fun _ h9 => h9) 1 rfl dX0_closeParts_27 ?_
            refine lv_iconst (v := 1) hx hb dX0_closeParts_30 (by decide) ?_
            have kb_1 : bd 1 1 (1 : Int32) := ⟨by decide, by decide⟩
            refine lv_isub hx hb dX0_closeParts_31 ?_
            refine lv_topi (fun y_13 ey_13 => ?_)
            have ty_13 := sub_bd ey_13 b_11 kb_1 (by decide)
            have b_14 : bd 0 299 y_13 := sub_rg ty_13 b_11 kb_1 (by decide)
            refine g_iald hx hb hK g ma_12 ka_12 (by decide) rfl (in_bd b_14 (by decide)) dX0_closeParts_32 (fun x_15 bx_15 cx_15 => ?_)
            refine lv_istore (lv' := [(4, .int x_15), (3, .int v4_3), (2, .int v4_2), (0, .ref a0_), (1, .int x1_)]) hx hb dX0_closeParts_33 hl (by decide) rfl (fun ls hl => ?_)
            refine lv_iload hx hb dX0_closeParts_35 (lv_at hl 0 rfl) ?_
            refine lv_bipush (v := 6) hx hb dX0_closeParts_37 (by decide) ?_
            have kb_6 : bd 6 6 (6 : Int32) := ⟨by decide, by decide⟩
            refine lv_icmp_eq (tgt := 49) hx hb dX0_closeParts_39 (by decide) (fun c_16 => ?_) (fun c_16 => ?_)
            · have fc_16 := eq_f c_16
              have b_17 : bd 6 6 x_15 := eqX fc_16 (bdT x_15) kb_6 (by decide)
              refine lv_iconst (v := 1) hx hb dX0_closeParts_49 (by decide) ?_
              refine lv_goto (tgt := 54) hx hb dX0_closeParts_50 (by decide) ?_
              refine lv_istore (lv' := [(5, .int 1), (4, .int x_15), (3, .int v4_3), (2, .int v4_2), (0, .ref a0_), (1, .int x1_)]) hx hb dX0_closeParts_54 hl (by decide) rfl (fun ls hl => ?_)
              refine lv_iload hx hb dX0_closeParts_56 (lv_at hl 0 rfl) ?_
              refine lv_if_ne (tgt := 70) hx hb dX0_closeParts_58 (by decide) (fun c_ => ?_) (fun c_ => absurd c_ (by decide))
              refine lv_iconst (v := 1) hx hb dX0_closeParts_70 (by decide) ?_
              refine lv_goto (tgt := 75) hx hb dX0_closeParts_71 (by decide) ?_
              refine lv_istore_n (lv' := [(2, .int 1), (5, .int 1), (4, .int x_15), (3, .int v4_3), (0, .ref a0_), (1, .int x1_)]) hx hb dX0_closeParts_75 rfl hl (by decide) rfl (fun ls hl => ?_)
              refine lv_iload_n hx hb dX0_closeParts_76 rfl (lv_at hl 0 rfl) ?_
              refine lv_if_eq (tgt := 245) hx hb dX0_closeParts_77 (by decide) (fun c_ => absurd c_ (by decide)) (fun c_ => ?_)
              refine lv_aload_n hx hb dX0_closeParts_80 rfl (lv_at hl 4 rfl) ?_
              refine lv_dup hx hb dX0_closeParts_81 rfl ?_
              refine g_getk (C := RX0) (T := TX0) (N := 14) hx hb hts (mc_ inX0) hown hK g rfl 8 (by decide) rfl (hts _ (List.mem_cons_of_mem _ t_381)) (fun _ h9 => h9) 1 rfl dX0_closeParts_82 ?_
              refine lv_iconst (v := 1) hx hb dX0_closeParts_85 (by decide) ?_
              refine lv_isub hx hb dX0_closeParts_86 ?_
              refine lv_topi (fun y_18 ey_18 => ?_)
              obtain rfl : y_13 = y_18 := ey_13.trans ey_18.symm
              refine g_put (C := RX0) (T := TX0) (N := 14) hx hb hts (mc_ inX0) tyX0 tyX0_ok nmX0 hown hK g ma0_ ka0_ (by decide) rfl 8 (by decide) (hts _ (List.mem_cons_of_mem _ t_381)) (fun _ h9 => h9) rfl rfl (okV_i (bd_sub b_14 (by decide))) rfl rfl (by decide) (Or.inr (Or.inl (by decide))) (fx' := [(0, 3, a0_, .ref a_12), (0, 2, a0_, .ref q0_)]) rfl dX0_closeParts_87 (fun f H locs hM_19 g => ?_)
              refine lv_aload_n hx hb dX0_closeParts_90 rfl (lv_at hl 4 rfl) ?_
              refine g_calli (va_runV (As := []) (rest := []) ⟨hx, hb, hml, hown, hts⟩ (r_X0_takeHeight l dC dI L kd tys f H.size g.2.2.2.1 a0_ ma0_ ka0_) (cwV 0 hts (gV_ t_1199 t_1201 t_16 t_190 t_1202) rfl rfl rfl (by decide +kernel) ⟨(Nat.le_of_ble_eq_true rfl), (Nat.le_of_ble_eq_true rfl)⟩) (pre3V g hK ma0_ ka0_ (by decide) (q := (RX0, TX0, 14)) rfl) rfl rfl hl.1 rfl (lv_room (Nat.le_of_ble_eq_true rfl)) dX0_closeParts_91 ⟨(Nat.le_of_ble_eq_true rfl), (Nat.le_of_ble_eq_true rfl)⟩) g hK (by decide) (by decide) (fx' := [(0, 8, a0_, .int y_13), (0, 3, a0_, .ref a_12), (0, 2, a0_, .ref q0_)]) rfl (fun r_20 fr_20 H locs hp hMr_20 g => ?_)
              obtain ⟨x_21, h_22, hF_23⟩ := hp
              have g := g.more hF_23
              refine lv_istore (lv' := [(6, .int r_20), (2, .int 1), (5, .int 1), (4, .int x_15), (3, .int v4_3), (0, .ref a0_), (1, .int x1_)]) hx hb dX0_closeParts_94 hl (by decide) rfl (fun ls hl => ?_)
              refine lv_iload hx hb dX0_closeParts_96 (lv_at hl 2 rfl) ?_
              refine lv_if_eq (tgt := 136) hx hb dX0_closeParts_98 (by decide) (fun c_ => absurd c_ (by decide)) (fun c_ => ?_)
              refine lv_aload_n hx hb dX0_closeParts_101 rfl (lv_at hl 5 rfl) ?_
              refine lv_dup hx hb dX0_closeParts_102 rfl ?_
              refine g_geti (C := RX0) (T := TX0) (N := 14) hx hb hts (mc_ inX0) hown hK g ma0_ ka0_ (by decide) rfl 11 (by decide) rfl (hts _ (List.mem_cons_of_mem _ t_384)) (fun _ h9 => h9) rfl dX0_closeParts_103 (fun x_24 bx_24 g => ?_)
              refine lv_iconst (v := 1) hx hb dX0_closeParts_106 (by decide) ?_
              refine lv_isub hx hb dX0_closeParts_107 ?_
              refine lv_topi (fun y_25 ey_25 => ?_)
              refine g_put (C := RX0) (T := TX0) (N := 14) hx hb hts (mc_ inX0) tyX0 tyX0_ok nmX0 hown hK g ma0_ ka0_ (by decide) rfl 11 (by decide) (hts _ (List.mem_cons_of_mem _ t_384)) (fun _ h9 => h9) rfl rfl (okV_i (bdT y_25)) rfl rfl (by decide) (Or.inr (Or.inl (by decide))) (fx' := [(0, 10, a0_, .int x_21), (0, 8, a0_, .int y_13), (0, 3, a0_, .ref a_12), (0, 2, a0_, .ref q0_)]) rfl dX0_closeParts_108 (fun f H locs hM_26 g => ?_)
              refine lv_aload_n hx hb dX0_closeParts_111 rfl (lv_at hl 5 rfl) ?_
              refine g_getk (C := RX0) (T := TX0) (N := 14) hx hb hts (mc_ inX0) hown hK g rfl 2 (by decide) rfl (hts _ (List.mem_cons_of_mem _ t_375)) (fun _ h9 => h9) 4 rfl dX0_closeParts_112 ?_
              refine lv_iload hx hb dX0_closeParts_115 (lv_at hl 3 rfl) ?_
              refine lv_bipush (v := 6) hx hb dX0_closeParts_117 (by decide) ?_
              refine lv_icmp_ne (tgt := 127) hx hb dX0_closeParts_119 (by decide) (fun c_27 => ?_) (fun c_27 => ?_)
              · have fc_27 := neq_f c_27
                have b_28 : bd 7 5 x_15 := neX fc_27 b_17 kb_6 (by decide)
                exact bd_no b_28 (by decide)
              · have fc_27 := eq_f c_27
                refine lv_bipush (v := 6) hx hb dX0_closeParts_122 (by decide) ?_
                refine lv_goto (tgt := 129) hx hb dX0_closeParts_124 (by decide) ?_
                refine lv_iconst (v := 0) hx hb dX0_closeParts_129 (by decide) ?_
                refine g_callv (va_runV (As := [.int 6, .int 0]) (rest := []) ⟨hx, hb, hml, hown, hts⟩ (r_X7_emit l dC dI L kd tys f H.size g.2.2.2.1 q0_ mq0_ kq0_ 6 0) (cwV 2 hts (gV_ t_1203 t_1204 t_1205 t_191 t_1206) rfl rfl rfl (by decide +kernel) ⟨(Nat.le_of_ble_eq_true rfl), (Nat.le_of_ble_eq_true rfl)⟩) (pre3V g hK mq0_ kq0_ (by decide) (q := (RX7, TX7, 19)) rfl) rfl rfl hl.1 rfl (lv_room (Nat.le_of_ble_eq_true rfl)) dX0_closeParts_130 ⟨(Nat.le_of_ble_eq_true rfl), (Nat.le_of_ble_eq_true rfl)⟩) g hK (by decide) (by decide) (fx' := [(0, 11, a0_, .int y_25), (0, 10, a0_, .int x_21), (0, 8, a0_, .int y_13), (0, 3, a0_, .ref a_12), (0, 2, a0_, .ref q0_)]) rfl (fun fr_29 H locs hp hMr_29 g => ?_)
                obtain ⟨x_30, h_31, hF_32⟩ := hp
                have g := g.more hF_32
                refine lv_goto (tgt := 191) hx hb dX0_closeParts_133 (by decide) ?_
                refine lv_iconst (v := 1) hx hb dX0_closeParts_191 (by decide) ?_
                refine lv_iload hx hb dX0_closeParts_192 (lv_at hl 2 rfl) ?_
                refine lv_if_eq (tgt := 202) hx hb dX0_closeParts_194 (by decide) (fun c_ => absurd c_ (by decide)) (fun c_ => ?_)
                refine lv_iload hx hb dX0_closeParts_197 (lv_at hl 0 rfl) ?_
                refine lv_goto (tgt := 211) hx hb dX0_closeParts_199 (by decide) ?_
                refine lv_iadd hx hb dX0_closeParts_211 ?_
                refine lv_topi (fun y_33 ey_33 => ?_)
                refine lv_istore (lv' := [(6, .int y_33), (2, .int 1), (5, .int 1), (4, .int x_15), (3, .int v4_3), (0, .ref a0_), (1, .int x1_)]) hx hb dX0_closeParts_212 hl (by decide) rfl (fun ls hl => ?_)
                refine lv_aload_n hx hb dX0_closeParts_214 rfl (lv_at hl 5 rfl) ?_
                refine lv_iload hx hb dX0_closeParts_215 (lv_at hl 0 rfl) ?_
                refine g_callv (va_runV (As := [.int y_33]) (rest := []) ⟨hx, hb, hml, hown, hts⟩ (r_X0_addWhole l dC dI L kd tys fr_29 H.size g.2.2.2.1 a0_ ma0_ ka0_ y_33) (cwV 1 hts (gV_ t_1211 t_1213 t_17 t_190 t_1214) rfl rfl rfl (by decide +kernel) ⟨(Nat.le_of_ble_eq_true rfl), (Nat.le_of_ble_eq_true rfl)⟩) (pre3V g hK ma0_ ka0_ (by decide) (q := (RX0, TX0, 14)) rfl) rfl rfl hl.1 rfl (lv_room (Nat.le_of_ble_eq_true rfl)) dX0_closeParts_217 ⟨(Nat.le_of_ble_eq_true rfl), (Nat.le_of_ble_eq_true rfl)⟩) g hK (by decide) (by decide) (fx' := [(7, 6, q0_, .int x_30), (0, 11, a0_, .int y_25), (0, 8, a0_, .int y_13), (0, 3, a0_, .ref a_12), (0, 2, a0_, .ref q0_)]) rfl (fun fr_34 H locs hp hMr_34 g => ?_)
                obtain ⟨x_35, h_36, hF_37⟩ := hp
                have g := g.more hF_37
                refine lv_iload hx hb dX0_closeParts_220 (lv_at hl 0 rfl) ?_
                refine lv_bipush (v := 12) hx hb dX0_closeParts_222 (by decide) ?_
                have kb_12 : bd 12 12 (12 : Int32) := ⟨by decide, by decide⟩
                refine lv_icmp_le (tgt := 245) hx hb dX0_closeParts_224 (by decide) (fun c_38 => ?_) (fun c_38 => ?_)
                · have fc_38 := le_f c_38
                  have b_39 : bd (-2147483648) 12 y_33 := leL fc_38 (bdT y_33) kb_12 (by decide)
                  obtain ⟨y_40, ey_40⟩ : ∃ z : Int32, z = v4_3 + 1 := ⟨_, rfl⟩
                  refine lv_iinc (v := y_40) (lv' := [(3, .int y_40), (6, .int y_33), (2, .int 1), (5, .int 1), (4, .int x_15), (0, .ref a0_), (1, .int x1_)]) hx hb dX0_closeParts_245 hl (k := 4) rfl (by rw [ey_40]; rfl) (by decide) rfl (fun ls hl => ?_)
                  have ty_40 := add_bd ey_40 b_4 kb_1 (by decide)
                  have b_41 : bd 1 300 y_40 := add_rg ty_40 b_4 kb_1 (by decide)
                  refine lv_goto (tgt := 4) hx hb dX0_closeParts_248 (by decide) ?_
                  have hl9 := lv_sub hl [0, 2, 5, 6] (by rfl : lv_pick [(3, .int y_40), (6, .int y_33), (2, .int 1), (5, .int 1), (4, .int x_15), (0, .ref a0_), (1, .int x1_)] [0, 2, 5, 6] = [(3, .int y_40), (2, .int 1), (0, .ref a0_), (1, .int x1_)])
                  have g9 := g.sub (fx' := [(0, 2, a0_, .ref q0_)]) [6] rfl
                  exact ih4  y_40 1 (bd_sub b_41 (by decide)) (bd_sub kb_1 (by decide)) (by have h9_0 := b_41; unfold bd at h9_0; have h9_1 := bv4_2; unfold bd at h9_1; have h9_2 := bv4_3; unfold bd at h9_2; have h9_3 := kb_0; unfold bd at h9_3; have h9_4 := kb_1; unfold bd at h9_4; have h9_5 := kb_12; unfold bd at h9_5; have h9_6 := kb_300; unfold bd at h9_6; have h9_7 := kb_6; unfold bd at h9_7; omega) _ _ _ _ g9  hl9
                · have fc_38 := nle_f c_38
                  have b_42 : bd 13 2147483647 y_33 := ltR fc_38 kb_12 (bdT y_33) (by decide)
                  refine lv_aload_n hx hb dX0_closeParts_227 rfl (lv_at hl 5 rfl) ?_
                  refine g_getr (K := 8) (C := RX0) (T := TX0) (N := 14) hx hb hts (mc_ inX0) hown hK g ma0_ ka0_ (by decide) rfl 0 (by decide) rfl (hts _ (List.mem_cons_of_mem _ t_373)) (fun _ h9 => h9) rfl dX0_closeParts_228 (fun a_43 ma_43 ka_43 g => ?_)
                  refine lv_bipush (v := 7) hx hb dX0_closeParts_231 (by decide) ?_
                  refine lv_aload_n hx hb dX0_closeParts_233 rfl (lv_at hl 5 rfl) ?_
                  refine g_getr (K := 111) (C := RX0) (T := TX0) (N := 14) hx hb hts (mc_ inX0) hown hK g ma0_ ka0_ (by decide) rfl 4 (by decide) rfl (hts _ (List.mem_cons_of_mem _ t_377)) (fun _ h9 => h9) rfl dX0_closeParts_234 (fun a_44 ma_44 ka_44 g => ?_)
                  refine lv_aload_n hx hb dX0_closeParts_237 rfl (lv_at hl 5 rfl) ?_
                  refine g_getk (C := RX0) (T := TX0) (N := 14) hx hb hts (mc_ inX0) hown hK g rfl 8 (by decide) rfl (hts _ (List.mem_cons_of_mem _ t_381)) (fun _ h9 => h9) 6 rfl dX0_closeParts_238 ?_
                  refine g_iald hx hb hK g ma_44 ka_44 (by decide) rfl (in_bd b_14 (by decide)) dX0_closeParts_241 (fun x_45 bx_45 cx_45 => ?_)
                  have kb_7 : bd 7 7 (7 : Int32) := ⟨by decide, by decide⟩
                  refine g_callv (va_runV (As := [.int 7, .int x_45]) (rest := []) ⟨hx, hb, hml, hown, hts⟩ (r_X8_fail_10 l dC dI L kd tys fr_34 H.size g.2.2.2.1 a_43 ma_43 ka_43 7 kb_7 x_45) (cwV 2 hts (gV_ t_1215 t_1107 t_1108 t_184 t_1109) rfl rfl rfl (by decide +kernel) ⟨(Nat.le_of_ble_eq_true rfl), (Nat.le_of_ble_eq_true rfl)⟩) (pre3V g hK ma_43 ka_43 (by decide) (q := (RX8, TX8, 10)) rfl) rfl rfl hl.1 rfl (lv_room (Nat.le_of_ble_eq_true rfl)) dX0_closeParts_242 ⟨(Nat.le_of_ble_eq_true rfl), (Nat.le_of_ble_eq_true rfl)⟩) g hK (by decide) (by decide) (fx' := [(0, 4, a0_, .ref a_44), (0, 0, a0_, .ref a_43), (0, 12, a0_, .int 0), (0, 10, a0_, .int x_35), (7, 6, q0_, .int x_30), (0, 11, a0_, .int y_25), (0, 8, a0_, .int y_13), (0, 3, a0_, .ref a_12), (0, 2, a0_, .ref q0_)]) rfl (fun fr_46 H locs hp hMr_46 g => ?_)
                  obtain ⟨x_47, h_48, hF_49⟩ := hp
                  have g := g.more hF_49
                  obtain ⟨y_50, ey_50⟩ : ∃ z : Int32, z = v4_3 + 1 := ⟨_, rfl⟩
                  refine lv_iinc (v := y_50) (lv' := [(3, .int y_50), (6, .int y_33), (2, .int 1), (5, .int 1), (4, .int x_15), (0, .ref a0_), (1, .int x1_)]) hx hb dX0_closeParts_245 hl (k := 4) rfl (by rw [ey_50]; rfl) (by decide) rfl (fun ls hl => ?_)
                  have ty_50 := add_bd ey_50 b_4 kb_1 (by decide)
                  have b_51 : bd 1 300 y_50 := add_rg ty_50 b_4 kb_1 (by decide)
                  refine lv_goto (tgt := 4) hx hb dX0_closeParts_248 (by decide) ?_
                  have hl9 := lv_sub hl [0, 2, 5, 6] (by rfl : lv_pick [(3, .int y_50), (6, .int y_33), (2, .int 1), (5, .int 1), (4, .int x_15), (0, .ref a0_), (1, .int x1_)] [0, 2, 5, 6] = [(3, .int y_50), (2, .int 1), (0, .ref a0_), (1, .int x1_)])
                  have g9 := g.sub (fx' := [(0, 2, a0_, .ref q0_)]) [10] rfl
                  exact ih4  y_50 1 (bd_sub b_51 (by decide)) (bd_sub kb_1 (by decide)) (by have h9_0 := b_51; unfold bd at h9_0; have h9_1 := bv4_2; unfold bd at h9_1; have h9_2 := bv4_3; unfold bd at h9_2; have h9_3 := kb_0; unfold bd at h9_3; have h9_4 := kb_1; unfold bd at h9_4; have h9_5 := kb_12; unfold bd at h9_5; have h9_6 := kb_300; unfold bd at h9_6; have h9_7 := kb_6; unfold bd at h9_7; have h9_8 := kb_7; unfold bd at h9_8; omega) _ _ _ _ g9  hl9
            · have fc_16 := neq_f c_16
              refine lv_iload hx hb dX0_closeParts_42 (lv_at hl 0 rfl) ?_
              refine lv_bipush (v := 7) hx hb dX0_closeParts_44 (by decide) ?_
              have kb_7 : bd 7 7 (7 : Int32) := ⟨by decide, by decide⟩
              refine lv_icmp_ne (tgt := 53) hx hb dX0_closeParts_46 (by decide) (fun c_52 => ?_) (fun c_52 => ?_)
              · have fc_52 := neq_f c_52
                refine lv_iconst (v := 0) hx hb dX0_closeParts_53 (by decide) ?_
                refine lv_istore (lv' := [(5, .int 0), (4, .int x_15), (3, .int v4_3), (2, .int v4_2), (0, .ref a0_), (1, .int x1_)]) hx hb dX0_closeParts_54 hl (by decide) rfl (fun ls hl => ?_)
                refine lv_iload hx hb dX0_closeParts_56 (lv_at hl 0 rfl) ?_
                refine lv_if_ne (tgt := 70) hx hb dX0_closeParts_58 (by decide) (fun c_ => absurd c_ (by decide)) (fun c_ => ?_)
                refine lv_iload hx hb dX0_closeParts_61 (lv_at hl 1 rfl) ?_
                refine g_calli (va_runS (As := [.int x_15]) (rest := []) ⟨hx, hb, hml, hown, hts⟩ (r_X0_levelOf l dC dI L kd tys f H.size g.2.2.2.1 x_15) (va_cwS 1 hts (gS_ t_1191 t_1192 t_190 t_1193) rfl rfl rfl (by decide +kernel) ⟨(Nat.le_of_ble_eq_true rfl), (Nat.le_of_ble_eq_true rfl)⟩) (pre3S g hK) rfl rfl hl.1 rfl (lv_room (Nat.le_of_ble_eq_true rfl)) dX0_closeParts_63 ⟨(Nat.le_of_ble_eq_true rfl), (Nat.le_of_ble_eq_true rfl)⟩) g hK (by decide) (by decide) (fx' := [(0, 3, a0_, .ref a_12), (0, 8, a0_, .int x_8), (0, 2, a0_, .ref q0_)]) rfl (fun r_53 fr_53 H locs hp hMr_53 g => ?_)
                obtain ⟨h_54, -⟩ := hp
                refine lv_iload_n hx hb dX0_closeParts_66 rfl (lv_at hl 5 rfl) ?_
                refine lv_icmp_lt (tgt := 74) hx hb dX0_closeParts_67 (by decide) (fun c_55 => ?_) (fun c_55 => ?_)
                · have fc_55 := lt_f c_55
                  have b_56 : bd 1 2147483647 x1_ := ltR fc_55 h_54 (bdT x1_) (by decide)
                  refine lv_iconst (v := 0) hx hb dX0_closeParts_74 (by decide) ?_
                  refine lv_istore_n (lv' := [(2, .int 0), (5, .int 0), (4, .int x_15), (3, .int v4_3), (0, .ref a0_), (1, .int x1_)]) hx hb dX0_closeParts_75 rfl hl (by decide) rfl (fun ls hl => ?_)
                  refine lv_iload_n hx hb dX0_closeParts_76 rfl (lv_at hl 0 rfl) ?_
                  refine lv_if_eq (tgt := 245) hx hb dX0_closeParts_77 (by decide) (fun c_ => ?_) (fun c_ => absurd (by decide) c_)
                  obtain ⟨y_57, ey_57⟩ : ∃ z : Int32, z = v4_3 + 1 := ⟨_, rfl⟩
                  refine lv_iinc (v := y_57) (lv' := [(3, .int y_57), (2, .int 0), (5, .int 0), (4, .int x_15), (0, .ref a0_), (1, .int x1_)]) hx hb dX0_closeParts_245 hl (k := 3) rfl (by rw [ey_57]; rfl) (by decide) rfl (fun ls hl => ?_)
                  have ty_57 := add_bd ey_57 b_4 kb_1 (by decide)
                  have b_58 : bd 1 300 y_57 := add_rg ty_57 b_4 kb_1 (by decide)
                  refine lv_goto (tgt := 4) hx hb dX0_closeParts_248 (by decide) ?_
                  have hl9 := lv_sub hl [0, 1, 4, 5] (by rfl : lv_pick [(3, .int y_57), (2, .int 0), (5, .int 0), (4, .int x_15), (0, .ref a0_), (1, .int x1_)] [0, 1, 4, 5] = [(3, .int y_57), (2, .int 0), (0, .ref a0_), (1, .int x1_)])
                  have g9 := g.sub (fx' := [(0, 2, a0_, .ref q0_)]) [2] rfl
                  exact ih4  y_57 0 (bd_sub b_58 (by decide)) (bd_sub kb_0 (by decide)) (by have h9_0 := b_58; unfold bd at h9_0; have h9_1 := bv4_2; unfold bd at h9_1; have h9_2 := bv4_3; unfold bd at h9_2; have h9_3 := kb_0; unfold bd at h9_3; have h9_4 := kb_1; unfold bd at h9_4; have h9_5 := kb_300; unfold bd at h9_5; have h9_6 := kb_6; unfold bd at h9_6; have h9_7 := kb_7; unfold bd at h9_7; omega) _ _ _ _ g9  hl9
                · have fc_55 := nlt_f c_55
                  have b_59 : bd (-2147483648) 5 x1_ := leL fc_55 (bdT x1_) h_54 (by decide)
                  refine lv_iconst (v := 1) hx hb dX0_closeParts_70 (by decide) ?_
                  refine lv_goto (tgt := 75) hx hb dX0_closeParts_71 (by decide) ?_
                  refine lv_istore_n (lv' := [(2, .int 1), (5, .int 0), (4, .int x_15), (3, .int v4_3), (0, .ref a0_), (1, .int x1_)]) hx hb dX0_closeParts_75 rfl hl (by decide) rfl (fun ls hl => ?_)
                  refine lv_iload_n hx hb dX0_closeParts_76 rfl (lv_at hl 0 rfl) ?_
                  refine lv_if_eq (tgt := 245) hx hb dX0_closeParts_77 (by decide) (fun c_ => absurd c_ (by decide)) (fun c_ => ?_)
                  refine lv_aload_n hx hb dX0_closeParts_80 rfl (lv_at hl 4 rfl) ?_
                  refine lv_dup hx hb dX0_closeParts_81 rfl ?_
                  refine g_getk (C := RX0) (T := TX0) (N := 14) hx hb hts (mc_ inX0) hown hK g rfl 8 (by decide) rfl (hts _ (List.mem_cons_of_mem _ t_381)) (fun _ h9 => h9) 1 rfl dX0_closeParts_82 ?_
                  refine lv_iconst (v := 1) hx hb dX0_closeParts_85 (by decide) ?_
                  refine lv_isub hx hb dX0_closeParts_86 ?_
                  refine lv_topi (fun y_60 ey_60 => ?_)
                  obtain rfl : y_13 = y_60 := ey_13.trans ey_60.symm
                  refine g_put (C := RX0) (T := TX0) (N := 14) hx hb hts (mc_ inX0) tyX0 tyX0_ok nmX0 hown hK g ma0_ ka0_ (by decide) rfl 8 (by decide) (hts _ (List.mem_cons_of_mem _ t_381)) (fun _ h9 => h9) rfl rfl (okV_i (bd_sub b_14 (by decide))) rfl rfl (by decide) (Or.inr (Or.inl (by decide))) (fx' := [(0, 3, a0_, .ref a_12), (0, 2, a0_, .ref q0_)]) rfl dX0_closeParts_87 (fun f H locs hM_61 g => ?_)
                  refine lv_aload_n hx hb dX0_closeParts_90 rfl (lv_at hl 4 rfl) ?_
                  refine g_calli (va_runV (As := []) (rest := []) ⟨hx, hb, hml, hown, hts⟩ (r_X0_takeHeight l dC dI L kd tys f H.size g.2.2.2.1 a0_ ma0_ ka0_) (cwV 0 hts (gV_ t_1199 t_1201 t_16 t_190 t_1202) rfl rfl rfl (by decide +kernel) ⟨(Nat.le_of_ble_eq_true rfl), (Nat.le_of_ble_eq_true rfl)⟩) (pre3V g hK ma0_ ka0_ (by decide) (q := (RX0, TX0, 14)) rfl) rfl rfl hl.1 rfl (lv_room (Nat.le_of_ble_eq_true rfl)) dX0_closeParts_91 ⟨(Nat.le_of_ble_eq_true rfl), (Nat.le_of_ble_eq_true rfl)⟩) g hK (by decide) (by decide) (fx' := [(0, 8, a0_, .int y_13), (0, 3, a0_, .ref a_12), (0, 2, a0_, .ref q0_)]) rfl (fun r_62 fr_62 H locs hp hMr_62 g => ?_)
                  obtain ⟨x_63, h_64, hF_65⟩ := hp
                  have g := g.more hF_65
                  refine lv_istore (lv' := [(6, .int r_62), (2, .int 1), (5, .int 0), (4, .int x_15), (3, .int v4_3), (0, .ref a0_), (1, .int x1_)]) hx hb dX0_closeParts_94 hl (by decide) rfl (fun ls hl => ?_)
                  refine lv_iload hx hb dX0_closeParts_96 (lv_at hl 2 rfl) ?_
                  refine lv_if_eq (tgt := 136) hx hb dX0_closeParts_98 (by decide) (fun c_ => ?_) (fun c_ => absurd (by decide) c_)
                  refine lv_iload hx hb dX0_closeParts_136 (lv_at hl 3 rfl) ?_
                  refine lv_sipush (v := 205) hx hb dX0_closeParts_138 (by decide) ?_
                  have kb_205 : bd 205 205 (205 : Int32) := ⟨by decide, by decide⟩
                  refine lv_icmp_eq (tgt := 152) hx hb dX0_closeParts_141 (by decide) (fun c_66 => ?_) (fun c_66 => ?_)
                  · have fc_66 := eq_f c_66
                    have b_67 : bd 205 205 x_15 := eqX fc_66 (bdT x_15) kb_205 (by decide)
                    refine lv_aload_n hx hb dX0_closeParts_152 rfl (lv_at hl 5 rfl) ?_
                    refine g_getk (C := RX0) (T := TX0) (N := 14) hx hb hts (mc_ inX0) hown hK g rfl 2 (by decide) rfl (hts _ (List.mem_cons_of_mem _ t_375)) (fun _ h9 => h9) 3 rfl dX0_closeParts_153 ?_
                    refine lv_bipush (v := 8) hx hb dX0_closeParts_156 (by decide) ?_
                    refine lv_iconst (v := 0) hx hb dX0_closeParts_158 (by decide) ?_
                    refine g_callv (va_runV (As := [.int 8, .int 0]) (rest := []) ⟨hx, hb, hml, hown, hts⟩ (r_X7_emit l dC dI L kd tys fr_62 H.size g.2.2.2.1 q0_ mq0_ kq0_ 8 0) (cwV 2 hts (gV_ t_1203 t_1204 t_1205 t_191 t_1206) rfl rfl rfl (by decide +kernel) ⟨(Nat.le_of_ble_eq_true rfl), (Nat.le_of_ble_eq_true rfl)⟩) (pre3V g hK mq0_ kq0_ (by decide) (q := (RX7, TX7, 19)) rfl) rfl rfl hl.1 rfl (lv_room (Nat.le_of_ble_eq_true rfl)) dX0_closeParts_159 ⟨(Nat.le_of_ble_eq_true rfl), (Nat.le_of_ble_eq_true rfl)⟩) g hK (by decide) (by decide) (fx' := [(0, 10, a0_, .int x_63), (0, 8, a0_, .int y_13), (0, 3, a0_, .ref a_12), (0, 2, a0_, .ref q0_)]) rfl (fun fr_68 H locs hp hMr_68 g => ?_)
                    obtain ⟨x_69, h_70, hF_71⟩ := hp
                    have g := g.more hF_71
                    refine lv_aload_n hx hb dX0_closeParts_162 rfl (lv_at hl 5 rfl) ?_
                    refine g_getk (C := RX0) (T := TX0) (N := 14) hx hb hts (mc_ inX0) hown hK g rfl 2 (by decide) rfl (hts _ (List.mem_cons_of_mem _ t_375)) (fun _ h9 => h9) 4 rfl dX0_closeParts_163 ?_
                    refine lv_aload_n hx hb dX0_closeParts_166 rfl (lv_at hl 5 rfl) ?_
                    refine g_getr (K := 112) (C := RX0) (T := TX0) (N := 14) hx hb hts (mc_ inX0) hown hK g ma0_ ka0_ (by decide) rfl 5 (by decide) rfl (hts _ (List.mem_cons_of_mem _ t_378)) (fun _ h9 => h9) rfl dX0_closeParts_167 (fun a_72 ma_72 ka_72 g => ?_)
                    refine lv_aload_n hx hb dX0_closeParts_170 rfl (lv_at hl 5 rfl) ?_
                    refine g_getk (C := RX0) (T := TX0) (N := 14) hx hb hts (mc_ inX0) hown hK g rfl 8 (by decide) rfl (hts _ (List.mem_cons_of_mem _ t_381)) (fun _ h9 => h9) 3 rfl dX0_closeParts_171 ?_
                    refine g_iald hx hb hK g ma_72 ka_72 (by decide) rfl (in_bd b_14 (by decide)) dX0_closeParts_174 (fun x_73 bx_73 cx_73 => ?_)
                    refine g_callv (va_runV (As := [.int x_73]) (rest := []) ⟨hx, hb, hml, hown, hts⟩ (r_X7_leadHere l dC dI L kd tys fr_68 H.size g.2.2.2.1 q0_ mq0_ kq0_ x_73) (cwV 1 hts (gV_ t_1207 t_1208 t_1209 t_191 t_1210) rfl rfl rfl (by decide +kernel) ⟨(Nat.le_of_ble_eq_true rfl), (Nat.le_of_ble_eq_true rfl)⟩) (pre3V g hK mq0_ kq0_ (by decide) (q := (RX7, TX7, 19)) rfl) rfl rfl hl.1 rfl (lv_room (Nat.le_of_ble_eq_true rfl)) dX0_closeParts_175 ⟨(Nat.le_of_ble_eq_true rfl), (Nat.le_of_ble_eq_true rfl)⟩) g hK (by decide) (by decide) (fx' := [(0, 5, a0_, .ref a_72), (7, 6, q0_, .int x_69), (0, 10, a0_, .int x_63), (0, 8, a0_, .int y_13), (0, 3, a0_, .ref a_12), (0, 2, a0_, .ref q0_)]) rfl (fun fr_74 H locs hp hMr_74 g => ?_)
                    refine lv_goto (tgt := 191) hx hb dX0_closeParts_178 (by decide) ?_
                    refine lv_iconst (v := 1) hx hb dX0_closeParts_191 (by decide) ?_
                    refine lv_iload hx hb dX0_closeParts_192 (lv_at hl 2 rfl) ?_
                    refine lv_if_eq (tgt := 202) hx hb dX0_closeParts_194 (by decide) (fun c_ => ?_) (fun c_ => absurd (by decide) c_)
                    refine lv_iload hx hb dX0_closeParts_202 (lv_at hl 0 rfl) ?_
                    refine lv_aload_n hx hb dX0_closeParts_204 rfl (lv_at hl 5 rfl) ?_
                    refine g_calli (va_runV (As := []) (rest := [.int r_62, .int 1]) ⟨hx, hb, hml, hown, hts⟩ (r_X0_takeHeight l dC dI L kd tys fr_74 H.size g.2.2.2.1 a0_ ma0_ ka0_) (cwV 0 hts (gV_ t_1199 t_1201 t_16 t_190 t_1202) rfl rfl rfl (by decide +kernel) ⟨(Nat.le_of_ble_eq_true rfl), (Nat.le_of_ble_eq_true rfl)⟩) (pre3V g hK ma0_ ka0_ (by decide) (q := (RX0, TX0, 14)) rfl) rfl rfl hl.1 rfl (lv_room (Nat.le_of_ble_eq_true rfl)) dX0_closeParts_205 ⟨(Nat.le_of_ble_eq_true rfl), (Nat.le_of_ble_eq_true rfl)⟩) g hK (by decide) (by decide) (fx' := [(0, 5, a0_, .ref a_72), (7, 6, q0_, .int x_69), (0, 8, a0_, .int y_13), (0, 3, a0_, .ref a_12), (0, 2, a0_, .ref q0_)]) rfl (fun r_75 fr_75 H locs hp hMr_75 g => ?_)
                    obtain ⟨x_76, h_77, hF_78⟩ := hp
                    have g := g.more hF_78
                    refine va_mmax hx hb (hml.trans hl.1.symm) hown (hts _ (List.mem_cons_of_mem _ t_1194)) (hts _ (List.mem_cons_of_mem _ t_1041)) (hts _ (List.mem_cons_of_mem _ t_204)) (hts _ (List.mem_cons_of_mem _ t_1042)) (Nat.le_of_ble_eq_true rfl) (Nat.le_of_ble_eq_true rfl) (Nat.le_of_ble_eq_true rfl) (Nat.le_of_ble_eq_true rfl) dX0_closeParts_208 ?_
                    refine lv_topi (fun y_79 ey_79 => ?_)
                    have ty_79 : y_79.toInt = max r_62.toInt r_75.toInt := by rw [ey_79]; exact mmax_ok _ _
                    have b_80 : bd (-2147483648) 2147483647 y_79 := max_rg ty_79 (bdT r_62) (bdT r_75) (by decide)
                    refine lv_iadd hx hb dX0_closeParts_211 ?_
                    refine lv_topi (fun y_81 ey_81 => ?_)
                    refine lv_istore (lv' := [(6, .int y_81), (2, .int 1), (5, .int 0), (4, .int x_15), (3, .int v4_3), (0, .ref a0_), (1, .int x1_)]) hx hb dX0_closeParts_212 hl (by decide) rfl (fun ls hl => ?_)
                    refine lv_aload_n hx hb dX0_closeParts_214 rfl (lv_at hl 5 rfl) ?_
                    refine lv_iload hx hb dX0_closeParts_215 (lv_at hl 0 rfl) ?_
                    refine g_callv (va_runV (As := [.int y_81]) (rest := []) ⟨hx, hb, hml, hown, hts⟩ (r_X0_addWhole l dC dI L kd tys fr_75 H.size g.2.2.2.1 a0_ ma0_ ka0_ y_81) (cwV 1 hts (gV_ t_1211 t_1213 t_17 t_190 t_1214) rfl rfl rfl (by decide +kernel) ⟨(Nat.le_of_ble_eq_true rfl), (Nat.le_of_ble_eq_true rfl)⟩) (pre3V g hK ma0_ ka0_ (by decide) (q := (RX0, TX0, 14)) rfl) rfl rfl hl.1 rfl (lv_room (Nat.le_of_ble_eq_true rfl)) dX0_closeParts_217 ⟨(Nat.le_of_ble_eq_true rfl), (Nat.le_of_ble_eq_true rfl)⟩) g hK (by decide) (by decide) (fx' := [(0, 5, a0_, .ref a_72), (7, 6, q0_, .int x_69), (0, 8, a0_, .int y_13), (0, 3, a0_, .ref a_12), (0, 2, a0_, .ref q0_)]) rfl (fun fr_82 H locs hp hMr_82 g => ?_)
                    obtain ⟨x_83, h_84, hF_85⟩ := hp
                    have g := g.more hF_85
                    refine lv_iload hx hb dX0_closeParts_220 (lv_at hl 0 rfl) ?_
                    refine lv_bipush (v := 12) hx hb dX0_closeParts_222 (by decide) ?_
                    have kb_12 : bd 12 12 (12 : Int32) := ⟨by decide, by decide⟩
                    refine lv_icmp_le (tgt := 245) hx hb dX0_closeParts_224 (by decide) (fun c_86 => ?_) (fun c_86 => ?_)
                    · have fc_86 := le_f c_86
                      have b_87 : bd (-2147483648) 12 y_81 := leL fc_86 (bdT y_81) kb_12 (by decide)
                      obtain ⟨y_88, ey_88⟩ : ∃ z : Int32, z = v4_3 + 1 := ⟨_, rfl⟩
                      refine lv_iinc (v := y_88) (lv' := [(3, .int y_88), (6, .int y_81), (2, .int 1), (5, .int 0), (4, .int x_15), (0, .ref a0_), (1, .int x1_)]) hx hb dX0_closeParts_245 hl (k := 4) rfl (by rw [ey_88]; rfl) (by decide) rfl (fun ls hl => ?_)
                      have ty_88 := add_bd ey_88 b_4 kb_1 (by decide)
                      have b_89 : bd 1 300 y_88 := add_rg ty_88 b_4 kb_1 (by decide)
                      refine lv_goto (tgt := 4) hx hb dX0_closeParts_248 (by decide) ?_
                      have hl9 := lv_sub hl [0, 2, 5, 6] (by rfl : lv_pick [(3, .int y_88), (6, .int y_81), (2, .int 1), (5, .int 0), (4, .int x_15), (0, .ref a0_), (1, .int x1_)] [0, 2, 5, 6] = [(3, .int y_88), (2, .int 1), (0, .ref a0_), (1, .int x1_)])
                      have g9 := g.sub (fx' := [(0, 2, a0_, .ref q0_)]) [6] rfl
                      exact ih4  y_88 1 (bd_sub b_89 (by decide)) (bd_sub kb_1 (by decide)) (by have h9_0 := b_89; unfold bd at h9_0; have h9_1 := bv4_2; unfold bd at h9_1; have h9_2 := bv4_3; unfold bd at h9_2; have h9_3 := kb_0; unfold bd at h9_3; have h9_4 := kb_1; unfold bd at h9_4; have h9_5 := kb_12; unfold bd at h9_5; have h9_6 := kb_205; unfold bd at h9_6; have h9_7 := kb_300; unfold bd at h9_7; have h9_8 := kb_6; unfold bd at h9_8; have h9_9 := kb_7; unfold bd at h9_9; omega) _ _ _ _ g9  hl9
                    · have fc_86 := nle_f c_86
                      have b_90 : bd 13 2147483647 y_81 := ltR fc_86 kb_12 (bdT y_81) (by decide)
                      refine lv_aload_n hx hb dX0_closeParts_227 rfl (lv_at hl 5 rfl) ?_
                      refine g_getr (K := 8) (C := RX0) (T := TX0) (N := 14) hx hb hts (mc_ inX0) hown hK g ma0_ ka0_ (by decide) rfl 0 (by decide) rfl (hts _ (List.mem_cons_of_mem _ t_373)) (fun _ h9 => h9) rfl dX0_closeParts_228 (fun a_91 ma_91 ka_91 g => ?_)
                      refine lv_bipush (v := 7) hx hb dX0_closeParts_231 (by decide) ?_
                      refine lv_aload_n hx hb dX0_closeParts_233 rfl (lv_at hl 5 rfl) ?_
                      refine g_getr (K := 111) (C := RX0) (T := TX0) (N := 14) hx hb hts (mc_ inX0) hown hK g ma0_ ka0_ (by decide) rfl 4 (by decide) rfl (hts _ (List.mem_cons_of_mem _ t_377)) (fun _ h9 => h9) rfl dX0_closeParts_234 (fun a_92 ma_92 ka_92 g => ?_)
                      refine lv_aload_n hx hb dX0_closeParts_237 rfl (lv_at hl 5 rfl) ?_
                      refine g_getk (C := RX0) (T := TX0) (N := 14) hx hb hts (mc_ inX0) hown hK g rfl 8 (by decide) rfl (hts _ (List.mem_cons_of_mem _ t_381)) (fun _ h9 => h9) 6 rfl dX0_closeParts_238 ?_
                      refine g_iald hx hb hK g ma_92 ka_92 (by decide) rfl (in_bd b_14 (by decide)) dX0_closeParts_241 (fun x_93 bx_93 cx_93 => ?_)
                      refine g_callv (va_runV (As := [.int 7, .int x_93]) (rest := []) ⟨hx, hb, hml, hown, hts⟩ (r_X8_fail_10 l dC dI L kd tys fr_82 H.size g.2.2.2.1 a_91 ma_91 ka_91 7 kb_7 x_93) (cwV 2 hts (gV_ t_1215 t_1107 t_1108 t_184 t_1109) rfl rfl rfl (by decide +kernel) ⟨(Nat.le_of_ble_eq_true rfl), (Nat.le_of_ble_eq_true rfl)⟩) (pre3V g hK ma_91 ka_91 (by decide) (q := (RX8, TX8, 10)) rfl) rfl rfl hl.1 rfl (lv_room (Nat.le_of_ble_eq_true rfl)) dX0_closeParts_242 ⟨(Nat.le_of_ble_eq_true rfl), (Nat.le_of_ble_eq_true rfl)⟩) g hK (by decide) (by decide) (fx' := [(0, 4, a0_, .ref a_92), (0, 0, a0_, .ref a_91), (0, 12, a0_, .int 0), (0, 10, a0_, .int x_83), (0, 5, a0_, .ref a_72), (7, 6, q0_, .int x_69), (0, 8, a0_, .int y_13), (0, 3, a0_, .ref a_12), (0, 2, a0_, .ref q0_)]) rfl (fun fr_94 H locs hp hMr_94 g => ?_)
                      obtain ⟨x_95, h_96, hF_97⟩ := hp
                      have g := g.more hF_97
                      obtain ⟨y_98, ey_98⟩ : ∃ z : Int32, z = v4_3 + 1 := ⟨_, rfl⟩
                      refine lv_iinc (v := y_98) (lv' := [(3, .int y_98), (6, .int y_81), (2, .int 1), (5, .int 0), (4, .int x_15), (0, .ref a0_), (1, .int x1_)]) hx hb dX0_closeParts_245 hl (k := 4) rfl (by rw [ey_98]; rfl) (by decide) rfl (fun ls hl => ?_)
                      have ty_98 := add_bd ey_98 b_4 kb_1 (by decide)
                      have b_99 : bd 1 300 y_98 := add_rg ty_98 b_4 kb_1 (by decide)
                      refine lv_goto (tgt := 4) hx hb dX0_closeParts_248 (by decide) ?_
                      have hl9 := lv_sub hl [0, 2, 5, 6] (by rfl : lv_pick [(3, .int y_98), (6, .int y_81), (2, .int 1), (5, .int 0), (4, .int x_15), (0, .ref a0_), (1, .int x1_)] [0, 2, 5, 6] = [(3, .int y_98), (2, .int 1), (0, .ref a0_), (1, .int x1_)])
                      have g9 := g.sub (fx' := [(0, 2, a0_, .ref q0_)]) [10] rfl
                      exact ih4  y_98 1 (bd_sub b_99 (by decide)) (bd_sub kb_1 (by decide)) (by have h9_0 := b_99; unfold bd at h9_0; have h9_1 := bv4_2; unfold bd at h9_1; have h9_2 := bv4_3; unfold bd at h9_2; have h9_3 := kb_0; unfold bd at h9_3; have h9_4 := kb_1; unfold bd at h9_4; have h9_5 := kb_12; unfold bd at h9_5; have h9_6 := kb_205; unfold bd at h9_6; have h9_7 := kb_300; unfold bd at h9_7; have h9_8 := kb_6; unfold bd at h9_8; have h9_9 := kb_7; unfold bd at h9_9; omega) _ _ _ _ g9  hl9
                  · have fc_66 := neq_f c_66
                    refine lv_iload hx hb dX0_closeParts_144 (lv_at hl 3 rfl) ?_
                    refine lv_sipush (v := 206) hx hb dX0_closeParts_146 (by decide) ?_
                    have kb_206 : bd 206 206 (206 : Int32) := ⟨by decide, by decide⟩
                    refine lv_icmp_ne (tgt := 181) hx hb dX0_closeParts_149 (by decide) (fun c_100 => ?_) (fun c_100 => ?_)
                    · have fc_100 := neq_f c_100
                      refine lv_aload_n hx hb dX0_closeParts_181 rfl (lv_at hl 5 rfl) ?_
                      refine g_getk (C := RX0) (T := TX0) (N := 14) hx hb hts (mc_ inX0) hown hK g rfl 2 (by decide) rfl (hts _ (List.mem_cons_of_mem _ t_375)) (fun _ h9 => h9) 3 rfl dX0_closeParts_182 ?_
                      refine lv_iload hx hb dX0_closeParts_185 (lv_at hl 3 rfl) ?_
                      refine lv_iconst (v := 0) hx hb dX0_closeParts_187 (by decide) ?_
                      refine g_callv (va_runV (As := [.int x_15, .int 0]) (rest := []) ⟨hx, hb, hml, hown, hts⟩ (r_X7_emit l dC dI L kd tys fr_62 H.size g.2.2.2.1 q0_ mq0_ kq0_ x_15 0) (cwV 2 hts (gV_ t_1203 t_1204 t_1205 t_191 t_1206) rfl rfl rfl (by decide +kernel) ⟨(Nat.le_of_ble_eq_true rfl), (Nat.le_of_ble_eq_true rfl)⟩) (pre3V g hK mq0_ kq0_ (by decide) (q := (RX7, TX7, 19)) rfl) rfl rfl hl.1 rfl (lv_room (Nat.le_of_ble_eq_true rfl)) dX0_closeParts_188 ⟨(Nat.le_of_ble_eq_true rfl), (Nat.le_of_ble_eq_true rfl)⟩) g hK (by decide) (by decide) (fx' := [(0, 10, a0_, .int x_63), (0, 8, a0_, .int y_13), (0, 3, a0_, .ref a_12), (0, 2, a0_, .ref q0_)]) rfl (fun fr_101 H locs hp hMr_101 g => ?_)
                      obtain ⟨x_102, h_103, hF_104⟩ := hp
                      have g := g.more hF_104
                      refine lv_iconst (v := 1) hx hb dX0_closeParts_191 (by decide) ?_
                      refine lv_iload hx hb dX0_closeParts_192 (lv_at hl 2 rfl) ?_
                      refine lv_if_eq (tgt := 202) hx hb dX0_closeParts_194 (by decide) (fun c_ => ?_) (fun c_ => absurd (by decide) c_)
                      refine lv_iload hx hb dX0_closeParts_202 (lv_at hl 0 rfl) ?_
                      refine lv_aload_n hx hb dX0_closeParts_204 rfl (lv_at hl 5 rfl) ?_
                      refine g_calli (va_runV (As := []) (rest := [.int r_62, .int 1]) ⟨hx, hb, hml, hown, hts⟩ (r_X0_takeHeight l dC dI L kd tys fr_101 H.size g.2.2.2.1 a0_ ma0_ ka0_) (cwV 0 hts (gV_ t_1199 t_1201 t_16 t_190 t_1202) rfl rfl rfl (by decide +kernel) ⟨(Nat.le_of_ble_eq_true rfl), (Nat.le_of_ble_eq_true rfl)⟩) (pre3V g hK ma0_ ka0_ (by decide) (q := (RX0, TX0, 14)) rfl) rfl rfl hl.1 rfl (lv_room (Nat.le_of_ble_eq_true rfl)) dX0_closeParts_205 ⟨(Nat.le_of_ble_eq_true rfl), (Nat.le_of_ble_eq_true rfl)⟩) g hK (by decide) (by decide) (fx' := [(7, 6, q0_, .int x_102), (0, 8, a0_, .int y_13), (0, 3, a0_, .ref a_12), (0, 2, a0_, .ref q0_)]) rfl (fun r_105 fr_105 H locs hp hMr_105 g => ?_)
                      obtain ⟨x_106, h_107, hF_108⟩ := hp
                      have g := g.more hF_108
                      refine va_mmax hx hb (hml.trans hl.1.symm) hown (hts _ (List.mem_cons_of_mem _ t_1194)) (hts _ (List.mem_cons_of_mem _ t_1041)) (hts _ (List.mem_cons_of_mem _ t_204)) (hts _ (List.mem_cons_of_mem _ t_1042)) (Nat.le_of_ble_eq_true rfl) (Nat.le_of_ble_eq_true rfl) (Nat.le_of_ble_eq_true rfl) (Nat.le_of_ble_eq_true rfl) dX0_closeParts_208 ?_
                      refine lv_topi (fun y_109 ey_109 => ?_)
                      have ty_109 : y_109.toInt = max r_62.toInt r_105.toInt := by rw [ey_109]; exact mmax_ok _ _
                      have b_110 : bd (-2147483648) 2147483647 y_109 := max_rg ty_109 (bdT r_62) (bdT r_105) (by decide)
                      refine lv_iadd hx hb dX0_closeParts_211 ?_
                      refine lv_topi (fun y_111 ey_111 => ?_)
                      refine lv_istore (lv' := [(6, .int y_111), (2, .int 1), (5, .int 0), (4, .int x_15), (3, .int v4_3), (0, .ref a0_), (1, .int x1_)]) hx hb dX0_closeParts_212 hl (by decide) rfl (fun ls hl => ?_)
                      refine lv_aload_n hx hb dX0_closeParts_214 rfl (lv_at hl 5 rfl) ?_
                      refine lv_iload hx hb dX0_closeParts_215 (lv_at hl 0 rfl) ?_
                      refine g_callv (va_runV (As := [.int y_111]) (rest := []) ⟨hx, hb, hml, hown, hts⟩ (r_X0_addWhole l dC dI L kd tys fr_105 H.size g.2.2.2.1 a0_ ma0_ ka0_ y_111) (cwV 1 hts (gV_ t_1211 t_1213 t_17 t_190 t_1214) rfl rfl rfl (by decide +kernel) ⟨(Nat.le_of_ble_eq_true rfl), (Nat.le_of_ble_eq_true rfl)⟩) (pre3V g hK ma0_ ka0_ (by decide) (q := (RX0, TX0, 14)) rfl) rfl rfl hl.1 rfl (lv_room (Nat.le_of_ble_eq_true rfl)) dX0_closeParts_217 ⟨(Nat.le_of_ble_eq_true rfl), (Nat.le_of_ble_eq_true rfl)⟩) g hK (by decide) (by decide) (fx' := [(7, 6, q0_, .int x_102), (0, 8, a0_, .int y_13), (0, 3, a0_, .ref a_12), (0, 2, a0_, .ref q0_)]) rfl (fun fr_112 H locs hp hMr_112 g => ?_)
                      obtain ⟨x_113, h_114, hF_115⟩ := hp
                      have g := g.more hF_115
                      refine lv_iload hx hb dX0_closeParts_220 (lv_at hl 0 rfl) ?_
                      refine lv_bipush (v := 12) hx hb dX0_closeParts_222 (by decide) ?_
                      have kb_12 : bd 12 12 (12 : Int32) := ⟨by decide, by decide⟩
                      refine lv_icmp_le (tgt := 245) hx hb dX0_closeParts_224 (by decide) (fun c_116 => ?_) (fun c_116 => ?_)
                      · have fc_116 := le_f c_116
                        have b_117 : bd (-2147483648) 12 y_111 := leL fc_116 (bdT y_111) kb_12 (by decide)
                        obtain ⟨y_118, ey_118⟩ : ∃ z : Int32, z = v4_3 + 1 := ⟨_, rfl⟩
                        refine lv_iinc (v := y_118) (lv' := [(3, .int y_118), (6, .int y_111), (2, .int 1), (5, .int 0), (4, .int x_15), (0, .ref a0_), (1, .int x1_)]) hx hb dX0_closeParts_245 hl (k := 4) rfl (by rw [ey_118]; rfl) (by decide) rfl (fun ls hl => ?_)
                        have ty_118 := add_bd ey_118 b_4 kb_1 (by decide)
                        have b_119 : bd 1 300 y_118 := add_rg ty_118 b_4 kb_1 (by decide)
                        refine lv_goto (tgt := 4) hx hb dX0_closeParts_248 (by decide) ?_
                        have hl9 := lv_sub hl [0, 2, 5, 6] (by rfl : lv_pick [(3, .int y_118), (6, .int y_111), (2, .int 1), (5, .int 0), (4, .int x_15), (0, .ref a0_), (1, .int x1_)] [0, 2, 5, 6] = [(3, .int y_118), (2, .int 1), (0, .ref a0_), (1, .int x1_)])
                        have g9 := g.sub (fx' := [(0, 2, a0_, .ref q0_)]) [5] rfl
                        exact ih4  y_118 1 (bd_sub b_119 (by decide)) (bd_sub kb_1 (by decide)) (by have h9_0 := b_119; unfold bd at h9_0; have h9_1 := bv4_2; unfold bd at h9_1; have h9_2 := bv4_3; unfold bd at h9_2; have h9_3 := kb_0; unfold bd at h9_3; have h9_4 := kb_1; unfold bd at h9_4; have h9_5 := kb_12; unfold bd at h9_5; have h9_6 := kb_205; unfold bd at h9_6; have h9_7 := kb_206; unfold bd at h9_7; have h9_8 := kb_300; unfold bd at h9_8; have h9_9 := kb_6; unfold bd at h9_9; have h9_10 := kb_7; unfold bd at h9_10; omega) _ _ _ _ g9  hl9
                      · have fc_116 := nle_f c_116
                        have b_120 : bd 13 2147483647 y_111 := ltR fc_116 kb_12 (bdT y_111) (by decide)
                        refine lv_aload_n hx hb dX0_closeParts_227 rfl (lv_at hl 5 rfl) ?_
                        refine g_getr (K := 8) (C := RX0) (T := TX0) (N := 14) hx hb hts (mc_ inX0) hown hK g ma0_ ka0_ (by decide) rfl 0 (by decide) rfl (hts _ (List.mem_cons_of_mem _ t_373)) (fun _ h9 => h9) rfl dX0_closeParts_228 (fun a_121 ma_121 ka_121 g => ?_)
                        refine lv_bipush (v := 7) hx hb dX0_closeParts_231 (by decide) ?_
                        refine lv_aload_n hx hb dX0_closeParts_233 rfl (lv_at hl 5 rfl) ?_
                        refine g_getr (K := 111) (C := RX0) (T := TX0) (N := 14) hx hb hts (mc_ inX0) hown hK g ma0_ ka0_ (by decide) rfl 4 (by decide) rfl (hts _ (List.mem_cons_of_mem _ t_377)) (fun _ h9 => h9) rfl dX0_closeParts_234 (fun a_122 ma_122 ka_122 g => ?_)
                        refine lv_aload_n hx hb dX0_closeParts_237 rfl (lv_at hl 5 rfl) ?_
                        refine g_getk (C := RX0) (T := TX0) (N := 14) hx hb hts (mc_ inX0) hown hK g rfl 8 (by decide) rfl (hts _ (List.mem_cons_of_mem _ t_381)) (fun _ h9 => h9) 5 rfl dX0_closeParts_238 ?_
                        refine g_iald hx hb hK g ma_122 ka_122 (by decide) rfl (in_bd b_14 (by decide)) dX0_closeParts_241 (fun x_123 bx_123 cx_123 => ?_)
                        refine g_callv (va_runV (As := [.int 7, .int x_123]) (rest := []) ⟨hx, hb, hml, hown, hts⟩ (r_X8_fail_10 l dC dI L kd tys fr_112 H.size g.2.2.2.1 a_121 ma_121 ka_121 7 kb_7 x_123) (cwV 2 hts (gV_ t_1215 t_1107 t_1108 t_184 t_1109) rfl rfl rfl (by decide +kernel) ⟨(Nat.le_of_ble_eq_true rfl), (Nat.le_of_ble_eq_true rfl)⟩) (pre3V g hK ma_121 ka_121 (by decide) (q := (RX8, TX8, 10)) rfl) rfl rfl hl.1 rfl (lv_room (Nat.le_of_ble_eq_true rfl)) dX0_closeParts_242 ⟨(Nat.le_of_ble_eq_true rfl), (Nat.le_of_ble_eq_true rfl)⟩) g hK (by decide) (by decide) (fx' := [(0, 4, a0_, .ref a_122), (0, 0, a0_, .ref a_121), (0, 12, a0_, .int 0), (0, 10, a0_, .int x_113), (7, 6, q0_, .int x_102), (0, 8, a0_, .int y_13), (0, 3, a0_, .ref a_12), (0, 2, a0_, .ref q0_)]) rfl (fun fr_124 H locs hp hMr_124 g => ?_)
                        obtain ⟨x_125, h_126, hF_127⟩ := hp
                        have g := g.more hF_127
                        obtain ⟨y_128, ey_128⟩ : ∃ z : Int32, z = v4_3 + 1 := ⟨_, rfl⟩
                        refine lv_iinc (v := y_128) (lv' := [(3, .int y_128), (6, .int y_111), (2, .int 1), (5, .int 0), (4, .int x_15), (0, .ref a0_), (1, .int x1_)]) hx hb dX0_closeParts_245 hl (k := 4) rfl (by rw [ey_128]; rfl) (by decide) rfl (fun ls hl => ?_)
                        have ty_128 := add_bd ey_128 b_4 kb_1 (by decide)
                        have b_129 : bd 1 300 y_128 := add_rg ty_128 b_4 kb_1 (by decide)
                        refine lv_goto (tgt := 4) hx hb dX0_closeParts_248 (by decide) ?_
                        have hl9 := lv_sub hl [0, 2, 5, 6] (by rfl : lv_pick [(3, .int y_128), (6, .int y_111), (2, .int 1), (5, .int 0), (4, .int x_15), (0, .ref a0_), (1, .int x1_)] [0, 2, 5, 6] = [(3, .int y_128), (2, .int 1), (0, .ref a0_), (1, .int x1_)])
                        have g9 := g.sub (fx' := [(0, 2, a0_, .ref q0_)]) [9] rfl
                        exact ih4  y_128 1 (bd_sub b_129 (by decide)) (bd_sub kb_1 (by decide)) (by have h9_0 := b_129; unfold bd at h9_0; have h9_1 := bv4_2; unfold bd at h9_1; have h9_2 := bv4_3; unfold bd at h9_2; have h9_3 := kb_0; unfold bd at h9_3; have h9_4 := kb_1; unfold bd at h9_4; have h9_5 := kb_12; unfold bd at h9_5; have h9_6 := kb_205; unfold bd at h9_6; have h9_7 := kb_206; unfold bd at h9_7; have h9_8 := kb_300; unfold bd at h9_8; have h9_9 := kb_6; unfold bd at h9_9; have h9_10 := kb_7; unfold bd at h9_10; omega) _ _ _ _ g9  hl9
                    · have fc_100 := eq_f c_100
                      have b_130 : bd 206 206 x_15 := eqX fc_100 (bdT x_15) kb_206 (by decide)
                      refine lv_aload_n hx hb dX0_closeParts_152 rfl (lv_at hl 5 rfl) ?_
                      refine g_getk (C := RX0) (T := TX0) (N := 14) hx hb hts (mc_ inX0) hown hK g rfl 2 (by decide) rfl (hts _ (List.mem_cons_of_mem _ t_375)) (fun _ h9 => h9) 3 rfl dX0_closeParts_153 ?_
                      refine lv_bipush (v := 8) hx hb dX0_closeParts_156 (by decide) ?_
                      refine lv_iconst (v := 0) hx hb dX0_closeParts_158 (by decide) ?_
                      refine g_callv (va_runV (As := [.int 8, .int 0]) (rest := []) ⟨hx, hb, hml, hown, hts⟩ (r_X7_emit l dC dI L kd tys fr_62 H.size g.2.2.2.1 q0_ mq0_ kq0_ 8 0) (cwV 2 hts (gV_ t_1203 t_1204 t_1205 t_191 t_1206) rfl rfl rfl (by decide +kernel) ⟨(Nat.le_of_ble_eq_true rfl), (Nat.le_of_ble_eq_true rfl)⟩) (pre3V g hK mq0_ kq0_ (by decide) (q := (RX7, TX7, 19)) rfl) rfl rfl hl.1 rfl (lv_room (Nat.le_of_ble_eq_true rfl)) dX0_closeParts_159 ⟨(Nat.le_of_ble_eq_true rfl), (Nat.le_of_ble_eq_true rfl)⟩) g hK (by decide) (by decide) (fx' := [(0, 10, a0_, .int x_63), (0, 8, a0_, .int y_13), (0, 3, a0_, .ref a_12), (0, 2, a0_, .ref q0_)]) rfl (fun fr_131 H locs hp hMr_131 g => ?_)
                      obtain ⟨x_132, h_133, hF_134⟩ := hp
                      have g := g.more hF_134
                      refine lv_aload_n hx hb dX0_closeParts_162 rfl (lv_at hl 5 rfl) ?_
                      refine g_getk (C := RX0) (T := TX0) (N := 14) hx hb hts (mc_ inX0) hown hK g rfl 2 (by decide) rfl (hts _ (List.mem_cons_of_mem _ t_375)) (fun _ h9 => h9) 4 rfl dX0_closeParts_163 ?_
                      refine lv_aload_n hx hb dX0_closeParts_166 rfl (lv_at hl 5 rfl) ?_
                      refine g_getr (K := 112) (C := RX0) (T := TX0) (N := 14) hx hb hts (mc_ inX0) hown hK g ma0_ ka0_ (by decide) rfl 5 (by decide) rfl (hts _ (List.mem_cons_of_mem _ t_378)) (fun _ h9 => h9) rfl dX0_closeParts_167 (fun a_135 ma_135 ka_135 g => ?_)
                      refine lv_aload_n hx hb dX0_closeParts_170 rfl (lv_at hl 5 rfl) ?_
                      refine g_getk (C := RX0) (T := TX0) (N := 14) hx hb hts (mc_ inX0) hown hK g rfl 8 (by decide) rfl (hts _ (List.mem_cons_of_mem _ t_381)) (fun _ h9 => h9) 3 rfl dX0_closeParts_171 ?_
                      refine g_iald hx hb hK g ma_135 ka_135 (by decide) rfl (in_bd b_14 (by decide)) dX0_closeParts_174 (fun x_136 bx_136 cx_136 => ?_)
                      refine g_callv (va_runV (As := [.int x_136]) (rest := []) ⟨hx, hb, hml, hown, hts⟩ (r_X7_leadHere l dC dI L kd tys fr_131 H.size g.2.2.2.1 q0_ mq0_ kq0_ x_136) (cwV 1 hts (gV_ t_1207 t_1208 t_1209 t_191 t_1210) rfl rfl rfl (by decide +kernel) ⟨(Nat.le_of_ble_eq_true rfl), (Nat.le_of_ble_eq_true rfl)⟩) (pre3V g hK mq0_ kq0_ (by decide) (q := (RX7, TX7, 19)) rfl) rfl rfl hl.1 rfl (lv_room (Nat.le_of_ble_eq_true rfl)) dX0_closeParts_175 ⟨(Nat.le_of_ble_eq_true rfl), (Nat.le_of_ble_eq_true rfl)⟩) g hK (by decide) (by decide) (fx' := [(0, 5, a0_, .ref a_135), (7, 6, q0_, .int x_132), (0, 10, a0_, .int x_63), (0, 8, a0_, .int y_13), (0, 3, a0_, .ref a_12), (0, 2, a0_, .ref q0_)]) rfl (fun fr_137 H locs hp hMr_137 g => ?_)
                      refine lv_goto (tgt := 191) hx hb dX0_closeParts_178 (by decide) ?_
                      refine lv_iconst (v := 1) hx hb dX0_closeParts_191 (by decide) ?_
                      refine lv_iload hx hb dX0_closeParts_192 (lv_at hl 2 rfl) ?_
                      refine lv_if_eq (tgt := 202) hx hb dX0_closeParts_194 (by decide) (fun c_ => ?_) (fun c_ => absurd (by decide) c_)
                      refine lv_iload hx hb dX0_closeParts_202 (lv_at hl 0 rfl) ?_
                      refine lv_aload_n hx hb dX0_closeParts_204 rfl (lv_at hl 5 rfl) ?_
                      refine g_calli (va_runV (As := []) (rest := [.int r_62, .int 1]) ⟨hx, hb, hml, hown, hts⟩ (r_X0_takeHeight l dC dI L kd tys fr_137 H.size g.2.2.2.1 a0_ ma0_ ka0_) (cwV 0 hts (gV_ t_1199 t_1201 t_16 t_190 t_1202) rfl rfl rfl (by decide +kernel) ⟨(Nat.le_of_ble_eq_true rfl), (Nat.le_of_ble_eq_true rfl)⟩) (pre3V g hK ma0_ ka0_ (by decide) (q := (RX0, TX0, 14)) rfl) rfl rfl hl.1 rfl (lv_room (Nat.le_of_ble_eq_true rfl)) dX0_closeParts_205 ⟨(Nat.le_of_ble_eq_true rfl), (Nat.le_of_ble_eq_true rfl)⟩) g hK (by decide) (by decide) (fx' := [(0, 5, a0_, .ref a_135), (7, 6, q0_, .int x_132), (0, 8, a0_, .int y_13), (0, 3, a0_, .ref a_12), (0, 2, a0_, .ref q0_)]) rfl (fun r_138 fr_138 H locs hp hMr_138 g => ?_)
                      obtain ⟨x_139, h_140, hF_141⟩ := hp
                      have g := g.more hF_141
                      refine va_mmax hx hb (hml.trans hl.1.symm) hown (hts _ (List.mem_cons_of_mem _ t_1194)) (hts _ (List.mem_cons_of_mem _ t_1041)) (hts _ (List.mem_cons_of_mem _ t_204)) (hts _ (List.mem_cons_of_mem _ t_1042)) (Nat.le_of_ble_eq_true rfl) (Nat.le_of_ble_eq_true rfl) (Nat.le_of_ble_eq_true rfl) (Nat.le_of_ble_eq_true rfl) dX0_closeParts_208 ?_
                      refine lv_topi (fun y_142 ey_142 => ?_)
                      have ty_142 : y_142.toInt = max r_62.toInt r_138.toInt := by rw [ey_142]; exact mmax_ok _ _
                      have b_143 : bd (-2147483648) 2147483647 y_142 := max_rg ty_142 (bdT r_62) (bdT r_138) (by decide)
                      refine lv_iadd hx hb dX0_closeParts_211 ?_
                      refine lv_topi (fun y_144 ey_144 => ?_)
                      refine lv_istore (lv' := [(6, .int y_144), (2, .int 1), (5, .int 0), (4, .int x_15), (3, .int v4_3), (0, .ref a0_), (1, .int x1_)]) hx hb dX0_closeParts_212 hl (by decide) rfl (fun ls hl => ?_)
                      refine lv_aload_n hx hb dX0_closeParts_214 rfl (lv_at hl 5 rfl) ?_
                      refine lv_iload hx hb dX0_closeParts_215 (lv_at hl 0 rfl) ?_
                      refine g_callv (va_runV (As := [.int y_144]) (rest := []) ⟨hx, hb, hml, hown, hts⟩ (r_X0_addWhole l dC dI L kd tys fr_138 H.size g.2.2.2.1 a0_ ma0_ ka0_ y_144) (cwV 1 hts (gV_ t_1211 t_1213 t_17 t_190 t_1214) rfl rfl rfl (by decide +kernel) ⟨(Nat.le_of_ble_eq_true rfl), (Nat.le_of_ble_eq_true rfl)⟩) (pre3V g hK ma0_ ka0_ (by decide) (q := (RX0, TX0, 14)) rfl) rfl rfl hl.1 rfl (lv_room (Nat.le_of_ble_eq_true rfl)) dX0_closeParts_217 ⟨(Nat.le_of_ble_eq_true rfl), (Nat.le_of_ble_eq_true rfl)⟩) g hK (by decide) (by decide) (fx' := [(0, 5, a0_, .ref a_135), (7, 6, q0_, .int x_132), (0, 8, a0_, .int y_13), (0, 3, a0_, .ref a_12), (0, 2, a0_, .ref q0_)]) rfl (fun fr_145 H locs hp hMr_145 g => ?_)
                      obtain ⟨x_146, h_147, hF_148⟩ := hp
                      have g := g.more hF_148
                      refine lv_iload hx hb dX0_closeParts_220 (lv_at hl 0 rfl) ?_
                      refine lv_bipush (v := 12) hx hb dX0_closeParts_222 (by decide) ?_
                      have kb_12 : bd 12 12 (12 : Int32) := ⟨by decide, by decide⟩
                      refine lv_icmp_le (tgt := 245) hx hb dX0_closeParts_224 (by decide) (fun c_149 => ?_) (fun c_149 => ?_)
                      · have fc_149 := le_f c_149
                        have b_150 : bd (-2147483648) 12 y_144 := leL fc_149 (bdT y_144) kb_12 (by decide)
                        obtain ⟨y_151, ey_151⟩ : ∃ z : Int32, z = v4_3 + 1 := ⟨_, rfl⟩
                        refine lv_iinc (v := y_151) (lv' := [(3, .int y_151), (6, .int y_144), (2, .int 1), (5, .int 0), (4, .int x_15), (0, .ref a0_), (1, .int x1_)]) hx hb dX0_closeParts_245 hl (k := 4) rfl (by rw [ey_151]; rfl) (by decide) rfl (fun ls hl => ?_)
                        have ty_151 := add_bd ey_151 b_4 kb_1 (by decide)
                        have b_152 : bd 1 300 y_151 := add_rg ty_151 b_4 kb_1 (by decide)
                        refine lv_goto (tgt := 4) hx hb dX0_closeParts_248 (by decide) ?_
                        have hl9 := lv_sub hl [0, 2, 5, 6] (by rfl : lv_pick [(3, .int y_151), (6, .int y_144), (2, .int 1), (5, .int 0), (4, .int x_15), (0, .ref a0_), (1, .int x1_)] [0, 2, 5, 6] = [(3, .int y_151), (2, .int 1), (0, .ref a0_), (1, .int x1_)])
                        have g9 := g.sub (fx' := [(0, 2, a0_, .ref q0_)]) [6] rfl
                        exact ih4  y_151 1 (bd_sub b_152 (by decide)) (bd_sub kb_1 (by decide)) (by have h9_0 := b_152; unfold bd at h9_0; have h9_1 := bv4_2; unfold bd at h9_1; have h9_2 := bv4_3; unfold bd at h9_2; have h9_3 := kb_0; unfold bd at h9_3; have h9_4 := kb_1; unfold bd at h9_4; have h9_5 := kb_12; unfold bd at h9_5; have h9_6 := kb_205; unfold bd at h9_6; have h9_7 := kb_206; unfold bd at h9_7; have h9_8 := kb_300; unfold bd at h9_8; have h9_9 := kb_6; unfold bd at h9_9; have h9_10 := kb_7; unfold bd at h9_10; omega) _ _ _ _ g9  hl9
                      · have fc_149 := nle_f c_149
                        have b_153 : bd 13 2147483647 y_144 := ltR fc_149 kb_12 (bdT y_144) (by decide)
                        refine lv_aload_n hx hb dX0_closeParts_227 rfl (lv_at hl 5 rfl) ?_
                        refine g_getr (K := 8) (C := RX0) (T := TX0) (N := 14) hx hb hts (mc_ inX0) hown hK g ma0_ ka0_ (by decide) rfl 0 (by decide) rfl (hts _ (List.mem_cons_of_mem _ t_373)) (fun _ h9 => h9) rfl dX0_closeParts_228 (fun a_154 ma_154 ka_154 g => ?_)
                        refine lv_bipush (v := 7) hx hb dX0_closeParts_231 (by decide) ?_
                        refine lv_aload_n hx hb dX0_closeParts_233 rfl (lv_at hl 5 rfl) ?_
                        refine g_getr (K := 111) (C := RX0) (T := TX0) (N := 14) hx hb hts (mc_ inX0) hown hK g ma0_ ka0_ (by decide) rfl 4 (by decide) rfl (hts _ (List.mem_cons_of_mem _ t_377)) (fun _ h9 => h9) rfl dX0_closeParts_234 (fun a_155 ma_155 ka_155 g => ?_)
                        refine lv_aload_n hx hb dX0_closeParts_237 rfl (lv_at hl 5 rfl) ?_
                        refine g_getk (C := RX0) (T := TX0) (N := 14) hx hb hts (mc_ inX0) hown hK g rfl 8 (by decide) rfl (hts _ (List.mem_cons_of_mem _ t_381)) (fun _ h9 => h9) 6 rfl dX0_closeParts_238 ?_
                        refine g_iald hx hb hK g ma_155 ka_155 (by decide) rfl (in_bd b_14 (by decide)) dX0_closeParts_241 (fun x_156 bx_156 cx_156 => ?_)
                        refine g_callv (va_runV (As := [.int 7, .int x_156]) (rest := []) ⟨hx, hb, hml, hown, hts⟩ (r_X8_fail_10 l dC dI L kd tys fr_145 H.size g.2.2.2.1 a_154 ma_154 ka_154 7 kb_7 x_156) (cwV 2 hts (gV_ t_1215 t_1107 t_1108 t_184 t_1109) rfl rfl rfl (by decide +kernel) ⟨(Nat.le_of_ble_eq_true rfl), (Nat.le_of_ble_eq_true rfl)⟩) (pre3V g hK ma_154 ka_154 (by decide) (q := (RX8, TX8, 10)) rfl) rfl rfl hl.1 rfl (lv_room (Nat.le_of_ble_eq_true rfl)) dX0_closeParts_242 ⟨(Nat.le_of_ble_eq_true rfl), (Nat.le_of_ble_eq_true rfl)⟩) g hK (by decide) (by decide) (fx' := [(0, 4, a0_, .ref a_155), (0, 0, a0_, .ref a_154), (0, 12, a0_, .int 0), (0, 10, a0_, .int x_146), (0, 5, a0_, .ref a_135), (7, 6, q0_, .int x_132), (0, 8, a0_, .int y_13), (0, 3, a0_, .ref a_12), (0, 2, a0_, .ref q0_)]) rfl (fun fr_157 H locs hp hMr_157 g => ?_)
                        obtain ⟨x_158, h_159, hF_160⟩ := hp
                        have g := g.more hF_160
                        obtain ⟨y_161, ey_161⟩ : ∃ z : Int32, z = v4_3 + 1 := ⟨_, rfl⟩
                        refine lv_iinc (v := y_161) (lv' := [(3, .int y_161), (6, .int y_144), (2, .int 1), (5, .int 0), (4, .int x_15), (0, .ref a0_), (1, .int x1_)]) hx hb dX0_closeParts_245 hl (k := 4) rfl (by rw [ey_161]; rfl) (by decide) rfl (fun ls hl => ?_)
                        have ty_161 := add_bd ey_161 b_4 kb_1 (by decide)
                        have b_162 : bd 1 300 y_161 := add_rg ty_161 b_4 kb_1 (by decide)
                        refine lv_goto (tgt := 4) hx hb dX0_closeParts_248 (by decide) ?_
                        have hl9 := lv_sub hl [0, 2, 5, 6] (by rfl : lv_pick [(3, .int y_161), (6, .int y_144), (2, .int 1), (5, .int 0), (4, .int x_15), (0, .ref a0_), (1, .int x1_)] [0, 2, 5, 6] = [(3, .int y_161), (2, .int 1), (0, .ref a0_), (1, .int x1_)])
                        have g9 := g.sub (fx' := [(0, 2, a0_, .ref q0_)]) [10] rfl
                        exact ih4  y_161 1 (bd_sub b_162 (by decide)) (bd_sub kb_1 (by decide)) (by have h9_0 := b_162; unfold bd at h9_0; have h9_1 := bv4_2; unfold bd at h9_1; have h9_2 := bv4_3; unfold bd at h9_2; have h9_3 := kb_0; unfold bd at h9_3; have h9_4 := kb_1; unfold bd at h9_4; have h9_5 := kb_12; unfold bd at h9_5; have h9_6 := kb_205; unfold bd at h9_6; have h9_7 := kb_206; unfold bd at h9_7; have h9_8 := kb_300; unfold bd at h9_8; have h9_9 := kb_6; unfold bd at h9_9; have h9_10 := kb_7; unfold bd at h9_10; omega) _ _ _ _ g9  hl9
              · have fc_52 := eq_f c_52
                have b_163 : bd 7 7 x_15 := eqX fc_52 (bdT x_15) kb_7 (by decide)
                refine lv_iconst (v := 1) hx hb dX0_closeParts_49 (by decide) ?_
                refine lv_goto (tgt := 54) hx hb dX0_closeParts_50 (by decide) ?_
                refine lv_istore (lv' := [(5, .int 1), (4, .int x_15), (3, .int v4_3), (2, .int v4_2), (0, .ref a0_), (1, .int x1_)]) hx hb dX0_closeParts_54 hl (by decide) rfl (fun ls hl => ?_)
                refine lv_iload hx hb dX0_closeParts_56 (lv_at hl 0 rfl) ?_
                refine lv_if_ne (tgt := 70) hx hb dX0_closeParts_58 (by decide) (fun c_ => ?_) (fun c_ => absurd c_ (by decide))
                refine lv_iconst (v := 1) hx hb dX0_closeParts_70 (by decide) ?_
                refine lv_goto (tgt := 75) hx hb dX0_closeParts_71 (by decide) ?_
                refine lv_istore_n (lv' := [(2, .int 1), (5, .int 1), (4, .int x_15), (3, .int v4_3), (0, .ref a0_), (1, .int x1_)]) hx hb dX0_closeParts_75 rfl hl (by decide) rfl (fun ls hl => ?_)
                refine lv_iload_n hx hb dX0_closeParts_76 rfl (lv_at hl 0 rfl) ?_
                refine lv_if_eq (tgt := 245) hx hb dX0_closeParts_77 (by decide) (fun c_ => absurd c_ (by decide)) (fun c_ => ?_)
                refine lv_aload_n hx hb dX0_closeParts_80 rfl (lv_at hl 4 rfl) ?_
                refine lv_dup hx hb dX0_closeParts_81 rfl ?_
                refine g_getk (C := RX0) (T := TX0) (N := 14) hx hb hts (mc_ inX0) hown hK g rfl 8 (by decide) rfl (hts _ (List.mem_cons_of_mem _ t_381)) (fun _ h9 => h9) 1 rfl dX0_closeParts_82 ?_
                refine lv_iconst (v := 1) hx hb dX0_closeParts_85 (by decide) ?_
                refine lv_isub hx hb dX0_closeParts_86 ?_
                refine lv_topi (fun y_164 ey_164 => ?_)
                obtain rfl : y_13 = y_164 := ey_13.trans ey_164.symm
                refine g_put (C := RX0) (T := TX0) (N := 14) hx hb hts (mc_ inX0) tyX0 tyX0_ok nmX0 hown hK g ma0_ ka0_ (by decide) rfl 8 (by decide) (hts _ (List.mem_cons_of_mem _ t_381)) (fun _ h9 => h9) rfl rfl (okV_i (bd_sub b_14 (by decide))) rfl rfl (by decide) (Or.inr (Or.inl (by decide))) (fx' := [(0, 3, a0_, .ref a_12), (0, 2, a0_, .ref q0_)]) rfl dX0_closeParts_87 (fun f H locs hM_165 g => ?_)
                refine lv_aload_n hx hb dX0_closeParts_90 rfl (lv_at hl 4 rfl) ?_
                refine g_calli (va_runV (As := []) (rest := []) ⟨hx, hb, hml, hown, hts⟩ (r_X0_takeHeight l dC dI L kd tys f H.size g.2.2.2.1 a0_ ma0_ ka0_) (cwV 0 hts (gV_ t_1199 t_1201 t_16 t_190 t_1202) rfl rfl rfl (by decide +kernel) ⟨(Nat.le_of_ble_eq_true rfl), (Nat.le_of_ble_eq_true rfl)⟩) (pre3V g hK ma0_ ka0_ (by decide) (q := (RX0, TX0, 14)) rfl) rfl rfl hl.1 rfl (lv_room (Nat.le_of_ble_eq_true rfl)) dX0_closeParts_91 ⟨(Nat.le_of_ble_eq_true rfl), (Nat.le_of_ble_eq_true rfl)⟩) g hK (by decide) (by decide) (fx' := [(0, 8, a0_, .int y_13), (0, 3, a0_, .ref a_12), (0, 2, a0_, .ref q0_)]) rfl (fun r_166 fr_166 H locs hp hMr_166 g => ?_)
                obtain ⟨x_167, h_168, hF_169⟩ := hp
                have g := g.more hF_169
                refine lv_istore (lv' := [(6, .int r_166), (2, .int 1), (5, .int 1), (4, .int x_15), (3, .int v4_3), (0, .ref a0_), (1, .int x1_)]) hx hb dX0_closeParts_94 hl (by decide) rfl (fun ls hl => ?_)
                refine lv_iload hx hb dX0_closeParts_96 (lv_at hl 2 rfl) ?_
                refine lv_if_eq (tgt := 136) hx hb dX0_closeParts_98 (by decide) (fun c_ => absurd c_ (by decide)) (fun c_ => ?_)
                refine lv_aload_n hx hb dX0_closeParts_101 rfl (lv_at hl 5 rfl) ?_
                refine lv_dup hx hb dX0_closeParts_102 rfl ?_
                refine g_geti (C := RX0) (T := TX0) (N := 14) hx hb hts (mc_ inX0) hown hK g ma0_ ka0_ (by decide) rfl 11 (by decide) rfl (hts _ (List.mem_cons_of_mem _ t_384)) (fun _ h9 => h9) rfl dX0_closeParts_103 (fun x_170 bx_170 g => ?_)
                refine lv_iconst (v := 1) hx hb dX0_closeParts_106 (by decide) ?_
                refine lv_isub hx hb dX0_closeParts_107 ?_
                refine lv_topi (fun y_171 ey_171 => ?_)
                refine g_put (C := RX0) (T := TX0) (N := 14) hx hb hts (mc_ inX0) tyX0 tyX0_ok nmX0 hown hK g ma0_ ka0_ (by decide) rfl 11 (by decide) (hts _ (List.mem_cons_of_mem _ t_384)) (fun _ h9 => h9) rfl rfl (okV_i (bdT y_171)) rfl rfl (by decide) (Or.inr (Or.inl (by decide))) (fx' := [(0, 10, a0_, .int x_167), (0, 8, a0_, .int y_13), (0, 3, a0_, .ref a_12), (0, 2, a0_, .ref q0_)]) rfl dX0_closeParts_108 (fun f H locs hM_172 g => ?_)
                refine lv_aload_n hx hb dX0_closeParts_111 rfl (lv_at hl 5 rfl) ?_
                refine g_getk (C := RX0) (T := TX0) (N := 14) hx hb hts (mc_ inX0) hown hK g rfl 2 (by decide) rfl (hts _ (List.mem_cons_of_mem _ t_375)) (fun _ h9 => h9) 4 rfl dX0_closeParts_112 ?_
                refine lv_iload hx hb dX0_closeParts_115 (lv_at hl 3 rfl) ?_
                refine lv_bipush (v := 6) hx hb dX0_closeParts_117 (by decide) ?_
                refine lv_icmp_ne (tgt := 127) hx hb dX0_closeParts_119 (by decide) (fun c_173 => ?_) (fun c_173 => ?_)
                · have fc_173 := neq_f c_173
                  refine lv_bipush (v := 7) hx hb dX0_closeParts_127 (by decide) ?_
                  refine lv_iconst (v := 0) hx hb dX0_closeParts_129 (by decide) ?_
                  refine g_callv (va_runV (As := [.int 7, .int 0]) (rest := []) ⟨hx, hb, hml, hown, hts⟩ (r_X7_emit l dC dI L kd tys f H.size g.2.2.2.1 q0_ mq0_ kq0_ 7 0) (cwV 2 hts (gV_ t_1203 t_1204 t_1205 t_191 t_1206) rfl rfl rfl (by decide +kernel) ⟨(Nat.le_of_ble_eq_true rfl), (Nat.le_of_ble_eq_true rfl)⟩) (pre3V g hK mq0_ kq0_ (by decide) (q := (RX7, TX7, 19)) rfl) rfl rfl hl.1 rfl (lv_room (Nat.le_of_ble_eq_true rfl)) dX0_closeParts_130 ⟨(Nat.le_of_ble_eq_true rfl), (Nat.le_of_ble_eq_true rfl)⟩) g hK (by decide) (by decide) (fx' := [(0, 11, a0_, .int y_171), (0, 10, a0_, .int x_167), (0, 8, a0_, .int y_13), (0, 3, a0_, .ref a_12), (0, 2, a0_, .ref q0_)]) rfl (fun fr_174 H locs hp hMr_174 g => ?_)
                  obtain ⟨x_175, h_176, hF_177⟩ := hp
                  have g := g.more hF_177
                  refine lv_goto (tgt := 191) hx hb dX0_closeParts_133 (by decide) ?_
                  refine lv_iconst (v := 1) hx hb dX0_closeParts_191 (by decide) ?_
                  refine lv_iload hx hb dX0_closeParts_192 (lv_at hl 2 rfl) ?_
                  refine lv_if_eq (tgt := 202) hx hb dX0_closeParts_194 (by decide) (fun c_ => absurd c_ (by decide)) (fun c_ => ?_)
                  refine lv_iload hx hb dX0_closeParts_197 (lv_at hl 0 rfl) ?_
                  refine lv_goto (tgt := 211) hx hb dX0_closeParts_199 (by decide) ?_
                  refine lv_iadd hx hb dX0_closeParts_211 ?_
                  refine lv_topi (fun y_178 ey_178 => ?_)
                  refine lv_istore (lv' := [(6, .int y_178), (2, .int 1), (5, .int 1), (4, .int x_15), (3, .int v4_3), (0, .ref a0_), (1, .int x1_)]) hx hb dX0_closeParts_212 hl (by decide) rfl (fun ls hl => ?_)
                  refine lv_aload_n hx hb dX0_closeParts_214 rfl (lv_at hl 5 rfl) ?_
                  refine lv_iload hx hb dX0_closeParts_215 (lv_at hl 0 rfl) ?_
                  refine g_callv (va_runV (As := [.int y_178]) (rest := []) ⟨hx, hb, hml, hown, hts⟩ (r_X0_addWhole l dC dI L kd tys fr_174 H.size g.2.2.2.1 a0_ ma0_ ka0_ y_178) (cwV 1 hts (gV_ t_1211 t_1213 t_17 t_190 t_1214) rfl rfl rfl (by decide +kernel) ⟨(Nat.le_of_ble_eq_true rfl), (Nat.le_of_ble_eq_true rfl)⟩) (pre3V g hK ma0_ ka0_ (by decide) (q := (RX0, TX0, 14)) rfl) rfl rfl hl.1 rfl (lv_room (Nat.le_of_ble_eq_true rfl)) dX0_closeParts_217 ⟨(Nat.le_of_ble_eq_true rfl), (Nat.le_of_ble_eq_true rfl)⟩) g hK (by decide) (by decide) (fx' := [(7, 6, q0_, .int x_175), (0, 11, a0_, .int y_171), (0, 8, a0_, .int y_13), (0, 3, a0_, .ref a_12), (0, 2, a0_, .ref q0_)]) rfl (fun fr_179 H locs hp hMr_179 g => ?_)
                  obtain ⟨x_180, h_181, hF_182⟩ := hp
                  have g := g.more hF_182
                  refine lv_iload hx hb dX0_closeParts_220 (lv_at hl 0 rfl) ?_
                  refine lv_bipush (v := 12) hx hb dX0_closeParts_222 (by decide) ?_
                  have kb_12 : bd 12 12 (12 : Int32) := ⟨by decide, by decide⟩
                  refine lv_icmp_le (tgt := 245) hx hb dX0_closeParts_224 (by decide) (fun c_183 => ?_) (fun c_183 => ?_)
                  · have fc_183 := le_f c_183
                    have b_184 : bd (-2147483648) 12 y_178 := leL fc_183 (bdT y_178) kb_12 (by decide)
                    obtain ⟨y_185, ey_185⟩ : ∃ z : Int32, z = v4_3 + 1 := ⟨_, rfl⟩
                    refine lv_iinc (v := y_185) (lv' := [(3, .int y_185), (6, .int y_178), (2, .int 1), (5, .int 1), (4, .int x_15), (0, .ref a0_), (1, .int x1_)]) hx hb dX0_closeParts_245 hl (k := 4) rfl (by rw [ey_185]; rfl) (by decide) rfl (fun ls hl => ?_)
                    have ty_185 := add_bd ey_185 b_4 kb_1 (by decide)
                    have b_186 : bd 1 300 y_185 := add_rg ty_185 b_4 kb_1 (by decide)
                    refine lv_goto (tgt := 4) hx hb dX0_closeParts_248 (by decide) ?_
                    have hl9 := lv_sub hl [0, 2, 5, 6] (by rfl : lv_pick [(3, .int y_185), (6, .int y_178), (2, .int 1), (5, .int 1), (4, .int x_15), (0, .ref a0_), (1, .int x1_)] [0, 2, 5, 6] = [(3, .int y_185), (2, .int 1), (0, .ref a0_), (1, .int x1_)])
                    have g9 := g.sub (fx' := [(0, 2, a0_, .ref q0_)]) [6] rfl
                    exact ih4  y_185 1 (bd_sub b_186 (by decide)) (bd_sub kb_1 (by decide)) (by have h9_0 := b_186; unfold bd at h9_0; have h9_1 := bv4_2; unfold bd at h9_1; have h9_2 := bv4_3; unfold bd at h9_2; have h9_3 := kb_0; unfold bd at h9_3; have h9_4 := kb_1; unfold bd at h9_4; have h9_5 := kb_12; unfold bd at h9_5; have h9_6 := kb_300; unfold bd at h9_6; have h9_7 := kb_6; unfold bd at h9_7; have h9_8 := kb_7; unfold bd at h9_8; omega) _ _ _ _ g9  hl9
                  · have fc_183 := nle_f c_183
                    have b_187 : bd 13 2147483647 y_178 := ltR fc_183 kb_12 (bdT y_178) (by decide)
                    refine lv_aload_n hx hb dX0_closeParts_227 rfl (lv_at hl 5 rfl) ?_
                    refine g_getr (K := 8) (C := RX0) (T := TX0) (N := 14) hx hb hts (mc_ inX0) hown hK g ma0_ ka0_ (by decide) rfl 0 (by decide) rfl (hts _ (List.mem_cons_of_mem _ t_373)) (fun _ h9 => h9) rfl dX0_closeParts_228 (fun a_188 ma_188 ka_188 g => ?_)
                    refine lv_bipush (v := 7) hx hb dX0_closeParts_231 (by decide) ?_
                    refine lv_aload_n hx hb dX0_closeParts_233 rfl (lv_at hl 5 rfl) ?_
                    refine g_getr (K := 111) (C := RX0) (T := TX0) (N := 14) hx hb hts (mc_ inX0) hown hK g ma0_ ka0_ (by decide) rfl 4 (by decide) rfl (hts _ (List.mem_cons_of_mem _ t_377)) (fun _ h9 => h9) rfl dX0_closeParts_234 (fun a_189 ma_189 ka_189 g => ?_)
                    refine lv_aload_n hx hb dX0_closeParts_237 rfl (lv_at hl 5 rfl) ?_
                    refine g_getk (C := RX0) (T := TX0) (N := 14) hx hb hts (mc_ inX0) hown hK g rfl 8 (by decide) rfl (hts _ (List.mem_cons_of_mem _ t_381)) (fun _ h9 => h9) 6 rfl dX0_closeParts_238 ?_
                    refine g_iald hx hb hK g ma_189 ka_189 (by decide) rfl (in_bd b_14 (by decide)) dX0_closeParts_241 (fun x_190 bx_190 cx_190 => ?_)
                    refine g_callv (va_runV (As := [.int 7, .int x_190]) (rest := []) ⟨hx, hb, hml, hown, hts⟩ (r_X8_fail_10 l dC dI L kd tys fr_179 H.size g.2.2.2.1 a_188 ma_188 ka_188 7 kb_7 x_190) (cwV 2 hts (gV_ t_1215 t_1107 t_1108 t_184 t_1109) rfl rfl rfl (by decide +kernel) ⟨(Nat.le_of_ble_eq_true rfl), (Nat.le_of_ble_eq_true rfl)⟩) (pre3V g hK ma_188 ka_188 (by decide) (q := (RX8, TX8, 10)) rfl) rfl rfl hl.1 rfl (lv_room (Nat.le_of_ble_eq_true rfl)) dX0_closeParts_242 ⟨(Nat.le_of_ble_eq_true rfl), (Nat.le_of_ble_eq_true rfl)⟩) g hK (by decide) (by decide) (fx' := [(0, 4, a0_, .ref a_189), (0, 0, a0_, .ref a_188), (0, 12, a0_, .int 0), (0, 10, a0_, .int x_180), (7, 6, q0_, .int x_175), (0, 11, a0_, .int y_171), (0, 8, a0_, .int y_13), (0, 3, a0_, .ref a_12), (0, 2, a0_, .ref q0_)]) rfl (fun fr_191 H locs hp hMr_191 g => ?_)
                    obtain ⟨x_192, h_193, hF_194⟩ := hp
                    have g := g.more hF_194
                    obtain ⟨y_195, ey_195⟩ : ∃ z : Int32, z = v4_3 + 1 := ⟨_, rfl⟩
                    refine lv_iinc (v := y_195) (lv' := [(3, .int y_195), (6, .int y_178), (2, .int 1), (5, .int 1), (4, .int x_15), (0, .ref a0_), (1, .int x1_)]) hx hb dX0_closeParts_245 hl (k := 4) rfl (by rw [ey_195]; rfl) (by decide) rfl (fun ls hl => ?_)
                    have ty_195 := add_bd ey_195 b_4 kb_1 (by decide)
                    have b_196 : bd 1 300 y_195 := add_rg ty_195 b_4 kb_1 (by decide)
                    refine lv_goto (tgt := 4) hx hb dX0_closeParts_248 (by decide) ?_
                    have hl9 := lv_sub hl [0, 2, 5, 6] (by rfl : lv_pick [(3, .int y_195), (6, .int y_178), (2, .int 1), (5, .int 1), (4, .int x_15), (0, .ref a0_), (1, .int x1_)] [0, 2, 5, 6] = [(3, .int y_195), (2, .int 1), (0, .ref a0_), (1, .int x1_)])
                    have g9 := g.sub (fx' := [(0, 2, a0_, .ref q0_)]) [10] rfl
                    exact ih4  y_195 1 (bd_sub b_196 (by decide)) (bd_sub kb_1 (by decide)) (by have h9_0 := b_196; unfold bd at h9_0; have h9_1 := bv4_2; unfold bd at h9_1; have h9_2 := bv4_3; unfold bd at h9_2; have h9_3 := kb_0; unfold bd at h9_3; have h9_4 := kb_1; unfold bd at h9_4; have h9_5 := kb_12; unfold bd at h9_5; have h9_6 := kb_300; unfold bd at h9_6; have h9_7 := kb_6; unfold bd at h9_7; have h9_8 := kb_7; unfold bd at h9_8; omega) _ _ _ _ g9  hl9
                · have fc_173 := eq_f c_173
                  have b_197 : bd 7 6 x_15 := eqX fc_173 b_163 kb_6 (by decide)
                  exact bd_no b_197 (by decide)
  have kb_0 : bd 0 0 (0 : Int32) := ⟨by decide, by decide⟩
  have kb_1 : bd 1 1 (1 : Int32) := ⟨by decide, by decide⟩
  have hl9 := lv_sub hl [0, 1, 2, 3] (by rfl : lv_pick [(3, .int 0), (2, .int 1), (0, .ref a0_), (1, .int x1_)] [0, 1, 2, 3] = [(3, .int 0), (2, .int 1), (0, .ref a0_), (1, .int x1_)])
  have g9 := g.sub (fx' := [(0, 2, a0_, .ref q0_)]) [0] rfl
  exact loop_1 (603) 0 1 (bd_sub kb_0 (by decide)) (bd_sub kb_1 (by decide)) (by have h9_0 := kb_0; unfold bd at h9_0; have h9_1 := kb_1; unfold bd at h9_1; omega) _ _ _ _ g9  hl9
set_option maxHeartbeats 4000000 in
set_option maxRecDepth 100000 in
theorem r_X1_readyToAsk (l : Launch) (dC : Nat → ClassId) (dI : Nat → Nat → Nat) (L : List Nat) (kd : Nat → Nat) (tys : List (ClassId × FieldType)) (f0 : Nat → va_E) (sz : Nat) (hWT : WT L kd tys f0) (a0_ : Nat) (ma0_ : a0_ ∈ L) (ka0_ : kd a0_ = 1) (x1_ : Int32) (x2_ : Int32) : Met l yX1_readyToAsk (.code yX1_readyToAsk cX1_readyToAsk 3 none :: lw_g) ({ frames := 0, cells := 0, slots := 0, locals := 0 }) (va_Pc [.ref a0_, .int x1_, .int x2_] (P3 (dC, dI) L tys f0 sz)) (va_Qv (fun (f : Nat → va_E) => (Fs L kd f [(1, 12, a0_, .int 0), (1, 5, a0_, .int 1)])) (Q3 (dC, dI) L kd tys [(1, 5), (1, 6), (1, 12), (1, 13)] [] f0 sz) (pA L sz)) 0 0 (pA L sz) := by
  refine Met.ofW (cc := cX1_readyToAsk) (maxL := 3) (ret := none) (by decide) rfl ?_
  intro p e s m args below meth c s₁ B hml hv
  obtain ⟨rfl, hsz, hP, hK, hD0⟩ := hv
  have hx := B.exec
  have hb := B.bytes
  have hr := B.returns
  have hts := atoms_spec (ws := (.code yX1_readyToAsk cX1_readyToAsk 3 none :: lw_g)) B.pre
  have hown : s.vm.findClass RX1 = some m.cls := findClass_of_methodNamed B.named
  have hlocks := B.notSynchronized
  subst hsz
  have g : G3 (dC, dI) L kd tys s f0 [(1, 5), (1, 6), (1, 12), (1, 13)] [] f0 s.heap [] [] := G3.start hP hD0 hWT Fs.nil
  have hl := lv_entry ([.ref a0_, .int x1_, .int x2_]) (n := 3) (Nat.le_of_ble_eq_true rfl)
  rw [lg_entry_eq]
  generalize (lg_sl ([.ref a0_, .int x1_, .int x2_]) ++ List.replicate (3 - (lg_sl ([.ref a0_, .int x1_, .int x2_])).length) Slot.unset).toArray = ls at hl ⊢
  have hl : lv_has ls 3 [(0, .ref a0_), (1, .int x1_), (2, .int x2_)] := hl
  refine W_q (fun Q hQ => ?_)
  refine lv_aload_n hx hb dX1_readyToAsk_0 rfl (lv_at hl 0 rfl) ?_
  refine lv_iconst (v := 1) hx hb dX1_readyToAsk_1 (by decide) ?_
  have kb_1 : bd 1 1 (1 : Int32) := ⟨by decide, by decide⟩
  refine g_put (C := RX1) (T := TX1) (N := 18) hx hb hts (mc_ inX1) tyX1 tyX1_ok nmX1 hown hK g ma0_ ka0_ (by decide) rfl 5 (by decide) (hts _ (List.mem_cons_of_mem _ t_740)) (fun _ h9 => h9) rfl rfl (okV_i (bd_sub kb_1 (by decide))) rfl rfl (by decide) (Or.inr (Or.inl (by decide))) (fx' := []) rfl dX1_readyToAsk_2 (fun f H locs hM_1 g => ?_)
  refine lv_aload_n hx hb dX1_readyToAsk_5 rfl (lv_at hl 0 rfl) ?_
  refine lv_iload_n hx hb dX1_readyToAsk_6 rfl (lv_at hl 2 rfl) ?_
  refine g_put (C := RX1) (T := TX1) (N := 18) hx hb hts (mc_ inX1) tyX1 tyX1_ok nmX1 hown hK g ma0_ ka0_ (by decide) rfl 6 (by decide) (hts _ (List.mem_cons_of_mem _ t_741)) (fun _ h9 => h9) rfl rfl (okV_i (bdT x2_)) rfl rfl (by decide) (Or.inr (Or.inl (by decide))) (fx' := [(1, 5, a0_, .int 1)]) rfl dX1_readyToAsk_7 (fun f H locs hM_2 g => ?_)
  refine lv_aload_n hx hb dX1_readyToAsk_10 rfl (lv_at hl 0 rfl) ?_
  refine lv_iconst (v := 0) hx hb dX1_readyToAsk_11 (by decide) ?_
  have kb_0 : bd 0 0 (0 : Int32) := ⟨by decide, by decide⟩
  refine g_put (C := RX1) (T := TX1) (N := 18) hx hb hts (mc_ inX1) tyX1 tyX1_ok nmX1 hown hK g ma0_ ka0_ (by decide) rfl 12 (by decide) (hts _ (List.mem_cons_of_mem _ t_747)) (fun _ h9 => h9) rfl rfl (okV_i (bd_sub kb_0 (by decide))) rfl rfl (by decide) (Or.inr (Or.inl (by decide))) (fx' := [(1, 6, a0_, .int x2_), (1, 5, a0_, .int 1)]) rfl dX1_readyToAsk_12 (fun f H locs hM_3 g => ?_)
  refine lv_aload_n hx hb dX1_readyToAsk_15 rfl (lv_at hl 0 rfl) ?_
  refine lv_iload_n hx hb dX1_readyToAsk_16 rfl (lv_at hl 1 rfl) ?_
  refine g_put (C := RX1) (T := TX1) (N := 18) hx hb hts (mc_ inX1) tyX1 tyX1_ok nmX1 hown hK g ma0_ ka0_ (by decide) rfl 13 (by decide) (hts _ (List.mem_cons_of_mem _ t_748)) (fun _ h9 => h9) rfl rfl (okV_i (bdT x1_)) rfl rfl (by decide) (Or.inr (Or.inl (by decide))) (fx' := [(1, 12, a0_, .int 0), (1, 6, a0_, .int x2_), (1, 5, a0_, .int 1)]) rfl dX1_readyToAsk_17 (fun f H locs hM_4 g => ?_)
  subst hQ
  exact W.vret hx hb hr (fun t ht hW => ⟨⟨_, rfl, (g.fcts [1, 3] rfl), q3_of g hK ht hW⟩, g.2.2.1.F ht⟩) g.2.2.1.2.2 dX1_readyToAsk_20
set_option maxHeartbeats 4000000 in
set_option maxRecDepth 100000 in
theorem r_X1_readyToCall (l : Launch) (dC : Nat → ClassId) (dI : Nat → Nat → Nat) (L : List Nat) (kd : Nat → Nat) (tys : List (ClassId × FieldType)) (f0 : Nat → va_E) (sz : Nat) (hWT : WT L kd tys f0) (a0_ : Nat) (ma0_ : a0_ ∈ L) (ka0_ : kd a0_ = 1) (a1_ : Nat) (ma1_ : a1_ ∈ L) (ka1_ : kd a1_ = 6) : Met l yX1_readyToCall (.code yX1_readyToCall cX1_readyToCall 2 none :: lw_g) ({ frames := 0, cells := 0, slots := 0, locals := 0 }) (va_Pc [.ref a0_, .ref a1_] (P3 (dC, dI) L tys f0 sz)) (va_Qv (fun (f : Nat → va_E) => (Fs L kd f [(1, 12, a0_, .int 1), (1, 6, a0_, .int 0), (1, 5, a0_, .int 0)])) (Q3 (dC, dI) L kd tys [(1, 5), (1, 6), (1, 12), (1, 13)] [] f0 sz) (pA L sz)) 0 0 (pA L sz) := by
  refine Met.ofW (cc := cX1_readyToCall) (maxL := 2) (ret := none) (by decide) rfl ?_
  intro p e s m args below meth c s₁ B hml hv
  obtain ⟨rfl, hsz, hP, hK, hD0⟩ := hv
  have hx := B.exec
  have hb := B.bytes
  have hr := B.returns
  have hts := atoms_spec (ws := (.code yX1_readyToCall cX1_readyToCall 2 none :: lw_g)) B.pre
  have hown : s.vm.findClass RX1 = some m.cls := findClass_of_methodNamed B.named
  have hlocks := B.notSynchronized
  subst hsz
  have g : G3 (dC, dI) L kd tys s f0 [(1, 5), (1, 6), (1, 12), (1, 13)] [] f0 s.heap [] [] := G3.start hP hD0 hWT Fs.nil
  have hl := lv_entry ([.ref a0_, .ref a1_]) (n := 2) (Nat.le_of_ble_eq_true rfl)
  rw [lg_entry_eq]
  generalize (lg_sl ([.ref a0_, .ref a1_]) ++ List.replicate (2 - (lg_sl ([.ref a0_, .ref a1_])).length) Slot.unset).toArray = ls at hl ⊢
  have hl : lv_has ls 2 [(0, .ref a0_), (1, .ref a1_)] := hl
  refine W_q (fun Q hQ => ?_)
  refine lv_aload_n hx hb dX1_readyToCall_0 rfl (lv_at hl 0 rfl) ?_
  refine lv_iconst (v := 0) hx hb dX1_readyToCall_1 (by decide) ?_
  have kb_0 : bd 0 0 (0 : Int32) := ⟨by decide, by decide⟩
  refine g_put (C := RX1) (T := TX1) (N := 18) hx hb hts (mc_ inX1) tyX1 tyX1_ok nmX1 hown hK g ma0_ ka0_ (by decide) rfl 5 (by decide) (hts _ (List.mem_cons_of_mem _ t_740)) (fun _ h9 => h9) rfl rfl (okV_i (bd_sub kb_0 (by decide))) rfl rfl (by decide) (Or.inr (Or.inl (by decide))) (fx' := []) rfl dX1_readyToCall_2 (fun f H locs hM_1 g => ?_)
  refine lv_aload_n hx hb dX1_readyToCall_5 rfl (lv_at hl 0 rfl) ?_
  refine lv_iconst (v := 0) hx hb dX1_readyToCall_6 (by decide) ?_
  refine g_put (C := RX1) (T := TX1) (N := 18) hx hb hts (mc_ inX1) tyX1 tyX1_ok nmX1 hown hK g ma0_ ka0_ (by decide) rfl 6 (by decide) (hts _ (List.mem_cons_of_mem _ t_741)) (fun _ h9 => h9) rfl rfl (okV_i (bd_sub kb_0 (by decide))) rfl rfl (by decide) (Or.inr (Or.inl (by decide))) (fx' := [(1, 5, a0_, .int 0)]) rfl dX1_readyToCall_7 (fun f H locs hM_2 g => ?_)
  refine lv_aload_n hx hb dX1_readyToCall_10 rfl (lv_at hl 0 rfl) ?_
  refine lv_iconst (v := 1) hx hb dX1_readyToCall_11 (by decide) ?_
  have kb_1 : bd 1 1 (1 : Int32) := ⟨by decide, by decide⟩
  refine g_put (C := RX1) (T := TX1) (N := 18) hx hb hts (mc_ inX1) tyX1 tyX1_ok nmX1 hown hK g ma0_ ka0_ (by decide) rfl 12 (by decide) (hts _ (List.mem_cons_of_mem _ t_747)) (fun _ h9 => h9) rfl rfl (okV_i (bd_sub kb_1 (by decide))) rfl rfl (by decide) (Or.inr (Or.inl (by decide))) (fx' := [(1, 6, a0_, .int 0), (1, 5, a0_, .int 0)]) rfl dX1_readyToCall_12 (fun f H locs hM_3 g => ?_)
  refine lv_aload_n hx hb dX1_readyToCall_15 rfl (lv_at hl 0 rfl) ?_
  refine lv_aload_n hx hb dX1_readyToCall_16 rfl (lv_at hl 1 rfl) ?_
  refine g_geti (C := RX6) (T := TX6) (N := 13) hx hb hts (mc_ inX6) hown hK g ma1_ ka1_ (by decide) rfl 8 (by decide) rfl (hts _ (List.mem_cons_of_mem _ t_582)) (fun _ h9 => h9) rfl dX1_readyToCall_17 (fun x_4 bx_4 g => ?_)
  refine g_put (C := RX1) (T := TX1) (N := 18) hx hb hts (mc_ inX1) tyX1 tyX1_ok nmX1 hown hK g ma0_ ka0_ (by decide) rfl 13 (by decide) (hts _ (List.mem_cons_of_mem _ t_748)) (fun _ h9 => h9) rfl rfl (okV_i (bdT x_4)) rfl rfl (by decide) (Or.inr (Or.inl (by decide))) (fx' := [(6, 8, a1_, .int x_4), (1, 12, a0_, .int 1), (1, 6, a0_, .int 0), (1, 5, a0_, .int 0)]) rfl dX1_readyToCall_20 (fun f H locs hM_5 g => ?_)
  subst hQ
  exact W.vret hx hb hr (fun t ht hW => ⟨⟨_, rfl, (g.fcts [2, 3, 4] rfl), q3_of g hK ht hW⟩, g.2.2.1.F ht⟩) g.2.2.1.2.2 dX1_readyToCall_23
set_option maxHeartbeats 4000000 in
set_option maxRecDepth 100000 in
theorem r_X1_begin (l : Launch) (dC : Nat → ClassId) (dI : Nat → Nat → Nat) (L : List Nat) (kd : Nat → Nat) (tys : List (ClassId × FieldType)) (f0 : Nat → va_E) (sz : Nat) (hWT : WT L kd tys f0) (a0_ : Nat) (ma0_ : a0_ ∈ L) (ka0_ : kd a0_ = 1) : Met l yX1_begin (.code yX1_begin cX1_begin 2 none :: lw_g) ({ frames := 0, cells := 0, slots := 0, locals := 0 }) (va_Pc [.ref a0_] (P3 (dC, dI) L tys f0 sz)) (va_Qv (fun (f : Nat → va_E) => (∃ z4_ : Int32, bd 0 1 z4_ ∧ Fs L kd f [(1, 16, a0_, .int 0), (1, 15, a0_, .int 0), (1, 14, a0_, .int 0), (1, 8, a0_, .int 0), (1, 11, a0_, .int z4_)])) (Q3 (dC, dI) L kd tys [(1, 8), (1, 11), (1, 14), (1, 15), (1, 16)] [116] f0 sz) (pA L sz)) 0 0 (pA L sz) := by
  refine Met.ofW (cc := cX1_begin) (maxL := 2) (ret := none) (by decide) rfl ?_
  intro p e s m args below meth c s₁ B hml hv
  obtain ⟨rfl, hsz, hP, hK, hD0⟩ := hv
  have hx := B.exec
  have hb := B.bytes
  have hr := B.returns
  have hts := atoms_spec (ws := (.code yX1_begin cX1_begin 2 none :: lw_g)) B.pre
  have hown : s.vm.findClass RX1 = some m.cls := findClass_of_methodNamed B.named
  have hlocks := B.notSynchronized
  subst hsz
  have g : G3 (dC, dI) L kd tys s f0 [(1, 8), (1, 11), (1, 14), (1, 15), (1, 16)] [116] f0 s.heap [] [] := G3.start hP hD0 hWT Fs.nil
  have hl := lv_entry ([.ref a0_]) (n := 2) (Nat.le_of_ble_eq_true rfl)
  rw [lg_entry_eq]
  generalize (lg_sl ([.ref a0_]) ++ List.replicate (2 - (lg_sl ([.ref a0_])).length) Slot.unset).toArray = ls at hl ⊢
  have hl : lv_has ls 2 [(0, .ref a0_)] := hl
  refine W_q (fun Q hQ => ?_)
  refine lv_aload_n hx hb dX1_begin_0 rfl (lv_at hl 0 rfl) ?_
  refine lv_aload_n hx hb dX1_begin_1 rfl (lv_at hl 0 rfl) ?_
  refine g_geti (C := RX1) (T := TX1) (N := 18) hx hb hts (mc_ inX1) hown hK g ma0_ ka0_ (by decide) rfl 12 (by decide) rfl (hts _ (List.mem_cons_of_mem _ t_747)) (fun _ h9 => h9) rfl dX1_begin_2 (fun x_1 bx_1 g => ?_)
  refine g_put (C := RX1) (T := TX1) (N := 18) hx hb hts (mc_ inX1) tyX1 tyX1_ok nmX1 hown hK g ma0_ ka0_ (by decide) rfl 11 (by decide) (hts _ (List.mem_cons_of_mem _ t_746)) (fun _ h9 => h9) rfl rfl (okV_i (bd_sub bx_1 (by decide))) rfl rfl (by decide) (Or.inr (Or.inl (by decide))) (fx' := [(1, 12, a0_, .int x_1)]) rfl dX1_begin_5 (fun f H locs hM_2 g => ?_)
  refine lv_aload_n hx hb dX1_begin_8 rfl (lv_at hl 0 rfl) ?_
  refine lv_iconst (v := 0) hx hb dX1_begin_9 (by decide) ?_
  have kb_0 : bd 0 0 (0 : Int32) := ⟨by decide, by decide⟩
  refine g_put (C := RX1) (T := TX1) (N := 18) hx hb hts (mc_ inX1) tyX1 tyX1_ok nmX1 hown hK g ma0_ ka0_ (by decide) rfl 8 (by decide) (hts _ (List.mem_cons_of_mem _ t_743)) (fun _ h9 => h9) rfl rfl (okV_i (bd_sub kb_0 (by decide))) rfl rfl (by decide) (Or.inr (Or.inl (by decide))) (fx' := [(1, 11, a0_, .int x_1), (1, 12, a0_, .int x_1)]) rfl dX1_begin_10 (fun f H locs hM_3 g => ?_)
  refine lv_aload_n hx hb dX1_begin_13 rfl (lv_at hl 0 rfl) ?_
  refine lv_iconst (v := 0) hx hb dX1_begin_14 (by decide) ?_
  refine g_put (C := RX1) (T := TX1) (N := 18) hx hb hts (mc_ inX1) tyX1 tyX1_ok nmX1 hown hK g ma0_ ka0_ (by decide) rfl 14 (by decide) (hts _ (List.mem_cons_of_mem _ t_749)) (fun _ h9 => h9) rfl rfl (okV_i (bd_sub kb_0 (by decide))) rfl rfl (by decide) (Or.inr (Or.inl (by decide))) (fx' := [(1, 8, a0_, .int 0), (1, 11, a0_, .int x_1), (1, 12, a0_, .int x_1)]) rfl dX1_begin_15 (fun f H locs hM_4 g => ?_)
  refine lv_aload_n hx hb dX1_begin_18 rfl (lv_at hl 0 rfl) ?_
  refine lv_iconst (v := 0) hx hb dX1_begin_19 (by decide) ?_
  refine g_put (C := RX1) (T := TX1) (N := 18) hx hb hts (mc_ inX1) tyX1 tyX1_ok nmX1 hown hK g ma0_ ka0_ (by decide) rfl 15 (by decide) (hts _ (List.mem_cons_of_mem _ t_750)) (fun _ h9 => h9) rfl rfl (okV_i (bd_sub kb_0 (by decide))) rfl rfl (by decide) (Or.inr (Or.inl (by decide))) (fx' := [(1, 14, a0_, .int 0), (1, 8, a0_, .int 0), (1, 11, a0_, .int x_1), (1, 12, a0_, .int x_1)]) rfl dX1_begin_20 (fun f H locs hM_5 g => ?_)
  refine lv_aload_n hx hb dX1_begin_23 rfl (lv_at hl 0 rfl) ?_
  refine lv_iconst (v := 0) hx hb dX1_begin_24 (by decide) ?_
  refine g_put (C := RX1) (T := TX1) (N := 18) hx hb hts (mc_ inX1) tyX1 tyX1_ok nmX1 hown hK g ma0_ ka0_ (by decide) rfl 16 (by decide) (hts _ (List.mem_cons_of_mem _ t_752)) (fun _ h9 => h9) rfl rfl (okV_i (bd_sub kb_0 (by decide))) rfl rfl (by decide) (Or.inr (Or.inl (by decide))) (fx' := [(1, 15, a0_, .int 0), (1, 14, a0_, .int 0), (1, 8, a0_, .int 0), (1, 11, a0_, .int x_1), (1, 12, a0_, .int x_1)]) rfl dX1_begin_25 (fun f H locs hM_6 g => ?_)
  refine lv_iconst (v := 0) hx hb dX1_begin_28 (by decide) ?_
  refine lv_istore_n (lv' := [(1, .int 0), (0, .ref a0_)]) hx hb dX1_begin_29 rfl hl (by decide) rfl (fun ls hl => ?_)
  have loop_7 : ∀ (n : Nat) (v30_1 : Int32), bd 0 3 v30_1 → (3 - v30_1.toInt < (n : Int)) → ∀ (f : Nat → va_E) (H : Heap) (locs : List Loc) (ls : Array Slot), G3 (dC, dI) L kd tys s f0 [(1, 8), (1, 11), (1, 14), (1, 15), (1, 16)] [116] f H locs [(1, 16, a0_, .int 0), (1, 15, a0_, .int 0), (1, 14, a0_, .int 0), (1, 8, a0_, .int 0), (1, 11, a0_, .int x_1), (1, 12, a0_, .int x_1)] → lv_has ls 2 [(1, .int v30_1), (0, .ref a0_)] → W p l e ({ frames := 0, cells := 0, slots := 0, locals := 0 } : Room) s m [.ref a0_].toArray below meth c H locs 0 0 Q (F0 m 30 ls []) := by
    intro n30
    induction n30 with
    | zero =>
      intro v30_1 bv30_1 hm30 f H locs ls g  hl
      exact absurd hm30 (by have h9_v30_1 := bv30_1; unfold bd at h9_v30_1; omega)
    | succ n30 ih30 =>
      intro v30_1 bv30_1 hm30 f H locs ls g  hl
      refine lv_iload_n hx hb dX1_begin_30 rfl (lv_at hl 0 rfl) ?_
      refine lv_iconst (v := 3) hx hb dX1_begin_31 (by decide) ?_
      have kb_3 : bd 3 3 (3 : Int32) := ⟨by decide, by decide⟩
      refine lv_icmp_ge (tgt := 70) hx hb dX1_begin_32 (by decide) (fun c_8 => ?_) (fun c_8 => ?_)
      · have fc_8 := le_f c_8
        have b_9 : bd 3 3 v30_1 := leR fc_8 kb_3 bv30_1 (by decide)
        subst hQ
        exact W.vret hx hb hr (fun t ht hW => ⟨⟨_, rfl, ⟨x_1, bx_1, (g.fcts [0, 1, 2, 3, 4] rfl)⟩, q3_of g hK ht hW⟩, g.2.2.1.F ht⟩) g.2.2.1.2.2 dX1_begin_70
      · have fc_8 := nle_f c_8
        have b_10 : bd 0 2 v30_1 := ltL fc_8 bv30_1 kb_3 (by decide)
        refine lv_iload_n hx hb dX1_begin_35 rfl (lv_at hl 0 rfl) ?_
        refine lv_aload_n hx hb dX1_begin_36 rfl (lv_at hl 1 rfl) ?_
        refine g_getu (lo := 100) (hi := 103) (C := RX1) (T := TX1) (N := 18) hx hb hts (mc_ inX1) hown hK g ma0_ ka0_ (by decide) rfl 4 (by decide) rfl (hts _ (List.mem_cons_of_mem _ t_739)) (fun _ h9 => h9) rfl dX1_begin_37 (fun a_11 ma_11 ka_11 g => ?_)
        refine g_alenU hx hb hK g ma_11 ka_11 dX1_begin_40 (fun x_12 ex_12 bx_12 => ?_)
        refine lv_icmp_ge (tgt := 70) hx hb dX1_begin_41 (by decide) (fun c_13 => ?_) (fun c_13 => ?_)
        · have fc_13 := le_f c_13
          have b_14 : bd 3 2 x_12 := leL fc_13 bx_12 b_10 (by decide)
          exact bd_no b_14 (by decide)
        · have fc_13 := nle_f c_13
          refine lv_aload_n hx hb dX1_begin_44 rfl (lv_at hl 1 rfl) ?_
          refine g_getr (K := 116) (C := RX1) (T := TX1) (N := 18) hx hb hts (mc_ inX1) hown hK g ma0_ ka0_ (by decide) rfl 9 (by decide) rfl (hts _ (List.mem_cons_of_mem _ t_744)) (fun _ h9 => h9) rfl dX1_begin_45 (fun a_15 ma_15 ka_15 g => ?_)
          refine lv_aload_n hx hb dX1_begin_48 rfl (lv_at hl 1 rfl) ?_
          refine g_getk (C := RX1) (T := TX1) (N := 18) hx hb hts (mc_ inX1) hown hK g rfl 11 (by decide) rfl (hts _ (List.mem_cons_of_mem _ t_746)) (fun _ h9 => h9) 6 rfl dX1_begin_49 ?_
          refine lv_bipush (v := 11) hx hb dX1_begin_52 (by decide) ?_
          refine lv_imul hx hb dX1_begin_54 ?_
          refine lv_topi (fun y_16 ey_16 => ?_)
          have ty_16 := mulc_bd ey_16 (c := 11) (by decide) bx_1 (by decide)
          have b_17 : bd 0 11 y_16 := mulc_rg ty_16 bx_1 (by decide)
          refine lv_iload_n hx hb dX1_begin_55 rfl (lv_at hl 0 rfl) ?_
          refine lv_iadd hx hb dX1_begin_56 ?_
          refine lv_topi (fun y_18 ey_18 => ?_)
          have ty_18 := add_bd ey_18 b_17 b_10 (by decide)
          have b_19 : bd 0 13 y_18 := add_rg ty_18 b_17 b_10 (by decide)
          refine lv_aload_n hx hb dX1_begin_57 rfl (lv_at hl 1 rfl) ?_
          refine g_getk (C := RX1) (T := TX1) (N := 18) hx hb hts (mc_ inX1) hown hK g rfl 4 (by decide) rfl (hts _ (List.mem_cons_of_mem _ t_739)) (fun _ h9 => h9) 1 rfl dX1_begin_58 ?_
          refine lv_iload_n hx hb dX1_begin_61 rfl (lv_at hl 0 rfl) ?_
          refine g_ialdU hx hb hK g ma_11 ka_11 (in_ok (by have h9 := b_10; unfold bd at h9; omega) (by omega)) dX1_begin_62 (fun x_20 => ?_)
          refine g_iast hx hb hK g ma_15 ka_15 (by decide) rfl (in_bd b_19 (by decide)) (bdT x_20) (by decide) dX1_begin_63 (fun f H locs hM_21 g => ?_)
          have kb_1 : bd 1 1 (1 : Int32) := ⟨by decide, by decide⟩
          obtain ⟨y_22, ey_22⟩ : ∃ z : Int32, z = v30_1 + 1 := ⟨_, rfl⟩
          refine lv_iinc (v := y_22) (lv' := [(1, .int y_22), (0, .ref a0_)]) hx hb dX1_begin_64 hl (k := 0) rfl (by rw [ey_22]; rfl) (by decide) rfl (fun ls hl => ?_)
          have ty_22 := add_bd ey_22 b_10 kb_1 (by decide)
          have b_23 : bd 1 3 y_22 := add_rg ty_22 b_10 kb_1 (by decide)
          refine lv_goto (tgt := 30) hx hb dX1_begin_67 (by decide) ?_
          have hl9 := lv_sub hl [0, 1] (by rfl : lv_pick [(1, .int y_22), (0, .ref a0_)] [0, 1] = [(1, .int y_22), (0, .ref a0_)])
          have g9 := g.sub (fx' := [(1, 16, a0_, .int 0), (1, 15, a0_, .int 0), (1, 14, a0_, .int 0), (1, 8, a0_, .int 0), (1, 11, a0_, .int x_1), (1, 12, a0_, .int x_1)]) [2, 3, 4, 5, 6, 7] rfl
          exact ih30  y_22 (bd_sub b_23 (by decide)) (by have h9_0 := b_23; unfold bd at h9_0; have h9_1 := bv30_1; unfold bd at h9_1; have h9_2 := kb_0; unfold bd at h9_2; have h9_3 := kb_1; unfold bd at h9_3; have h9_4 := kb_3; unfold bd at h9_4; omega) _ _ _ _ g9  hl9
  have hl9 := lv_sub hl [0, 1] (by rfl : lv_pick [(1, .int 0), (0, .ref a0_)] [0, 1] = [(1, .int 0), (0, .ref a0_)])
  have g9 := g.sub (fx' := [(1, 16, a0_, .int 0), (1, 15, a0_, .int 0), (1, 14, a0_, .int 0), (1, 8, a0_, .int 0), (1, 11, a0_, .int x_1), (1, 12, a0_, .int x_1)]) [0, 1, 2, 3, 4, 5] rfl
  exact loop_7 (9) 0 (bd_sub kb_0 (by decide)) (by have h9_0 := kb_0; unfold bd at h9_0; omega) _ _ _ _ g9  hl9
set_option maxHeartbeats 4000000 in
set_option maxRecDepth 100000 in
theorem r_X1_push (l : Launch) (dC : Nat → ClassId) (dI : Nat → Nat → Nat) (L : List Nat) (kd : Nat → Nat) (tys : List (ClassId × FieldType)) (f0 : Nat → va_E) (sz : Nat) (hWT : WT L kd tys f0) (a0_ : Nat) (ma0_ : a0_ ∈ L) (ka0_ : kd a0_ = 1) (x1_ : Int32) : Met l yX1_push (.code yX1_push cX1_push 2 none :: lw_g) ({ frames := 0, cells := 0, slots := 0, locals := 0 }) (va_Pc [.ref a0_, .int x1_] (P3 (dC, dI) L tys f0 sz)) (va_Qv (fun (f : Nat → va_E) => (∃ z0_ : Int32, bd 1 700 z0_ ∧ Fs L kd f [(1, 8, a0_, .int z0_)])) (Q3 (dC, dI) L kd tys [(1, 8)] [100] f0 sz) (pA L sz)) 0 0 (pA L sz) := by
  refine Met.ofW (cc := cX1_push) (maxL := 2) (ret := none) (by decide) rfl ?_
  intro p e s m args below meth c s₁ B hml hv
  obtain ⟨rfl, hsz, hP, hK, hD0⟩ := hv
  have hx := B.exec
  have hb := B.bytes
  have hr := B.returns
  have hts := atoms_spec (ws := (.code yX1_push cX1_push 2 none :: lw_g)) B.pre
  have hown : s.vm.findClass RX1 = some m.cls := findClass_of_methodNamed B.named
  have hlocks := B.notSynchronized
  subst hsz
  have g : G3 (dC, dI) L kd tys s f0 [(1, 8)] [100] f0 s.heap [] [] := G3.start hP hD0 hWT Fs.nil
  have hl := lv_entry ([.ref a0_, .int x1_]) (n := 2) (Nat.le_of_ble_eq_true rfl)
  rw [lg_entry_eq]
  generalize (lg_sl ([.ref a0_, .int x1_]) ++ List.replicate (2 - (lg_sl ([.ref a0_, .int x1_])).length) Slot.unset).toArray = ls at hl ⊢
  have hl : lv_has ls 2 [(0, .ref a0_), (1, .int x1_)] := hl
  refine W_q (fun Q hQ => ?_)
  refine lv_aload_n hx hb dX1_push_0 rfl (lv_at hl 0 rfl) ?_
  refine g_geti (C := RX1) (T := TX1) (N := 18) hx hb hts (mc_ inX1) hown hK g ma0_ ka0_ (by decide) rfl 8 (by decide) rfl (hts _ (List.mem_cons_of_mem _ t_743)) (fun _ h9 => h9) rfl dX1_push_1 (fun x_1 bx_1 g => ?_)
  refine lv_sipush (v := 700) hx hb dX1_push_4 (by decide) ?_
  have kb_700 : bd 700 700 (700 : Int32) := ⟨by decide, by decide⟩
  refine lv_icmp_ge (tgt := 30) hx hb dX1_push_7 (by decide) (fun c_2 => ?_) (fun c_2 => ?_)
  · have fc_2 := le_f c_2
    have b_3 : bd 700 700 x_1 := leR fc_2 kb_700 bx_1 (by decide)
    subst hQ
    exact W.vret hx hb hr (fun t ht hW => ⟨⟨_, rfl, ⟨x_1, (bd_sub b_3 (by decide)), (g.fcts [0] rfl)⟩, q3_of g hK ht hW⟩, g.2.2.1.F ht⟩) g.2.2.1.2.2 dX1_push_30
  · have fc_2 := nle_f c_2
    have b_4 : bd 0 699 x_1 := ltL fc_2 bx_1 kb_700 (by decide)
    refine lv_aload_n hx hb dX1_push_10 rfl (lv_at hl 0 rfl) ?_
    refine g_getr (K := 100) (C := RX1) (T := TX1) (N := 18) hx hb hts (mc_ inX1) hown hK g ma0_ ka0_ (by decide) rfl 7 (by decide) rfl (hts _ (List.mem_cons_of_mem _ t_742)) (fun _ h9 => h9) rfl dX1_push_11 (fun a_5 ma_5 ka_5 g => ?_)
    refine lv_aload_n hx hb dX1_push_14 rfl (lv_at hl 0 rfl) ?_
    refine g_getk (C := RX1) (T := TX1) (N := 18) hx hb hts (mc_ inX1) hown hK g rfl 8 (by decide) rfl (hts _ (List.mem_cons_of_mem _ t_743)) (fun _ h9 => h9) 1 rfl dX1_push_15 ?_
    refine lv_iload_n hx hb dX1_push_18 rfl (lv_at hl 1 rfl) ?_
    refine g_iast hx hb hK g ma_5 ka_5 (by decide) rfl (in_bd b_4 (by decide)) (bdT x1_) (by decide) dX1_push_19 (fun f H locs hM_6 g => ?_)
    refine lv_aload_n hx hb dX1_push_20 rfl (lv_at hl 0 rfl) ?_
    refine lv_dup hx hb dX1_push_21 rfl ?_
    refine g_getk (C := RX1) (T := TX1) (N := 18) hx hb hts (mc_ inX1) hown hK g rfl 8 (by decide) rfl (hts _ (List.mem_cons_of_mem _ t_743)) (fun _ h9 => h9) 1 rfl dX1_push_22 ?_
    refine lv_iconst (v := 1) hx hb dX1_push_25 (by decide) ?_
    have kb_1 : bd 1 1 (1 : Int32) := ⟨by decide, by decide⟩
    refine lv_iadd hx hb dX1_push_26 ?_
    refine lv_topi (fun y_7 ey_7 => ?_)
    have ty_7 := add_bd ey_7 b_4 kb_1 (by decide)
    have b_8 : bd 1 700 y_7 := add_rg ty_7 b_4 kb_1 (by decide)
    refine g_put (C := RX1) (T := TX1) (N := 18) hx hb hts (mc_ inX1) tyX1 tyX1_ok nmX1 hown hK g ma0_ ka0_ (by decide) rfl 8 (by decide) (hts _ (List.mem_cons_of_mem _ t_743)) (fun _ h9 => h9) rfl rfl (okV_i (bd_sub b_8 (by decide))) rfl rfl (by decide) (Or.inr (Or.inl (by decide))) (fx' := [(1, 7, a0_, .ref a_5)]) rfl dX1_push_27 (fun f H locs hM_9 g => ?_)
    subst hQ
    exact W.vret hx hb hr (fun t ht hW => ⟨⟨_, rfl, ⟨y_7, b_8, (g.fcts [0] rfl)⟩, q3_of g hK ht hW⟩, g.2.2.1.F ht⟩) g.2.2.1.2.2 dX1_push_30
set_option maxHeartbeats 4000000 in
set_option maxRecDepth 100000 in
theorem r_X1_pop (l : Launch) (dC : Nat → ClassId) (dI : Nat → Nat → Nat) (L : List Nat) (kd : Nat → Nat) (tys : List (ClassId × FieldType)) (f0 : Nat → va_E) (sz : Nat) (hWT : WT L kd tys f0) (a0_ : Nat) (ma0_ : a0_ ∈ L) (ka0_ : kd a0_ = 1) : Met l yX1_pop (.code yX1_pop cX1_pop 1 (some .int) :: lw_g) ({ frames := 0, cells := 0, slots := 0, locals := 0 }) (va_Pc [.ref a0_] (P3 (dC, dI) L tys f0 sz)) (va_Qi (fun (r : Int32) (f : Nat → va_E) => (∃ z0_ : Int32, bd 0 699 z0_ ∧ Fs L kd f [(1, 8, a0_, .int z0_)])) (Q3 (dC, dI) L kd tys [(1, 8)] [] f0 sz) (pA L sz)) 0 0 (pA L sz) := by
  refine Met.ofW (cc := cX1_pop) (maxL := 1) (ret := (some .int)) (by decide) rfl ?_
  intro p e s m args below meth c s₁ B hml hv
  obtain ⟨rfl, hsz, hP, hK, hD0⟩ := hv
  have hx := B.exec
  have hb := B.bytes
  have hr := B.returns
  have hts := atoms_spec (ws := (.code yX1_pop cX1_pop 1 (some .int) :: lw_g)) B.pre
  have hown : s.vm.findClass RX1 = some m.cls := findClass_of_methodNamed B.named
  have hlocks := B.notSynchronized
  subst hsz
  have g : G3 (dC, dI) L kd tys s f0 [(1, 8)] [] f0 s.heap [] [] := G3.start hP hD0 hWT Fs.nil
  have hl := lv_entry ([.ref a0_]) (n := 1) (Nat.le_of_ble_eq_true rfl)
  rw [lg_entry_eq]
  generalize (lg_sl ([.ref a0_]) ++ List.replicate (1 - (lg_sl ([.ref a0_])).length) Slot.unset).toArray = ls at hl ⊢
  have hl : lv_has ls 1 [(0, .ref a0_)] := hl
  refine W_q (fun Q hQ => ?_)
  refine lv_aload_n hx hb dX1_pop_0 rfl (lv_at hl 0 rfl) ?_
  refine g_geti (C := RX1) (T := TX1) (N := 18) hx hb hts (mc_ inX1) hown hK g ma0_ ka0_ (by decide) rfl 8 (by decide) rfl (hts _ (List.mem_cons_of_mem _ t_743)) (fun _ h9 => h9) rfl dX1_pop_1 (fun x_1 bx_1 g => ?_)
  have kb_0 : bd 0 0 (0 : Int32) := ⟨by decide, by decide⟩
  refine lv_if_ne (tgt := 9) hx hb dX1_pop_4 (by decide) (fun c_2 => ?_) (fun c_2 => ?_)
  · have fc_2 := neq_f c_2
    have b_3 : bd 1 700 x_1 := neX fc_2 bx_1 kb_0 (by decide)
    refine lv_aload_n hx hb dX1_pop_9 rfl (lv_at hl 0 rfl) ?_
    refine lv_dup hx hb dX1_pop_10 rfl ?_
    refine g_getk (C := RX1) (T := TX1) (N := 18) hx hb hts (mc_ inX1) hown hK g rfl 8 (by decide) rfl (hts _ (List.mem_cons_of_mem _ t_743)) (fun _ h9 => h9) 0 rfl dX1_pop_11 ?_
    refine lv_iconst (v := 1) hx hb dX1_pop_14 (by decide) ?_
    have kb_1 : bd 1 1 (1 : Int32) := ⟨by decide, by decide⟩
    refine lv_isub hx hb dX1_pop_15 ?_
    refine lv_topi (fun y_4 ey_4 => ?_)
    have ty_4 := sub_bd ey_4 b_3 kb_1 (by decide)
    have b_5 : bd 0 699 y_4 := sub_rg ty_4 b_3 kb_1 (by decide)
    refine g_put (C := RX1) (T := TX1) (N := 18) hx hb hts (mc_ inX1) tyX1 tyX1_ok nmX1 hown hK g ma0_ ka0_ (by decide) rfl 8 (by decide) (hts _ (List.mem_cons_of_mem _ t_743)) (fun _ h9 => h9) rfl rfl (okV_i (bd_sub b_5 (by decide))) rfl rfl (by decide) (Or.inr (Or.inl (by decide))) (fx' := []) rfl dX1_pop_16 (fun f H locs hM_6 g => ?_)
    refine lv_aload_n hx hb dX1_pop_19 rfl (lv_at hl 0 rfl) ?_
    refine g_getr (K := 100) (C := RX1) (T := TX1) (N := 18) hx hb hts (mc_ inX1) hown hK g ma0_ ka0_ (by decide) rfl 7 (by decide) rfl (hts _ (List.mem_cons_of_mem _ t_742)) (fun _ h9 => h9) rfl dX1_pop_20 (fun a_7 ma_7 ka_7 g => ?_)
    refine lv_aload_n hx hb dX1_pop_23 rfl (lv_at hl 0 rfl) ?_
    refine g_getk (C := RX1) (T := TX1) (N := 18) hx hb hts (mc_ inX1) hown hK g rfl 8 (by decide) rfl (hts _ (List.mem_cons_of_mem _ t_743)) (fun _ h9 => h9) 1 rfl dX1_pop_24 ?_
    refine g_iald hx hb hK g ma_7 ka_7 (by decide) rfl (in_bd b_5 (by decide)) dX1_pop_27 (fun x_8 bx_8 cx_8 => ?_)
    subst hQ
    exact W.iret (v := x_8) hx hb hr (fun t ht hW => ⟨⟨_, _, rfl, ⟨y_4, b_5, (g.fcts [1] rfl)⟩, q3_of g hK ht hW⟩, g.2.2.1.F ht⟩) g.2.2.1.2.2 dX1_pop_28
  · have fc_2 := eq_f c_2
    have b_9 : bd 0 0 x_1 := eqX fc_2 bx_1 kb_0 (by decide)
    refine lv_iconst (v := 0) hx hb dX1_pop_7 (by decide) ?_
    subst hQ
    exact W.iret (v := 0) hx hb hr (fun t ht hW => ⟨⟨_, _, rfl, ⟨x_1, (bd_sub b_9 (by decide)), (g.fcts [0] rfl)⟩, q3_of g hK ht hW⟩, g.2.2.1.F ht⟩) g.2.2.1.2.2 dX1_pop_8
set_option maxHeartbeats 4000000 in
set_option maxRecDepth 100000 in
theorem r_X1_reckon (l : Launch) (dC : Nat → ClassId) (dI : Nat → Nat → Nat) (L : List Nat) (kd : Nat → Nat) (tys : List (ClassId × FieldType)) (f0 : Nat → va_E) (sz : Nat) (hWT : WT L kd tys f0) (a0_ : Nat) (ma0_ : a0_ ∈ L) (ka0_ : kd a0_ = 1) (x1_ : Int32) (x2_ : Int32) (x3_ : Int32) : Met l yX1_reckon (.code yX1_reckon cX1_reckon 4 (some .int) :: lw_g) ({ frames := 0, cells := 0, slots := 0, locals := 0 }) (va_Pc [.ref a0_, .int x1_, .int x2_, .int x3_] (P3 (dC, dI) L tys f0 sz)) (va_Qi (fun (r : Int32) (f : Nat → va_E) => (True)) (Q3 (dC, dI) L kd tys [(1, 15), (1, 17)] [] f0 sz) (pA L sz)) 0 0 (pA L sz) := by
  refine Met.ofW (cc := cX1_reckon) (maxL := 4) (ret := (some .int)) (by decide) rfl ?_
  intro p e s m args below meth c s₁ B hml hv
  obtain ⟨rfl, hsz, hP, hK, hD0⟩ := hv
  have hx := B.exec
  have hb := B.bytes
  have hr := B.returns
  have hts := atoms_spec (ws := (.code yX1_reckon cX1_reckon 4 (some .int) :: lw_g)) B.pre
  have hown : s.vm.findClass RX1 = some m.cls := findClass_of_methodNamed B.named
  have hlocks := B.notSynchronized
  subst hsz
  have g : G3 (dC, dI) L kd tys s f0 [(1, 15), (1, 17)] [] f0 s.heap [] [] := G3.start hP hD0 hWT Fs.nil
  have hl := lv_entry ([.ref a0_, .int x1_, .int x2_, .int x3_]) (n := 4) (Nat.le_of_ble_eq_true rfl)
  rw [lg_entry_eq]
  generalize (lg_sl ([.ref a0_, .int x1_, .int x2_, .int x3_]) ++ List.replicate (4 - (lg_sl ([.ref a0_, .int x1_, .int x2_, .int x3_])).length) Slot.unset).toArray = ls at hl ⊢
  have hl : lv_has ls 4 [(0, .ref a0_), (1, .int x1_), (2, .int x2_), (3, .int x3_)] := hl
  refine W_q (fun Q hQ => ?_)
  refine lv_iload_n hx hb dX1_reckon_0 rfl (lv_at hl 1 rfl) ?_
  by_cases e_1 : x1_ = 42
  · refine lv_topi (fun z_2 ez_2 => ?_)
    obtain rfl : z_2 = 42 := ez_2.trans e_1
    have kb_42 : bd 42 42 (42 : Int32) := ⟨by decide, by decide⟩
    have b_3 : bd 42 42 x1_ := eqX (eq_f e_1) (bdT x1_) kb_42 (by decide)
    refine lv_lookup (off := 91) (tgt := 92) hx hb dX1_reckon_1 (by decide) (by decide) (by decide) ?_
    refine lv_iload_n hx hb dX1_reckon_92 rfl (lv_at hl 2 rfl) ?_
    refine lv_iload_n hx hb dX1_reckon_93 rfl (lv_at hl 3 rfl) ?_
    refine lv_imul hx hb dX1_reckon_94 ?_
    refine lv_topi (fun y_4 ey_4 => ?_)
    subst hQ
    exact W.iret (v := y_4) hx hb hr (fun t ht hW => ⟨⟨_, _, rfl, trivial, q3_of g hK ht hW⟩, g.2.2.1.F ht⟩) g.2.2.1.2.2 dX1_reckon_95
  by_cases e_5 : x1_ = 43
  · refine lv_topi (fun z_6 ez_6 => ?_)
    obtain rfl : z_6 = 43 := ez_6.trans e_5
    have kb_43 : bd 43 43 (43 : Int32) := ⟨by decide, by decide⟩
    have b_7 : bd 43 43 x1_ := eqX (eq_f e_5) (bdT x1_) kb_43 (by decide)
    refine lv_lookup (off := 83) (tgt := 84) hx hb dX1_reckon_1 (by decide) (by decide) (by decide) ?_
    refine lv_iload_n hx hb dX1_reckon_84 rfl (lv_at hl 2 rfl) ?_
    refine lv_iload_n hx hb dX1_reckon_85 rfl (lv_at hl 3 rfl) ?_
    refine lv_iadd hx hb dX1_reckon_86 ?_
    refine lv_topi (fun y_8 ey_8 => ?_)
    subst hQ
    exact W.iret (v := y_8) hx hb hr (fun t ht hW => ⟨⟨_, _, rfl, trivial, q3_of g hK ht hW⟩, g.2.2.1.F ht⟩) g.2.2.1.2.2 dX1_reckon_87
  by_cases e_9 : x1_ = 45
  · refine lv_topi (fun z_10 ez_10 => ?_)
    obtain rfl : z_10 = 45 := ez_10.trans e_9
    have kb_45 : bd 45 45 (45 : Int32) := ⟨by decide, by decide⟩
    have b_11 : bd 45 45 x1_ := eqX (eq_f e_9) (bdT x1_) kb_45 (by decide)
    refine lv_lookup (off := 87) (tgt := 88) hx hb dX1_reckon_1 (by decide) (by decide) (by decide) ?_
    refine lv_iload_n hx hb dX1_reckon_88 rfl (lv_at hl 2 rfl) ?_
    refine lv_iload_n hx hb dX1_reckon_89 rfl (lv_at hl 3 rfl) ?_
    refine lv_isub hx hb dX1_reckon_90 ?_
    refine lv_topi (fun y_12 ey_12 => ?_)
    subst hQ
    exact W.iret (v := y_12) hx hb hr (fun t ht hW => ⟨⟨_, _, rfl, trivial, q3_of g hK ht hW⟩, g.2.2.1.F ht⟩) g.2.2.1.2.2 dX1_reckon_91
  by_cases e_13 : x1_ = 60
  · refine lv_topi (fun z_14 ez_14 => ?_)
    obtain rfl : z_14 = 60 := ez_14.trans e_13
    have kb_60 : bd 60 60 (60 : Int32) := ⟨by decide, by decide⟩
    have b_15 : bd 60 60 x1_ := eqX (eq_f e_13) (bdT x1_) kb_60 (by decide)
    refine lv_lookup (off := 95) (tgt := 96) hx hb dX1_reckon_1 (by decide) (by decide) (by decide) ?_
    refine lv_iload_n hx hb dX1_reckon_96 rfl (lv_at hl 2 rfl) ?_
    refine lv_iload_n hx hb dX1_reckon_97 rfl (lv_at hl 3 rfl) ?_
    refine lv_icmp_ge (tgt := 105) hx hb dX1_reckon_98 (by decide) (fun c_16 => ?_) (fun c_16 => ?_)
    · have fc_16 := le_f c_16
      refine lv_iconst (v := 0) hx hb dX1_reckon_105 (by decide) ?_
      subst hQ
      exact W.iret (v := 0) hx hb hr (fun t ht hW => ⟨⟨_, _, rfl, trivial, q3_of g hK ht hW⟩, g.2.2.1.F ht⟩) g.2.2.1.2.2 dX1_reckon_106
    · have fc_16 := nle_f c_16
      have b_17 : bd (-2147483648) 2147483646 x2_ := ltL fc_16 (bdT x2_) (bdT x3_) (by decide)
      have b_18 : bd (-2147483647) 2147483647 x3_ := ltR fc_16 (bdT x2_) (bdT x3_) (by decide)
      refine lv_iconst (v := 1) hx hb dX1_reckon_101 (by decide) ?_
      refine lv_goto (tgt := 106) hx hb dX1_reckon_102 (by decide) ?_
      subst hQ
      exact W.iret (v := 1) hx hb hr (fun t ht hW => ⟨⟨_, _, rfl, trivial, q3_of g hK ht hW⟩, g.2.2.1.F ht⟩) g.2.2.1.2.2 dX1_reckon_106
  by_cases e_19 : x1_ = 62
  · refine lv_topi (fun z_20 ez_20 => ?_)
    obtain rfl : z_20 = 62 := ez_20.trans e_19
    have kb_62 : bd 62 62 (62 : Int32) := ⟨by decide, by decide⟩
    have b_21 : bd 62 62 x1_ := eqX (eq_f e_19) (bdT x1_) kb_62 (by decide)
    refine lv_lookup (off := 106) (tgt := 107) hx hb dX1_reckon_1 (by decide) (by decide) (by decide) ?_
    refine lv_iload_n hx hb dX1_reckon_107 rfl (lv_at hl 2 rfl) ?_
    refine lv_iload_n hx hb dX1_reckon_108 rfl (lv_at hl 3 rfl) ?_
    refine lv_icmp_le (tgt := 116) hx hb dX1_reckon_109 (by decide) (fun c_22 => ?_) (fun c_22 => ?_)
    · have fc_22 := le_f c_22
      refine lv_iconst (v := 0) hx hb dX1_reckon_116 (by decide) ?_
      subst hQ
      exact W.iret (v := 0) hx hb hr (fun t ht hW => ⟨⟨_, _, rfl, trivial, q3_of g hK ht hW⟩, g.2.2.1.F ht⟩) g.2.2.1.2.2 dX1_reckon_117
    · have fc_22 := nle_f c_22
      have b_23 : bd (-2147483648) 2147483646 x3_ := ltL fc_22 (bdT x3_) (bdT x2_) (by decide)
      have b_24 : bd (-2147483647) 2147483647 x2_ := ltR fc_22 (bdT x3_) (bdT x2_) (by decide)
      refine lv_iconst (v := 1) hx hb dX1_reckon_112 (by decide) ?_
      refine lv_goto (tgt := 117) hx hb dX1_reckon_113 (by decide) ?_
      subst hQ
      exact W.iret (v := 1) hx hb hr (fun t ht hW => ⟨⟨_, _, rfl, trivial, q3_of g hK ht hW⟩, g.2.2.1.F ht⟩) g.2.2.1.2.2 dX1_reckon_117
  by_cases e_25 : x1_ = 201
  · refine lv_topi (fun z_26 ez_26 => ?_)
    obtain rfl : z_26 = 201 := ez_26.trans e_25
    have kb_201 : bd 201 201 (201 : Int32) := ⟨by decide, by decide⟩
    have b_27 : bd 201 201 x1_ := eqX (eq_f e_25) (bdT x1_) kb_201 (by decide)
    refine lv_lookup (off := 117) (tgt := 118) hx hb dX1_reckon_1 (by decide) (by decide) (by decide) ?_
    refine lv_iload_n hx hb dX1_reckon_118 rfl (lv_at hl 2 rfl) ?_
    refine lv_iload_n hx hb dX1_reckon_119 rfl (lv_at hl 3 rfl) ?_
    refine lv_icmp_ne (tgt := 127) hx hb dX1_reckon_120 (by decide) (fun c_28 => ?_) (fun c_28 => ?_)
    · have fc_28 := neq_f c_28
      refine lv_iconst (v := 0) hx hb dX1_reckon_127 (by decide) ?_
      subst hQ
      exact W.iret (v := 0) hx hb hr (fun t ht hW => ⟨⟨_, _, rfl, trivial, q3_of g hK ht hW⟩, g.2.2.1.F ht⟩) g.2.2.1.2.2 dX1_reckon_128
    · have fc_28 := eq_f c_28
      refine lv_iconst (v := 1) hx hb dX1_reckon_123 (by decide) ?_
      refine lv_goto (tgt := 128) hx hb dX1_reckon_124 (by decide) ?_
      subst hQ
      exact W.iret (v := 1) hx hb hr (fun t ht hW => ⟨⟨_, _, rfl, trivial, q3_of g hK ht hW⟩, g.2.2.1.F ht⟩) g.2.2.1.2.2 dX1_reckon_128
  by_cases e_29 : x1_ = 202
  · refine lv_topi (fun z_30 ez_30 => ?_)
    obtain rfl : z_30 = 202 := ez_30.trans e_29
    have kb_202 : bd 202 202 (202 : Int32) := ⟨by decide, by decide⟩
    have b_31 : bd 202 202 x1_ := eqX (eq_f e_29) (bdT x1_) kb_202 (by decide)
    refine lv_lookup (off := 128) (tgt := 129) hx hb dX1_reckon_1 (by decide) (by decide) (by decide) ?_
    refine lv_iload_n hx hb dX1_reckon_129 rfl (lv_at hl 2 rfl) ?_
    refine lv_iload_n hx hb dX1_reckon_130 rfl (lv_at hl 3 rfl) ?_
    refine lv_icmp_eq (tgt := 138) hx hb dX1_reckon_131 (by decide) (fun c_32 => ?_) (fun c_32 => ?_)
    · have fc_32 := eq_f c_32
      refine lv_iconst (v := 0) hx hb dX1_reckon_138 (by decide) ?_
      subst hQ
      exact W.iret (v := 0) hx hb hr (fun t ht hW => ⟨⟨_, _, rfl, trivial, q3_of g hK ht hW⟩, g.2.2.1.F ht⟩) g.2.2.1.2.2 dX1_reckon_139
    · have fc_32 := neq_f c_32
      refine lv_iconst (v := 1) hx hb dX1_reckon_134 (by decide) ?_
      refine lv_goto (tgt := 139) hx hb dX1_reckon_135 (by decide) ?_
      subst hQ
      exact W.iret (v := 1) hx hb hr (fun t ht hW => ⟨⟨_, _, rfl, trivial, q3_of g hK ht hW⟩, g.2.2.1.F ht⟩) g.2.2.1.2.2 dX1_reckon_139
  by_cases e_33 : x1_ = 203
  · refine lv_topi (fun z_34 ez_34 => ?_)
    obtain rfl : z_34 = 203 := ez_34.trans e_33
    have kb_203 : bd 203 203 (203 : Int32) := ⟨by decide, by decide⟩
    have b_35 : bd 203 203 x1_ := eqX (eq_f e_33) (bdT x1_) kb_203 (by decide)
    refine lv_lookup (off := 139) (tgt := 140) hx hb dX1_reckon_1 (by decide) (by decide) (by decide) ?_
    refine lv_iload_n hx hb dX1_reckon_140 rfl (lv_at hl 2 rfl) ?_
    refine lv_iload_n hx hb dX1_reckon_141 rfl (lv_at hl 3 rfl) ?_
    refine lv_icmp_gt (tgt := 149) hx hb dX1_reckon_142 (by decide) (fun c_36 => ?_) (fun c_36 => ?_)
    · have fc_36 := lt_f c_36
      have b_37 : bd (-2147483648) 2147483646 x3_ := ltL fc_36 (bdT x3_) (bdT x2_) (by decide)
      have b_38 : bd (-2147483647) 2147483647 x2_ := ltR fc_36 (bdT x3_) (bdT x2_) (by decide)
      refine lv_iconst (v := 0) hx hb dX1_reckon_149 (by decide) ?_
      subst hQ
      exact W.iret (v := 0) hx hb hr (fun t ht hW => ⟨⟨_, _, rfl, trivial, q3_of g hK ht hW⟩, g.2.2.1.F ht⟩) g.2.2.1.2.2 dX1_reckon_150
    · have fc_36 := nlt_f c_36
      refine lv_iconst (v := 1) hx hb dX1_reckon_145 (by decide) ?_
      refine lv_goto (tgt := 150) hx hb dX1_reckon_146 (by decide) ?_
      subst hQ
      exact W.iret (v := 1) hx hb hr (fun t ht hW => ⟨⟨_, _, rfl, trivial, q3_of g hK ht hW⟩, g.2.2.1.F ht⟩) g.2.2.1.2.2 dX1_reckon_150
  by_cases e_39 : x1_ = 204
  · refine lv_topi (fun z_40 ez_40 => ?_)
    obtain rfl : z_40 = 204 := ez_40.trans e_39
    have kb_204 : bd 204 204 (204 : Int32) := ⟨by decide, by decide⟩
    have b_41 : bd 204 204 x1_ := eqX (eq_f e_39) (bdT x1_) kb_204 (by decide)
    refine lv_lookup (off := 150) (tgt := 151) hx hb dX1_reckon_1 (by decide) (by decide) (by decide) ?_
    refine lv_iload_n hx hb dX1_reckon_151 rfl (lv_at hl 2 rfl) ?_
    refine lv_iload_n hx hb dX1_reckon_152 rfl (lv_at hl 3 rfl) ?_
    refine lv_icmp_lt (tgt := 160) hx hb dX1_reckon_153 (by decide) (fun c_42 => ?_) (fun c_42 => ?_)
    · have fc_42 := lt_f c_42
      have b_43 : bd (-2147483648) 2147483646 x2_ := ltL fc_42 (bdT x2_) (bdT x3_) (by decide)
      have b_44 : bd (-2147483647) 2147483647 x3_ := ltR fc_42 (bdT x2_) (bdT x3_) (by decide)
      refine lv_iconst (v := 0) hx hb dX1_reckon_160 (by decide) ?_
      subst hQ
      exact W.iret (v := 0) hx hb hr (fun t ht hW => ⟨⟨_, _, rfl, trivial, q3_of g hK ht hW⟩, g.2.2.1.F ht⟩) g.2.2.1.2.2 dX1_reckon_161
    · have fc_42 := nlt_f c_42
      refine lv_iconst (v := 1) hx hb dX1_reckon_156 (by decide) ?_
      refine lv_goto (tgt := 161) hx hb dX1_reckon_157 (by decide) ?_
      subst hQ
      exact W.iret (v := 1) hx hb hr (fun t ht hW => ⟨⟨_, _, rfl, trivial, q3_of g hK ht hW⟩, g.2.2.1.F ht⟩) g.2.2.1.2.2 dX1_reckon_161
  refine lv_lookup (off := 161) (tgt := 162) hx hb dX1_reckon_1 (by decide) (by have a0 : x1_.toInt ≠ 42 := fun h => e_1 (Int32.toInt_inj.mp (h.trans (by decide))); have a1 : x1_.toInt ≠ 43 := fun h => e_5 (Int32.toInt_inj.mp (h.trans (by decide))); have a2 : x1_.toInt ≠ 45 := fun h => e_9 (Int32.toInt_inj.mp (h.trans (by decide))); have a3 : x1_.toInt ≠ 60 := fun h => e_13 (Int32.toInt_inj.mp (h.trans (by decide))); have a4 : x1_.toInt ≠ 62 := fun h => e_19 (Int32.toInt_inj.mp (h.trans (by decide))); have a5 : x1_.toInt ≠ 201 := fun h => e_25 (Int32.toInt_inj.mp (h.trans (by decide))); have a6 : x1_.toInt ≠ 202 := fun h => e_29 (Int32.toInt_inj.mp (h.trans (by decide))); have a7 : x1_.toInt ≠ 203 := fun h => e_33 (Int32.toInt_inj.mp (h.trans (by decide))); have a8 : x1_.toInt ≠ 204 := fun h => e_39 (Int32.toInt_inj.mp (h.trans (by decide))); simp [Op.lookupswitch.offset, a0, a1, a2, a3, a4, a5, a6, a7, a8, Ne.symm]) (by decide) ?_
  refine lv_iload_n hx hb dX1_reckon_162 rfl (lv_at hl 3 rfl) ?_
  have kb_0 : bd 0 0 (0 : Int32) := ⟨by decide, by decide⟩
  refine lv_if_ne (tgt := 180) hx hb dX1_reckon_163 (by decide) (fun c_45 => ?_) (fun c_45 => ?_)
  · have fc_45 := neq_f c_45
    refine lv_iload_n hx hb dX1_reckon_180 rfl (lv_at hl 1 rfl) ?_
    refine lv_bipush (v := 47) hx hb dX1_reckon_181 (by decide) ?_
    have kb_47 : bd 47 47 (47 : Int32) := ⟨by decide, by decide⟩
    refine lv_icmp_ne (tgt := 192) hx hb dX1_reckon_183 (by decide) (fun c_46 => ?_) (fun c_46 => ?_)
    · have fc_46 := neq_f c_46
      refine lv_iload_n hx hb dX1_reckon_192 rfl (lv_at hl 2 rfl) ?_
      refine lv_iload_n hx hb dX1_reckon_193 rfl (lv_at hl 3 rfl) ?_
      refine lv_irem hx hb dX1_reckon_194 c_45 ?_
      refine lv_topi (fun y_47 ey_47 => ?_)
      subst hQ
      exact W.iret (v := y_47) hx hb hr (fun t ht hW => ⟨⟨_, _, rfl, trivial, q3_of g hK ht hW⟩, g.2.2.1.F ht⟩) g.2.2.1.2.2 dX1_reckon_195
    · have fc_46 := eq_f c_46
      have b_48 : bd 47 47 x1_ := eqX fc_46 (bdT x1_) kb_47 (by decide)
      refine lv_iload_n hx hb dX1_reckon_186 rfl (lv_at hl 2 rfl) ?_
      refine lv_iload_n hx hb dX1_reckon_187 rfl (lv_at hl 3 rfl) ?_
      refine lv_idiv hx hb dX1_reckon_188 c_45 ?_
      refine lv_topi (fun y_49 ey_49 => ?_)
      refine lv_goto (tgt := 195) hx hb dX1_reckon_189 (by decide) ?_
      subst hQ
      exact W.iret (v := y_49) hx hb hr (fun t ht hW => ⟨⟨_, _, rfl, trivial, q3_of g hK ht hW⟩, g.2.2.1.F ht⟩) g.2.2.1.2.2 dX1_reckon_195
  · have fc_45 := eq_f c_45
    have b_50 : bd 0 0 x3_ := eqX fc_45 (bdT x3_) kb_0 (by decide)
    refine lv_aload_n hx hb dX1_reckon_166 rfl (lv_at hl 0 rfl) ?_
    refine lv_iconst (v := 2) hx hb dX1_reckon_167 (by decide) ?_
    have kb_2 : bd 2 2 (2 : Int32) := ⟨by decide, by decide⟩
    refine g_put (C := RX1) (T := TX1) (N := 18) hx hb hts (mc_ inX1) tyX1 tyX1_ok nmX1 hown hK g ma0_ ka0_ (by decide) rfl 15 (by decide) (hts _ (List.mem_cons_of_mem _ t_750)) (fun _ h9 => h9) rfl rfl (okV_i (bd_sub kb_2 (by decide))) rfl rfl (by decide) (Or.inr (Or.inl (by decide))) (fx' := []) rfl dX1_reckon_168 (fun f H locs hM_51 g => ?_)
    refine lv_aload_n hx hb dX1_reckon_171 rfl (lv_at hl 0 rfl) ?_
    refine lv_ldc2 (v := 1434591) hx hb hown (hts _ (List.mem_cons_of_mem _ t_1605)) dX1_reckon_172 ?_
    refine g_put (C := RX1) (T := TX1) (N := 18) hx hb hts (mc_ inX1) tyX1 tyX1_ok nmX1 hown hK g ma0_ ka0_ (by decide) rfl 17 (by decide) (hts _ (List.mem_cons_of_mem _ t_754)) (fun _ h9 => h9) rfl rfl okV_l rfl rfl (by decide) (Or.inr (Or.inl (by decide))) (fx' := [(1, 15, a0_, .int 2)]) rfl dX1_reckon_175 (fun f H locs hM_52 g => ?_)
    refine lv_iconst (v := 0) hx hb dX1_reckon_178 (by decide) ?_
    subst hQ
    exact W.iret (v := 0) hx hb hr (fun t ht hW => ⟨⟨_, _, rfl, trivial, q3_of g hK ht hW⟩, g.2.2.1.F ht⟩) g.2.2.1.2.2 dX1_reckon_179
