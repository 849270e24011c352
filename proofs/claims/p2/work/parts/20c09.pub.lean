set_option maxHeartbeats 4000000 in
set_option maxRecDepth 100000 in
theorem r_X7_memberNamed (l : Launch) (dC : Nat → ClassId) (dI : Nat → Nat → Nat) (L : List Nat) (kd : Nat → Nat) (tys : List (ClassId × FieldType)) (f0 : Nat → va_E) (sz : Nat) (hWT : WT L kd tys f0) (a0_ : Nat) (ma0_ : a0_ ∈ L) (ka0_ : kd a0_ = 7) (a1_ : Nat) (ma1_ : a1_ ∈ L) (ka1_ : kd a1_ = 9) (x2_ : Int64) : Met l yX7_memberNamed (.code yX7_memberNamed cX7_memberNamed 5 (some .int) :: lw_g) ({ frames := 0, cells := 0, slots := 0, locals := 0 }) (va_Pc [.ref a0_, .ref a1_, .long x2_] (P3 (dC, dI) L tys f0 sz)) (va_Qi (fun (r : Int32) (f : Nat → va_E) => (bd (-1) 11 r ∧ True)) (Q3 (dC, dI) L kd tys [] [] f0 sz) (pA L sz)) 0 0 (pA L sz) := by
  refine Met.ofW (cc := cX7_memberNamed) (maxL := 5) (ret := (some .int)) (by decide) rfl ?_
  intro p e s m args below meth c s₁ B hml hv
  obtain ⟨rfl, hsz, hP, hK, hD0⟩ := hv
  have hx := B.exec
  have hb := B.bytes
  have hr := B.returns
  have hts := atoms_spec (ws := (.code yX7_memberNamed cX7_memberNamed 5 (some .int) :: lw_g)) B.pre
  have hown : s.vm.findClass RX7 = some m.cls := findClass_of_methodNamed B.named
  have hlocks := B.notSynchronized
  subst hsz
  have g : G3 (dC, dI) L kd tys s f0 [] [] f0 s.heap [] [] := G3.start hP hD0 hWT Fs.nil
  have hl := lv_entry ([.ref a0_, .ref a1_, .long x2_]) (n := 5) (Nat.le_of_ble_eq_true rfl)
  rw [lg_entry_eq]
  generalize (lg_sl ([.ref a0_, .ref a1_, .long x2_]) ++ List.replicate (5 - (lg_sl ([.ref a0_, .ref a1_, .long x2_])).length) Slot.unset).toArray = ls at hl ⊢
  have hl : lv_has ls 5 [(0, .ref a0_), (1, .ref a1_), (2, .long x2_)] := hl
  refine W_q (fun Q hQ => ?_)
  refine lv_iconst (v := 0) hx hb dX7_memberNamed_0 (by decide) ?_
  refine lv_istore (lv' := [(4, .int 0), (0, .ref a0_), (1, .ref a1_), (2, .long x2_)]) hx hb dX7_memberNamed_1 hl (by decide) rfl (fun ls hl => ?_)
  have loop_1 : ∀ (n : Nat) (v3_4 : Int32), bd 0 12 v3_4 → (12 - v3_4.toInt < (n : Int)) → ∀ (f : Nat → va_E) (H : Heap) (locs : List Loc) (ls : Array Slot), G3 (dC, dI) L kd tys s f0 [] [] f H locs [] → lv_has ls 5 [(4, .int v3_4), (0, .ref a0_), (1, .ref a1_), (2, .long x2_)] → W p l e ({ frames := 0, cells := 0, slots := 0, locals := 0 } : Room) s m [.ref a0_, .ref a1_, .long x2_].toArray below meth c H locs 0 0 Q (F0 m 3 ls []) := by
    intro n3
    induction n3 with
    | zero =>
      intro v3_4 bv3_4 hm3 f H locs ls g  hl
      exact absurd hm3 (by have h9_v3_4 := bv3_4; unfold bd at h9_v3_4; omega)
    | succ n3 ih3 =>
      intro v3_4 bv3_4 hm3 f H locs ls g  hl
      refine lv_iload hx hb dX7_memberNamed_3 (lv_at hl 0 rfl) ?_
      refine lv_aload_n hx hb dX7_memberNamed_5 rfl (lv_at hl 2 rfl) ?_
      refine g_geti (C := RX9) (T := TX9) (N := 13) hx hb hts (mc_ inX9) hown hK g ma1_ ka1_ (by decide) rfl 8 (by decide) rfl (hts _ (List.mem_cons_of_mem _ t_498)) (fun _ h9 => h9) rfl dX7_memberNamed_6 (fun x_2 bx_2 g => ?_)
      refine lv_icmp_ge (tgt := 41) hx hb dX7_memberNamed_9 (by decide) (fun c_3 => ?_) (fun c_3 => ?_)
      · have fc_3 := le_f c_3
        refine lv_iconst (v := (-1)) hx hb dX7_memberNamed_41 (by decide) ?_
        have kb_m1 : bd (-1) (-1) ((-1) : Int32) := ⟨by decide, by decide⟩
        subst hQ
        exact W.iret (v := (-1)) hx hb hr (fun t ht hW => ⟨⟨_, _, rfl, ⟨(bd_sub kb_m1 (by decide)), trivial⟩, q3_of g hK ht hW⟩, g.2.2.1.F ht⟩) g.2.2.1.2.2 dX7_memberNamed_42
      · have fc_3 := nle_f c_3
        have b_4 : bd 0 11 v3_4 := ltL fc_3 bv3_4 bx_2 (by decide)
        have b_5 : bd 1 12 x_2 := ltR fc_3 bv3_4 bx_2 (by decide)
        refine lv_aload_n hx hb dX7_memberNamed_12 rfl (lv_at hl 1 rfl) ?_
        refine g_getr (K := 137) (C := RX7) (T := TX7) (N := 19) hx hb hts (mc_ inX7) hown hK g ma0_ ka0_ (by decide) rfl 2 (by decide) rfl (hts _ (List.mem_cons_of_mem _ t_629)) (fun _ h9 => h9) rfl dX7_memberNamed_13 (fun a_6 ma_6 ka_6 g => ?_)
        refine lv_aload_n hx hb dX7_memberNamed_16 rfl (lv_at hl 2 rfl) ?_
        refine g_getr (K := 156) (C := RX9) (T := TX9) (N := 13) hx hb hts (mc_ inX9) hown hK g ma1_ ka1_ (by decide) rfl 9 (by decide) rfl (hts _ (List.mem_cons_of_mem _ t_506)) (fun _ h9 => h9) rfl dX7_memberNamed_17 (fun a_7 ma_7 ka_7 g => ?_)
        refine lv_iload hx hb dX7_memberNamed_20 (lv_at hl 0 rfl) ?_
        refine g_iald hx hb hK g ma_7 ka_7 (by decide) rfl (in_bd b_4 (by decide)) dX7_memberNamed_22 (fun x_8 bx_8 cx_8 => ?_)
        refine g_aald hx hb hK g ma_6 ka_6 (by decide) rfl (by decide) (in_bd bx_8 (by decide)) dX7_memberNamed_23 (fun a_9 ma_9 ua_9 wa_9 => ?_)
        have ka_9 : kd a_9 = 6 := by omega
        refine g_getl (C := RX6) (T := TX6) (N := 13) hx hb hts (mc_ inX6) hown hK g ma_9 ka_9 (by decide) rfl 0 (by decide) rfl (hts _ (List.mem_cons_of_mem _ t_555)) (fun _ h9 => h9) rfl dX7_memberNamed_24 (fun x_10 g => ?_)
        refine lv_lload_n hx hb dX7_memberNamed_27 rfl (lv_at hl 3 rfl) ?_
        refine W.lcmp hx hb dX7_memberNamed_28 ?_
        refine lv_if_ne (tgt := 35) hx hb dX7_memberNamed_29 (by decide) (fun c_11 => ?_) (fun c_11 => ?_)
        · have kb_1 : bd 1 1 (1 : Int32) := ⟨by decide, by decide⟩
          obtain ⟨y_12, ey_12⟩ : ∃ z : Int32, z = v3_4 + 1 := ⟨_, rfl⟩
          refine lv_iinc (v := y_12) (lv' := [(4, .int y_12), (0, .ref a0_), (1, .ref a1_), (2, .long x2_)]) hx hb dX7_memberNamed_35 hl (k := 0) rfl (by rw [ey_12]; rfl) (by decide) rfl (fun ls hl => ?_)
          have ty_12 := add_bd ey_12 b_4 kb_1 (by decide)
          have b_13 : bd 1 12 y_12 := add_rg ty_12 b_4 kb_1 (by decide)
          refine lv_goto (tgt := 3) hx hb dX7_memberNamed_38 (by decide) ?_
          have hl9 := lv_sub hl [0, 1, 2, 3] (by rfl : lv_pick [(4, .int y_12), (0, .ref a0_), (1, .ref a1_), (2, .long x2_)] [0, 1, 2, 3] = [(4, .int y_12), (0, .ref a0_), (1, .ref a1_), (2, .long x2_)])
          have g9 := g.sub (fx' := []) [] rfl
          exact ih3  y_12 (bd_sub b_13 (by decide)) (by have h9_0 := b_13; unfold bd at h9_0; have h9_1 := bv3_4; unfold bd at h9_1; have h9_2 := kb_1; unfold bd at h9_2; omega) _ _ _ _ g9  hl9
        · refine lv_iload hx hb dX7_memberNamed_32 (lv_at hl 0 rfl) ?_
          subst hQ
          exact W.iret (v := v3_4) hx hb hr (fun t ht hW => ⟨⟨_, _, rfl, ⟨(bd_sub b_4 (by decide)), trivial⟩, q3_of g hK ht hW⟩, g.2.2.1.F ht⟩) g.2.2.1.2.2 dX7_memberNamed_34
  have kb_0 : bd 0 0 (0 : Int32) := ⟨by decide, by decide⟩
  have hl9 := lv_sub hl [0, 1, 2, 3] (by rfl : lv_pick [(4, .int 0), (0, .ref a0_), (1, .ref a1_), (2, .long x2_)] [0, 1, 2, 3] = [(4, .int 0), (0, .ref a0_), (1, .ref a1_), (2, .long x2_)])
  have g9 := g.sub (fx' := []) [] rfl
  exact loop_1 (27) 0 (bd_sub kb_0 (by decide)) (by have h9_0 := kb_0; unfold bd at h9_0; omega) _ _ _ _ g9  hl9
set_option maxHeartbeats 4000000 in
set_option maxRecDepth 100000 in
theorem r_X1_standOn_4 (l : Launch) (dC : Nat → ClassId) (dI : Nat → Nat → Nat) (L : List Nat) (kd : Nat → Nat) (tys : List (ClassId × FieldType)) (f0 : Nat → va_E) (sz : Nat) (hWT : WT L kd tys f0) (a0_ : Nat) (ma0_ : a0_ ∈ L) (ka0_ : kd a0_ = 1) (a1_ : Nat) (ma1_ : a1_ ∈ L) (ka1_ : kd a1_ = 7) (a2_ : Nat) (ma2_ : a2_ ∈ L) (ka2_ : kd a2_ = 9) (a3_ : Nat) (ma3_ : a3_ ∈ L) (ka3_ : kd a3_ = 101) (a4_ : Nat) (ma4_ : a4_ ∈ L) (ka4_ : kd a4_ = 101) (a5_ : Nat) (ma5_ : a5_ ∈ L) (ka5_ : kd a5_ = 103) : Met l yX1_standOn (.code yX1_standOn cX1_standOn 6 none :: lw_g) ({ frames := 0, cells := 0, slots := 0, locals := 0 }) (va_Pc [.ref a0_, .ref a1_, .ref a2_, .ref a3_, .ref a4_, .ref a5_] (P3 (dC, dI) L tys f0 sz)) (va_Qv (fun (f : Nat → va_E) => (Fs L kd f [(1, 4, a0_, .ref a5_), (1, 3, a0_, .ref a4_), (1, 2, a0_, .ref a3_), (1, 1, a0_, .ref a2_), (1, 0, a0_, .ref a1_)])) (Q3 (dC, dI) L kd tys [(1, 0), (1, 1), (1, 2), (1, 3), (1, 4)] [] f0 sz) (pA L sz)) 0 0 (pA L sz) := by
  refine Met.ofW (cc := cX1_standOn) (maxL := 6) (ret := none) (by decide) rfl ?_
  intro p e s m args below meth c s₁ B hml hv
  obtain ⟨rfl, hsz, hP, hK, hD0⟩ := hv
  have hx := B.exec
  have hb := B.bytes
  have hr := B.returns
  have hts := atoms_spec (ws := (.code yX1_standOn cX1_standOn 6 none :: lw_g)) B.pre
  have hown : s.vm.findClass RX1 = some m.cls := findClass_of_methodNamed B.named
  have hlocks := B.notSynchronized
  subst hsz
  have g : G3 (dC, dI) L kd tys s f0 [(1, 0), (1, 1), (1, 2), (1, 3), (1, 4)] [] f0 s.heap [] [] := G3.start hP hD0 hWT Fs.nil
  have hl := lv_entry ([.ref a0_, .ref a1_, .ref a2_, .ref a3_, .ref a4_, .ref a5_]) (n := 6) (Nat.le_of_ble_eq_true rfl)
  rw [lg_entry_eq]
  generalize (lg_sl ([.ref a0_, .ref a1_, .ref a2_, .ref a3_, .ref a4_, .ref a5_]) ++ List.replicate (6 - (lg_sl ([.ref a0_, .ref a1_, .ref a2_, .ref a3_, .ref a4_, .ref a5_])).length) Slot.unset).toArray = ls at hl ⊢
  have hl : lv_has ls 6 [(0, .ref a0_), (1, .ref a1_), (2, .ref a2_), (3, .ref a3_), (4, .ref a4_), (5, .ref a5_)] := hl
  refine W_q (fun Q hQ => ?_)
  refine lv_aload_n hx hb dX1_standOn_0 rfl (lv_at hl 0 rfl) ?_
  refine lv_aload_n hx hb dX1_standOn_1 rfl (lv_at hl 1 rfl) ?_
  refine g_put (C := RX1) (T := TX1) (N := 18) hx hb hts (mc_ inX1) tyX1 tyX1_ok nmX1 hown hK g ma0_ ka0_ (by decide) rfl 0 (by decide) (hts _ (List.mem_cons_of_mem _ t_735)) (fun _ h9 => h9) rfl rfl (okV_n ma1_ ka1_ (by decide)) rfl rfl (by decide) (Or.inr (Or.inl (by decide))) (fx' := []) rfl dX1_standOn_2 (fun f H locs hM_1 g => ?_)
  refine lv_aload_n hx hb dX1_standOn_5 rfl (lv_at hl 0 rfl) ?_
  refine lv_aload_n hx hb dX1_standOn_6 rfl (lv_at hl 2 rfl) ?_
  refine g_put (C := RX1) (T := TX1) (N := 18) hx hb hts (mc_ inX1) tyX1 tyX1_ok nmX1 hown hK g ma0_ ka0_ (by decide) rfl 1 (by decide) (hts _ (List.mem_cons_of_mem _ t_736)) (fun _ h9 => h9) rfl rfl (okV_n ma2_ ka2_ (by decide)) rfl rfl (by decide) (Or.inr (Or.inl (by decide))) (fx' := [(1, 0, a0_, .ref a1_)]) rfl dX1_standOn_7 (fun f H locs hM_2 g => ?_)
  refine lv_aload_n hx hb dX1_standOn_10 rfl (lv_at hl 0 rfl) ?_
  refine lv_aload_n hx hb dX1_standOn_11 rfl (lv_at hl 3 rfl) ?_
  refine g_put (C := RX1) (T := TX1) (N := 18) hx hb hts (mc_ inX1) tyX1 tyX1_ok nmX1 hown hK g ma0_ ka0_ (by decide) rfl 2 (by decide) (hts _ (List.mem_cons_of_mem _ t_737)) (fun _ h9 => h9) rfl rfl (okV_r ma3_ ka3_ (by decide)) rfl rfl (by decide) (Or.inr (Or.inl (by decide))) (fx' := [(1, 1, a0_, .ref a2_), (1, 0, a0_, .ref a1_)]) rfl dX1_standOn_12 (fun f H locs hM_3 g => ?_)
  refine lv_aload_n hx hb dX1_standOn_15 rfl (lv_at hl 0 rfl) ?_
  refine lv_aload hx hb dX1_standOn_16 (lv_at hl 4 rfl) ?_
  refine g_put (C := RX1) (T := TX1) (N := 18) hx hb hts (mc_ inX1) tyX1 tyX1_ok nmX1 hown hK g ma0_ ka0_ (by decide) rfl 3 (by decide) (hts _ (List.mem_cons_of_mem _ t_738)) (fun _ h9 => h9) rfl rfl (okV_r ma4_ ka4_ (by decide)) rfl rfl (by decide) (Or.inr (Or.inl (by decide))) (fx' := [(1, 2, a0_, .ref a3_), (1, 1, a0_, .ref a2_), (1, 0, a0_, .ref a1_)]) rfl dX1_standOn_18 (fun f H locs hM_4 g => ?_)
  refine lv_aload_n hx hb dX1_standOn_21 rfl (lv_at hl 0 rfl) ?_
  refine lv_aload hx hb dX1_standOn_22 (lv_at hl 5 rfl) ?_
  refine g_put (C := RX1) (T := TX1) (N := 18) hx hb hts (mc_ inX1) tyX1 tyX1_ok nmX1 hown hK g ma0_ ka0_ (by decide) rfl 4 (by decide) (hts _ (List.mem_cons_of_mem _ t_739)) (fun _ h9 => h9) rfl rfl (okV_r ma5_ ka5_ (by decide)) rfl rfl (by decide) (Or.inr (Or.inl (by decide))) (fx' := [(1, 3, a0_, .ref a4_), (1, 2, a0_, .ref a3_), (1, 1, a0_, .ref a2_), (1, 0, a0_, .ref a1_)]) rfl dX1_standOn_24 (fun f H locs hM_5 g => ?_)
  subst hQ
  exact W.vret hx hb hr (fun t ht hW => ⟨⟨_, rfl, (g.fcts [0, 1, 2, 3, 4] rfl), q3_of g hK ht hW⟩, g.2.2.1.F ht⟩) g.2.2.1.2.2 dX1_standOn_27
set_option maxHeartbeats 4000000 in
set_option maxRecDepth 100000 in
theorem r_X10_askModel (l : Launch) (dC : Nat → ClassId) (dI : Nat → Nat → Nat) (L : List Nat) (kd : Nat → Nat) (tys : List (ClassId × FieldType)) (f0 : Nat → va_E) (sz : Nat) (hWT : WT L kd tys f0) (a0_ : Nat) (ma0_ : a0_ ∈ L) (ka0_ : kd a0_ = 10) (a1_ : Nat) (ma1_ : a1_ ∈ L) (ka1_ : kd a1_ = 4) (x2_ : Int32) (bx2_ : bd 0 2 x2_) (a3_ : Nat) (ma3_ : a3_ ∈ L) (ka3_ : kd a3_ = 6) (a4_ : Nat) (ma4_ : a4_ ∈ L) (ka4_ : kd a4_ = 103) (q0_ : Nat) (mq0_ : q0_ ∈ L) (kq0_ : kd q0_ = 7) (y0_ : Int32) (by0_ : bd 1 8 y0_) (y1_ : Int32) (by1_ : bd 1 3 y1_) (y2_ : Int32) (by2_ : bd 0 9 y2_) (hGcq0_ : cOK f0 q0_) (hfx : Fs L kd f0 [(10, 0, a0_, .ref q0_), (7, 1, q0_, .int y0_), (4, 6, a1_, .int y1_), (4, 14, a1_, .int y2_)]) : Met l yX10_askModel (.code yX10_askModel cX10_askModel 11 none :: lw_g) ({ frames := 2, cells := 0, slots := 0, locals := 50 }) (va_Pc [.ref a0_, .ref a1_, .int x2_, .ref a3_, .ref a4_] (P3 (dC, dI) L tys f0 sz)) (va_Qv (fun (f : Nat → va_E) => (True)) (Q3 (dC, dI) L kd tys [(1, 0), (1, 1), (1, 2), (1, 3), (1, 4), (1, 5), (1, 6), (1, 8), (1, 11), (1, 12), (1, 13), (1, 14), (1, 15), (1, 16), (1, 17), (4, 0), (4, 5)] [100, 101, 102, 103, 116, 117, 146] f0 sz) (pA L sz)) 0 0 (pA L sz) := by
  refine Met.ofW (cc := cX10_askModel) (maxL := 11) (ret := none) (by decide) rfl ?_
  intro p e s m args below meth c s₁ B hml hv
  obtain ⟨rfl, hsz, hP, hK, hD0⟩ := hv
  have hx := B.exec
  have hb := B.bytes
  have hr := B.returns
  have hts := atoms_spec (ws := (.code yX10_askModel cX10_askModel 11 none :: lw_g)) B.pre
  have hown : s.vm.findClass RX10 = some m.cls := findClass_of_methodNamed B.named
  have hlocks := B.notSynchronized
  subst hsz
  have g : G3 (dC, dI) L kd tys s f0 [(1, 0), (1, 1), (1, 2), (1, 3), (1, 4), (1, 5), (1, 6), (1, 8), (1, 11), (1, 12), (1, 13), (1, 14), (1, 15), (1, 16), (1, 17), (4, 0), (4, 5)] [100, 101, 102, 103, 116, 117, 146] f0 s.heap [] [(10, 0, a0_, .ref q0_), (7, 1, q0_, .int y0_), (4, 6, a1_, .int y1_), (4, 14, a1_, .int y2_)] := G3.start hP hD0 hWT hfx
  have hl := lv_entry ([.ref a0_, .ref a1_, .int x2_, .ref a3_, .ref a4_]) (n := 11) (Nat.le_of_ble_eq_true rfl)
  rw [lg_entry_eq]
  generalize (lg_sl ([.ref a0_, .ref a1_, .int x2_, .ref a3_, .ref a4_]) ++ List.replicate (11 - (lg_sl ([.ref a0_, .ref a1_, .int x2_, .ref a3_, .ref a4_])).length) Slot.unset).toArray = ls at hl ⊢
  have hl : lv_has ls 11 [(0, .ref a0_), (1, .ref a1_), (2, .int x2_), (3, .ref a3_), (4, .ref a4_)] := hl
  refine W_q (fun Q hQ => ?_)
  refine lv_aload_n hx hb dX10_askModel_0 rfl (lv_at hl 1 rfl) ?_
  refine g_getr (K := 127) (C := RX4) (T := TX4) (N := 17) hx hb hts (mc_ inX4) hown hK g ma1_ ka1_ (by decide) rfl 8 (by decide) rfl (hts _ (List.mem_cons_of_mem _ t_857)) (fun _ h9 => h9) rfl dX10_askModel_1 (fun a_1 ma_1 ka_1 g => ?_)
  refine lv_iload_n hx hb dX10_askModel_4 rfl (lv_at hl 2 rfl) ?_
  refine g_iald hx hb hK g ma_1 ka_1 (by decide) rfl (in_bd bx2_ (by decide)) dX10_askModel_5 (fun x_2 bx_2 cx_2 => ?_)
  refine lv_istore (lv' := [(5, .int x_2), (0, .ref a0_), (1, .ref a1_), (2, .int x2_), (3, .ref a3_), (4, .ref a4_)]) hx hb dX10_askModel_6 hl (by decide) rfl (fun ls hl => ?_)
  refine lv_aload_n hx hb dX10_askModel_8 rfl (lv_at hl 2 rfl) ?_
  refine g_geti (C := RX4) (T := TX4) (N := 17) hx hb hts (mc_ inX4) hown hK g ma1_ ka1_ (by decide) rfl 0 (by decide) rfl (hts _ (List.mem_cons_of_mem _ t_837)) (fun _ h9 => h9) rfl dX10_askModel_9 (fun x_3 bx_3 g => ?_)
  have kb_0 : bd 0 0 (0 : Int32) := ⟨by decide, by decide⟩
  refine lv_if_ne (tgt := 27) hx hb dX10_askModel_12 (by decide) (fun c_4 => ?_) (fun c_4 => ?_)
  · have fc_4 := neq_f c_4
    subst hQ
    exact W.vret hx hb hr (fun t ht hW => ⟨⟨_, rfl, trivial, q3_of g hK ht hW⟩, g.2.2.1.F ht⟩) g.2.2.1.2.2 dX10_askModel_27
  · have fc_4 := eq_f c_4
    have b_5 : bd 0 0 x_3 := eqX fc_4 (bdT x_3) kb_0 (by decide)
    refine lv_aload_n hx hb dX10_askModel_15 rfl (lv_at hl 1 rfl) ?_
    refine g_getk (C := RX10) (T := TX10) (N := 10) hx hb hts (mc_ inX10) hown hK g rfl 0 (by decide) rfl (hts _ (List.mem_cons_of_mem _ t_912)) (fun _ h9 => h9) 2 rfl dX10_askModel_16 ?_
    refine lv_iload hx hb dX10_askModel_19 (lv_at hl 0 rfl) ?_
    have go_ := g
    refine g_calli (va_runV (As := [.int x_2]) (rest := []) ⟨hx, hb, hml, hown, hts⟩ (r_X7_hasClass l dC dI L kd tys f0 s.heap.size g.2.2.2.1 q0_ mq0_ kq0_ x_2) (cwV 1 hts (gV_ t_1534 t_1281 t_1282 t_191 t_1283) rfl rfl rfl (by decide +kernel) ⟨(Nat.le_of_ble_eq_true rfl), (Nat.le_of_ble_eq_true rfl)⟩) (pre3V g hK mq0_ kq0_ (by decide) (q := (RX7, TX7, 19)) rfl) rfl rfl hl.1 rfl (lv_room (Nat.le_of_ble_eq_true rfl)) dX10_askModel_21 ⟨(Nat.le_of_ble_eq_true rfl), (Nat.le_of_ble_eq_true rfl)⟩) g hK (by decide) (by decide) (fx' := [(4, 0, a1_, .int x_3), (4, 8, a1_, .ref a_1), (10, 0, a0_, .ref q0_), (7, 1, q0_, .int y0_), (4, 6, a1_, .int y1_), (4, 14, a1_, .int y2_)]) rfl (fun r_6 fr_6 H locs hp hMr_6 g => ?_)
    rcases hp with ⟨h_7, -⟩ | ⟨h_8, h_9, x_10, h_11, hF_12⟩
    · have hG_13 := cOK.frame hMr_6 go_.2.2.2.1 mq0_ kq0_ (by decide) (by decide) hGcq0_
      obtain rfl : r_6 = 0 := h_7
      refine lv_if_ne (tgt := 28) hx hb dX10_askModel_24 (by decide) (fun c_ => absurd c_ (by decide)) (fun c_ => ?_)
      subst hQ
      exact W.vret hx hb hr (fun t ht hW => ⟨⟨_, rfl, trivial, q3_of g hK ht hW⟩, g.2.2.1.F ht⟩) g.2.2.1.2.2 dX10_askModel_27
    · have hG_14 := cOK.frame hMr_6 go_.2.2.2.1 mq0_ kq0_ (by decide) (by decide) hGcq0_
      obtain rfl : r_6 = 1 := h_8
      have b_15 : bd 0 7 x_2 := eqX rfl (bdT x_2) h_9 (by decide)
      have g := g.more hF_12
      have e_16 := fx_same g 4 0 rfl rfl
      have g := g.sub (fx' := [(4, 0, a1_, .int x_3), (4, 8, a1_, .ref a_1), (10, 0, a0_, .ref q0_), (7, 1, q0_, .int y0_), (4, 6, a1_, .int y1_), (4, 14, a1_, .int y2_)]) [1, 2, 3, 4, 5, 6] rfl
      refine lv_if_ne (tgt := 28) hx hb dX10_askModel_24 (by decide) (fun c_ => ?_) (fun c_ => absurd c_ (by decide))
      refine lv_aload_n hx hb dX10_askModel_28 rfl (lv_at hl 1 rfl) ?_
      refine g_getk (C := RX10) (T := TX10) (N := 10) hx hb hts (mc_ inX10) hown hK g rfl 0 (by decide) rfl (hts _ (List.mem_cons_of_mem _ t_912)) (fun _ h9 => h9) 2 rfl dX10_askModel_29 ?_
      refine g_getr (K := 136) (C := RX7) (T := TX7) (N := 19) hx hb hts (mc_ inX7) hown hK g mq0_ kq0_ (by decide) rfl 0 (by decide) rfl (hts _ (List.mem_cons_of_mem _ t_624)) (fun _ h9 => h9) rfl dX10_askModel_32 (fun a_17 ma_17 ka_17 g => ?_)
      refine lv_iload hx hb dX10_askModel_35 (lv_at hl 0 rfl) ?_
      refine g_aald hx hb hK g ma_17 ka_17 (by decide) rfl (by decide) (in_bd b_15 (by decide)) dX10_askModel_37 (fun a_18 ma_18 ua_18 wa_18 => ?_)
      have ka_18 : kd a_18 = 9 := by omega
      refine lv_astore (lv' := [(6, .ref a_18), (5, .int x_2), (0, .ref a0_), (1, .ref a1_), (2, .int x2_), (3, .ref a3_), (4, .ref a4_)]) hx hb dX10_askModel_38 hl (by decide) rfl (fun ls hl => ?_)
      refine lv_aload_n hx hb dX10_askModel_40 rfl (lv_at hl 2 rfl) ?_
      refine g_getk (C := RX10) (T := TX10) (N := 10) hx hb hts (mc_ inX10) hown hK g rfl 0 (by decide) rfl (hts _ (List.mem_cons_of_mem _ t_912)) (fun _ h9 => h9) 3 rfl dX10_askModel_41 ?_
      refine lv_aload hx hb dX10_askModel_44 (lv_at hl 0 rfl) ?_
      refine lv_aload_n hx hb dX10_askModel_46 rfl (lv_at hl 5 rfl) ?_
      refine g_getl (C := RX6) (T := TX6) (N := 13) hx hb hts (mc_ inX6) hown hK g ma3_ ka3_ (by decide) rfl 0 (by decide) rfl (hts _ (List.mem_cons_of_mem _ t_557)) (fun _ h9 => h9) rfl dX10_askModel_47 (fun x_19 g => ?_)
      have go_ := g
      refine g_calli (va_runV (As := [.ref a_18, .long x_19]) (rest := []) ⟨hx, hb, hml, hown, hts⟩ (r_X7_memberNamed l dC dI L kd tys fr_6 H.size g.2.2.2.1 q0_ mq0_ kq0_ a_18 ma_18 ka_18 x_19) (cwV 2 hts (gV_ t_1665 t_1244 t_1245 t_191 t_1246) rfl rfl rfl (by decide +kernel) ⟨(Nat.le_of_ble_eq_true rfl), (Nat.le_of_ble_eq_true rfl)⟩) (pre3V g hK mq0_ kq0_ (by decide) (q := (RX7, TX7, 19)) rfl) rfl rfl hl.1 rfl (lv_room (Nat.le_of_ble_eq_true rfl)) dX10_askModel_50 ⟨(Nat.le_of_ble_eq_true rfl), (Nat.le_of_ble_eq_true rfl)⟩) g hK (by decide) (by decide) (fx' := [(6, 0, a3_, .long x_19), (7, 0, q0_, .ref a_17), (4, 0, a1_, .int x_3), (4, 8, a1_, .ref a_1), (10, 0, a0_, .ref q0_), (7, 1, q0_, .int y0_), (4, 6, a1_, .int y1_), (4, 14, a1_, .int y2_)]) rfl (fun r_20 fr_20 H locs hp hMr_20 g => ?_)
      obtain ⟨h_21, -⟩ := hp
      have hG_22 := cOK.frame hMr_20 go_.2.2.2.1 mq0_ kq0_ (by decide) (by decide) hG_14
      refine lv_istore (lv' := [(7, .int r_20), (6, .ref a_18), (5, .int x_2), (0, .ref a0_), (1, .ref a1_), (2, .int x2_), (3, .ref a3_), (4, .ref a4_)]) hx hb dX10_askModel_53 hl (by decide) rfl (fun ls hl => ?_)
      refine lv_iload hx hb dX10_askModel_55 (lv_at hl 0 rfl) ?_
      refine lv_iconst (v := (-1)) hx hb dX10_askModel_57 (by decide) ?_
      have kb_m1 : bd (-1) (-1) ((-1) : Int32) := ⟨by decide, by decide⟩
      refine lv_icmp_eq (tgt := 87) hx hb dX10_askModel_58 (by decide) (fun c_23 => ?_) (fun c_23 => ?_)
      · have fc_23 := eq_f c_23
        have b_24 : bd (-1) (-1) r_20 := eqX fc_23 h_21 kb_m1 (by decide)
        subst hQ
        exact W.vret hx hb hr (fun t ht hW => ⟨⟨_, rfl, trivial, q3_of g hK ht hW⟩, g.2.2.1.F ht⟩) g.2.2.1.2.2 dX10_askModel_87
      · have fc_23 := neq_f c_23
        have b_25 : bd 0 11 r_20 := neX fc_23 h_21 kb_m1 (by decide)
        refine lv_aload_n hx hb dX10_askModel_61 rfl (lv_at hl 3 rfl) ?_
        refine g_getk (C := RX10) (T := TX10) (N := 10) hx hb hts (mc_ inX10) hown hK g rfl 0 (by decide) rfl (hts _ (List.mem_cons_of_mem _ t_912)) (fun _ h9 => h9) 4 rfl dX10_askModel_62 ?_
        refine g_getr (K := 137) (C := RX7) (T := TX7) (N := 19) hx hb hts (mc_ inX7) hown hK g mq0_ kq0_ (by decide) rfl 2 (by decide) rfl (hts _ (List.mem_cons_of_mem _ t_634)) (fun _ h9 => h9) rfl dX10_askModel_65 (fun a_26 ma_26 ka_26 g => ?_)
        refine lv_aload hx hb dX10_askModel_68 (lv_at hl 1 rfl) ?_
        refine g_getr (K := 156) (C := RX9) (T := TX9) (N := 13) hx hb hts (mc_ inX9) hown hK g ma_18 ka_18 (by decide) rfl 9 (by decide) rfl (hts _ (List.mem_cons_of_mem _ t_509)) (fun _ h9 => h9) rfl dX10_askModel_70 (fun a_27 ma_27 ka_27 g => ?_)
        refine lv_iload hx hb dX10_askModel_73 (lv_at hl 0 rfl) ?_
        refine g_iald hx hb hK g ma_27 ka_27 (by decide) rfl (in_bd b_25 (by decide)) dX10_askModel_75 (fun x_28 bx_28 cx_28 => ?_)
        refine g_aald hx hb hK g ma_26 ka_26 (by decide) rfl (by decide) (in_bd bx_28 (by decide)) dX10_askModel_76 (fun a_29 ma_29 ua_29 wa_29 => ?_)
        have ka_29 : kd a_29 = 6 := by omega
        refine g_geti (C := RX6) (T := TX6) (N := 13) hx hb hts (mc_ inX6) hown hK g ma_29 ka_29 (by decide) rfl 3 (by decide) rfl (hts _ (List.mem_cons_of_mem _ t_566)) (fun _ h9 => h9) rfl dX10_askModel_77 (fun x_30 bx_30 g => ?_)
        refine lv_aload_n hx hb dX10_askModel_80 rfl (lv_at hl 6 rfl) ?_
        refine g_geti (C := RX6) (T := TX6) (N := 13) hx hb hts (mc_ inX6) hown hK g ma3_ ka3_ (by decide) rfl 3 (by decide) rfl (hts _ (List.mem_cons_of_mem _ t_566)) (fun _ h9 => h9) rfl dX10_askModel_81 (fun x_31 bx_31 g => ?_)
        refine lv_icmp_eq (tgt := 88) hx hb dX10_askModel_84 (by decide) (fun c_32 => ?_) (fun c_32 => ?_)
        · have fc_32 := eq_f c_32
          refine lv_aload_n hx hb dX10_askModel_88 rfl (lv_at hl 4 rfl) ?_
          refine g_getl (C := RX4) (T := TX4) (N := 17) hx hb hts (mc_ inX4) hown hK g ma1_ ka1_ (by decide) rfl 5 (by decide) rfl (hts _ (List.mem_cons_of_mem _ t_848)) (fun _ h9 => h9) rfl dX10_askModel_89 (fun x_33 g => ?_)
          refine lv_lstore (lv' := [(8, .long x_33), (7, .int r_20), (6, .ref a_18), (5, .int x_2), (0, .ref a0_), (1, .ref a1_), (2, .int x2_), (3, .ref a3_), (4, .ref a4_)]) hx hb dX10_askModel_92 hl (by decide) rfl (fun ls hl => ?_)
          refine lv_aload_n hx hb dX10_askModel_94 rfl (lv_at hl 4 rfl) ?_
          refine g_getr (K := 1) (C := RX10) (T := TX10) (N := 10) hx hb hts (mc_ inX10) hown hK g ma0_ ka0_ (by decide) rfl 1 (by decide) rfl (hts _ (List.mem_cons_of_mem _ t_913)) (fun _ h9 => h9) rfl dX10_askModel_95 (fun a_34 ma_34 ka_34 g => ?_)
          refine lv_aload_n hx hb dX10_askModel_98 rfl (lv_at hl 4 rfl) ?_
          refine g_getk (C := RX10) (T := TX10) (N := 10) hx hb hts (mc_ inX10) hown hK g rfl 0 (by decide) rfl (hts _ (List.mem_cons_of_mem _ t_912)) (fun _ h9 => h9) 10 rfl dX10_askModel_99 ?_
          refine lv_aload hx hb dX10_askModel_102 (lv_at hl 2 rfl) ?_
          refine lv_aload_n hx hb dX10_askModel_104 rfl (lv_at hl 5 rfl) ?_
          refine g_getr (K := 129) (C := RX4) (T := TX4) (N := 17) hx hb hts (mc_ inX4) hown hK g ma1_ ka1_ (by decide) rfl 10 (by decide) rfl (hts _ (List.mem_cons_of_mem _ t_863)) (fun _ h9 => h9) rfl dX10_askModel_105 (fun a_35 ma_35 ka_35 g => ?_)
          refine lv_iload_n hx hb dX10_askModel_108 rfl (lv_at hl 6 rfl) ?_
          refine g_aald hx hb hK g ma_35 ka_35 (by decide) rfl (by decide) (in_bd bx2_ (by decide)) dX10_askModel_109 (fun a_36 ma_36 ua_36 wa_36 => ?_)
          have ka_36 : kd a_36 = 101 := by omega
          refine lv_aload_n hx hb dX10_askModel_110 rfl (lv_at hl 5 rfl) ?_
          refine g_getk (C := RX4) (T := TX4) (N := 17) hx hb hts (mc_ inX4) hown hK g rfl 10 (by decide) rfl (hts _ (List.mem_cons_of_mem _ t_863)) (fun _ h9 => h9) 0 rfl dX10_askModel_111 ?_
          refine lv_iload_n hx hb dX10_askModel_114 rfl (lv_at hl 6 rfl) ?_
          refine g_aald hx hb hK g ma_35 ka_35 (by decide) rfl (by decide) (in_bd bx2_ (by decide)) dX10_askModel_115 (fun a_37 ma_37 ua_37 wa_37 => ?_)
          have ka_37 : kd a_37 = 101 := by omega
          refine lv_aload hx hb dX10_askModel_116 (lv_at hl 8 rfl) ?_
          have go_ := g
          refine g_callv (va_runV (As := [.ref q0_, .ref a_18, .ref a_36, .ref a_37, .ref a4_]) (rest := []) ⟨hx, hb, hml, hown, hts⟩ (r_X1_standOn_4 l dC dI L kd tys fr_20 H.size g.2.2.2.1 a_34 ma_34 ka_34 q0_ mq0_ kq0_ a_18 ma_18 ka_18 a_36 ma_36 ka_36 a_37 ma_37 ka_37 a4_ ma4_ ka4_) (cwV 5 hts (gV_ t_1543 t_1544 t_1545 t_195 t_1546) rfl rfl rfl (by decide +kernel) ⟨(Nat.le_of_ble_eq_true rfl), (Nat.le_of_ble_eq_true rfl)⟩) (pre3V g hK ma_34 ka_34 (by decide) (q := (RX1, TX1, 18)) rfl) rfl rfl hl.1 rfl (lv_room (Nat.le_of_ble_eq_true rfl)) dX10_askModel_118 ⟨(Nat.le_of_ble_eq_true rfl), (Nat.le_of_ble_eq_true rfl)⟩) g hK (by decide) (by decide) (fx' := [(4, 10, a1_, .ref a_35), (10, 1, a0_, .ref a_34), (4, 5, a1_, .long x_33), (6, 3, a3_, .int x_31), (6, 3, a_29, .int x_30), (9, 9, a_18, .ref a_27), (7, 2, q0_, .ref a_26), (6, 0, a3_, .long x_19), (7, 0, q0_, .ref a_17), (4, 0, a1_, .int x_3), (4, 8, a1_, .ref a_1), (10, 0, a0_, .ref q0_), (7, 1, q0_, .int y0_), (4, 6, a1_, .int y1_), (4, 14, a1_, .int y2_)]) rfl (fun fr_38 H locs hp hMr_38 g => ?_)
          have hF_39 := hp
          have hG_40 := cOK.frame hMr_38 go_.2.2.2.1 mq0_ kq0_ (by decide) (by decide) hG_22
          have g := g.more hF_39
          refine lv_aload_n hx hb dX10_askModel_121 rfl (lv_at hl 4 rfl) ?_
          refine g_getk (C := RX10) (T := TX10) (N := 10) hx hb hts (mc_ inX10) hown hK g rfl 1 (by decide) rfl (hts _ (List.mem_cons_of_mem _ t_913)) (fun _ h9 => h9) 6 rfl dX10_askModel_122 ?_
          refine lv_aload_n hx hb dX10_askModel_125 rfl (lv_at hl 4 rfl) ?_
          refine g_getk (C := RX10) (T := TX10) (N := 10) hx hb hts (mc_ inX10) hown hK g rfl 0 (by decide) rfl (hts _ (List.mem_cons_of_mem _ t_912)) (fun _ h9 => h9) 16 rfl dX10_askModel_126 ?_
          refine g_getk (C := RX7) (T := TX7) (N := 19) hx hb hts (mc_ inX7) hown hK g rfl 2 (by decide) rfl (hts _ (List.mem_cons_of_mem _ t_634)) (fun _ h9 => h9) 11 rfl dX10_askModel_129 ?_
          refine lv_aload hx hb dX10_askModel_132 (lv_at hl 2 rfl) ?_
          refine g_getk (C := RX9) (T := TX9) (N := 13) hx hb hts (mc_ inX9) hown hK g rfl 9 (by decide) rfl (hts _ (List.mem_cons_of_mem _ t_509)) (fun _ h9 => h9) 10 rfl dX10_askModel_134 ?_
          refine lv_iload hx hb dX10_askModel_137 (lv_at hl 1 rfl) ?_
          refine g_iald hx hb hK g ma_27 ka_27 (by decide) rfl (in_bd b_25 (by decide)) dX10_askModel_139 (fun x_41 bx_41 cx_41 => ?_)
          obtain rfl : x_28 = x_41 := el_same cx_28 cx_41 (arr_eq hMr_38 ma_27 ka_27 (by decide) rfl)
          refine g_aald hx hb hK g ma_26 ka_26 (by decide) rfl (by decide) (in_bd bx_28 (by decide)) dX10_askModel_140 (fun a_42 ma_42 ua_42 wa_42 => ?_)
          have ka_42 : kd a_42 = 6 := by omega
          have go_ := g
          refine g_callv (va_runV (As := [.ref a_42]) (rest := []) ⟨hx, hb, hml, hown, hts⟩ (r_X1_readyToCall l dC dI L kd tys fr_38 H.size g.2.2.2.1 a_34 ma_34 ka_34 a_42 ma_42 ka_42) (cwV 1 hts (gV_ t_1629 t_1630 t_1631 t_195 t_1632) rfl rfl rfl (by decide +kernel) ⟨(Nat.le_of_ble_eq_true rfl), (Nat.le_of_ble_eq_true rfl)⟩) (pre3V g hK ma_34 ka_34 (by decide) (q := (RX1, TX1, 18)) rfl) rfl rfl hl.1 rfl (lv_room (Nat.le_of_ble_eq_true rfl)) dX10_askModel_141 ⟨(Nat.le_of_ble_eq_true rfl), (Nat.le_of_ble_eq_true rfl)⟩) g hK (by decide) (by decide) (fx' := [(1, 4, a_34, .ref a4_), (1, 3, a_34, .ref a_37), (1, 2, a_34, .ref a_36), (1, 1, a_34, .ref a_18), (1, 0, a_34, .ref q0_), (4, 10, a1_, .ref a_35), (10, 1, a0_, .ref a_34), (4, 5, a1_, .long x_33), (6, 3, a3_, .int x_31), (6, 3, a_29, .int x_30), (9, 9, a_18, .ref a_27), (7, 2, q0_, .ref a_26), (6, 0, a3_, .long x_19), (7, 0, q0_, .ref a_17), (4, 0, a1_, .int x_3), (4, 8, a1_, .ref a_1), (10, 0, a0_, .ref q0_), (7, 1, q0_, .int y0_), (4, 6, a1_, .int y1_), (4, 14, a1_, .int y2_)]) rfl (fun fr_43 H locs hp hMr_43 g => ?_)
          have hF_44 := hp
          have hG_45 := cOK.frame hMr_43 go_.2.2.2.1 mq0_ kq0_ (by decide) (by decide) hG_40
          have g := g.more hF_44
          refine lv_aload_n hx hb dX10_askModel_144 rfl (lv_at hl 4 rfl) ?_
          refine g_getk (C := RX10) (T := TX10) (N := 10) hx hb hts (mc_ inX10) hown hK g rfl 1 (by decide) rfl (hts _ (List.mem_cons_of_mem _ t_913)) (fun _ h9 => h9) 9 rfl dX10_askModel_145 ?_
          have kb_1 : bd 1 1 (1 : Int32) := ⟨by decide, by decide⟩
          have go_ := g
          refine g_callv (va_runV (As := []) (rest := []) ⟨hx, hb, hml, hown, hts⟩ (r_X1_go_3 l dC dI L kd tys fr_43 H.size g.2.2.2.1 a_34 ma_34 ka_34 q0_ mq0_ kq0_ a_18 ma_18 ka_18 1 kb_1 0 kb_0 0 kb_0 y0_ by0_ hG_45 (g.fcts [7, 6, 0, 1, 2, 20] rfl)) (cwV 0 hts (gV_ t_1555 t_1556 t_1557 t_195 t_1558) rfl rfl rfl (by decide +kernel) ⟨(Nat.le_of_ble_eq_true rfl), (Nat.le_of_ble_eq_true rfl)⟩) (pre3V g hK ma_34 ka_34 (by decide) (q := (RX1, TX1, 18)) rfl) rfl rfl hl.1 rfl (lv_room (Nat.le_of_ble_eq_true rfl)) dX10_askModel_148 ⟨(Nat.le_of_ble_eq_true rfl), (Nat.le_of_ble_eq_true rfl)⟩) g hK (by decide) (by decide) (fx' := [(1, 12, a_34, .int 1), (1, 6, a_34, .int 0), (1, 5, a_34, .int 0), (1, 4, a_34, .ref a4_), (1, 3, a_34, .ref a_37), (1, 2, a_34, .ref a_36), (1, 1, a_34, .ref a_18), (1, 0, a_34, .ref q0_), (4, 10, a1_, .ref a_35), (10, 1, a0_, .ref a_34), (4, 5, a1_, .long x_33), (6, 3, a3_, .int x_31), (6, 3, a_29, .int x_30), (9, 9, a_18, .ref a_27), (7, 2, q0_, .ref a_26), (6, 0, a3_, .long x_19), (7, 0, q0_, .ref a_17), (4, 0, a1_, .int x_3), (4, 8, a1_, .ref a_1), (10, 0, a0_, .ref q0_), (7, 1, q0_, .int y0_), (4, 6, a1_, .int y1_), (4, 14, a1_, .int y2_)]) rfl (fun fr_46 H locs hp hMr_46 g => ?_)
          obtain ⟨x_47, h_48, hF_49⟩ := hp
          have hG_50 := cOK.frame hMr_46 go_.2.2.2.1 mq0_ kq0_ (by decide) (by decide) hG_45
          have g := g.more hF_49
          refine lv_aload_n hx hb dX10_askModel_151 rfl (lv_at hl 4 rfl) ?_
          refine g_getk (C := RX10) (T := TX10) (N := 10) hx hb hts (mc_ inX10) hown hK g rfl 1 (by decide) rfl (hts _ (List.mem_cons_of_mem _ t_913)) (fun _ h9 => h9) 10 rfl dX10_askModel_152 ?_
          refine g_geti (C := RX1) (T := TX1) (N := 18) hx hb hts (mc_ inX1) hown hK g ma_34 ka_34 (by decide) rfl 15 (by decide) rfl (hts _ (List.mem_cons_of_mem _ t_751)) (fun _ h9 => h9) rfl dX10_askModel_155 (fun x_51 bx_51 g => ?_)
          refine lv_aload_n hx hb dX10_askModel_158 rfl (lv_at hl 5 rfl) ?_
          refine g_geti (C := RX4) (T := TX4) (N := 17) hx hb hts (mc_ inX4) hown hK g ma1_ ka1_ (by decide) rfl 15 (by decide) rfl (hts _ (List.mem_cons_of_mem _ t_875)) (fun _ h9 => h9) rfl dX10_askModel_159 (fun x_52 bx_52 g => ?_)
          refine lv_icmp_ne (tgt := 169) hx hb dX10_askModel_162 (by decide) (fun c_53 => ?_) (fun c_53 => ?_)
          · have fc_53 := neq_f c_53
            refine lv_iconst (v := 0) hx hb dX10_askModel_169 (by decide) ?_
            refine lv_istore (lv' := [(10, .int 0), (8, .long x_33), (7, .int r_20), (6, .ref a_18), (5, .int x_2), (0, .ref a0_), (1, .ref a1_), (2, .int x2_), (3, .ref a3_), (4, .ref a4_)]) hx hb dX10_askModel_170 hl (by decide) rfl (fun ls hl => ?_)
            refine lv_aload_n hx hb dX10_askModel_172 rfl (lv_at hl 5 rfl) ?_
            refine g_getk (C := RX10) (T := TX10) (N := 10) hx hb hts (mc_ inX10) hown hK g rfl 1 (by decide) rfl (hts _ (List.mem_cons_of_mem _ t_913)) (fun _ h9 => h9) 12 rfl dX10_askModel_173 ?_
            refine g_getk (C := RX1) (T := TX1) (N := 18) hx hb hts (mc_ inX1) hown hK g rfl 15 (by decide) rfl (hts _ (List.mem_cons_of_mem _ t_751)) (fun _ h9 => h9) 1 rfl dX10_askModel_176 ?_
            refine lv_iconst (v := 2) hx hb dX10_askModel_179 (by decide) ?_
            have kb_2 : bd 2 2 (2 : Int32) := ⟨by decide, by decide⟩
            refine lv_icmp_ne (tgt := 222) hx hb dX10_askModel_180 (by decide) (fun c_54 => ?_) (fun c_54 => ?_)
            · have fc_54 := neq_f c_54
              refine lv_iload hx hb dX10_askModel_222 (lv_at hl 0 rfl) ?_
              refine lv_if_eq (tgt := 245) hx hb dX10_askModel_224 (by decide) (fun c_ => ?_) (fun c_ => absurd (by decide) c_)
              refine lv_iconst (v := 0) hx hb dX10_askModel_245 (by decide) ?_
              refine lv_istore (lv' := [(10, .int 0), (8, .long x_33), (7, .int r_20), (6, .ref a_18), (5, .int x_2), (0, .ref a0_), (1, .ref a1_), (2, .int x2_), (3, .ref a3_), (4, .ref a4_)]) hx hb dX10_askModel_246 hl (by decide) rfl (fun ls hl => ?_)
              refine lv_aload_n hx hb dX10_askModel_248 rfl (lv_at hl 6 rfl) ?_
              refine lv_iload hx hb dX10_askModel_249 (lv_at hl 0 rfl) ?_
              refine lv_if_eq (tgt := 258) hx hb dX10_askModel_251 (by decide) (fun c_ => ?_) (fun c_ => absurd (by decide) c_)
              refine lv_bipush (v := 6) hx hb dX10_askModel_258 (by decide) ?_
              have kb_6 : bd 6 6 (6 : Int32) := ⟨by decide, by decide⟩
              have go_ := g
              refine g_put (C := RX4) (T := TX4) (N := 17) hx hb hts (mc_ inX4) tyX4 tyX4_ok nmX4 hown hK g ma1_ ka1_ (by decide) rfl 0 (by decide) (hts _ (List.mem_cons_of_mem _ t_837)) (fun _ h9 => h9) rfl rfl (okV_i (bd_sub kb_6 (by decide))) rfl rfl (by decide) (Or.inr (Or.inl (by decide))) (fx' := [(4, 15, a1_, .int x_52), (1, 15, a_34, .int x_51), (1, 11, a_34, .int x_47), (1, 12, a_34, .int 1), (1, 6, a_34, .int 0), (1, 5, a_34, .int 0), (1, 4, a_34, .ref a4_), (1, 3, a_34, .ref a_37), (1, 2, a_34, .ref a_36), (1, 1, a_34, .ref a_18), (1, 0, a_34, .ref q0_), (4, 10, a1_, .ref a_35), (10, 1, a0_, .ref a_34), (4, 5, a1_, .long x_33), (6, 3, a3_, .int x_31), (6, 3, a_29, .int x_30), (9, 9, a_18, .ref a_27), (7, 2, q0_, .ref a_26), (6, 0, a3_, .long x_19), (7, 0, q0_, .ref a_17), (4, 8, a1_, .ref a_1), (10, 0, a0_, .ref q0_), (7, 1, q0_, .int y0_), (4, 6, a1_, .int y1_), (4, 14, a1_, .int y2_)]) rfl dX10_askModel_260 (fun f H locs hM_55 g => ?_)
              have hG_56 := cOK.frame hM_55 go_.2.2.2.1 mq0_ kq0_ (by decide) (by decide) hG_50
              subst hQ
              exact W.vret hx hb hr (fun t ht hW => ⟨⟨_, rfl, trivial, q3_of g hK ht hW⟩, g.2.2.1.F ht⟩) g.2.2.1.2.2 dX10_askModel_263
            · have fc_54 := eq_f c_54
              have b_57 : bd 2 2 x_51 := eqX fc_54 (bdT x_51) kb_2 (by decide)
              refine lv_aload_n hx hb dX10_askModel_183 rfl (lv_at hl 6 rfl) ?_
              refine lv_aload_n hx hb dX10_askModel_184 rfl (lv_at hl 5 rfl) ?_
              refine g_getk (C := RX10) (T := TX10) (N := 10) hx hb hts (mc_ inX10) hown hK g rfl 1 (by decide) rfl (hts _ (List.mem_cons_of_mem _ t_913)) (fun _ h9 => h9) 12 rfl dX10_askModel_185 ?_
              refine g_getl (C := RX1) (T := TX1) (N := 18) hx hb hts (mc_ inX1) hown hK g ma_34 ka_34 (by decide) rfl 17 (by decide) rfl (hts _ (List.mem_cons_of_mem _ t_755)) (fun _ h9 => h9) rfl dX10_askModel_188 (fun x_58 g => ?_)
              have go_ := g
              refine g_put (C := RX4) (T := TX4) (N := 17) hx hb hts (mc_ inX4) tyX4 tyX4_ok nmX4 hown hK g ma1_ ka1_ (by decide) rfl 5 (by decide) (hts _ (List.mem_cons_of_mem _ t_848)) (fun _ h9 => h9) rfl rfl okV_l rfl rfl (by decide) (Or.inr (Or.inl (by decide))) (fx' := [(1, 17, a_34, .long x_58), (4, 15, a1_, .int x_52), (1, 15, a_34, .int x_51), (1, 11, a_34, .int x_47), (1, 12, a_34, .int 1), (1, 6, a_34, .int 0), (1, 5, a_34, .int 0), (1, 4, a_34, .ref a4_), (1, 3, a_34, .ref a_37), (1, 2, a_34, .ref a_36), (1, 1, a_34, .ref a_18), (1, 0, a_34, .ref q0_), (4, 10, a1_, .ref a_35), (10, 1, a0_, .ref a_34), (6, 3, a3_, .int x_31), (6, 3, a_29, .int x_30), (9, 9, a_18, .ref a_27), (7, 2, q0_, .ref a_26), (6, 0, a3_, .long x_19), (7, 0, q0_, .ref a_17), (4, 0, a1_, .int x_3), (4, 8, a1_, .ref a_1), (10, 0, a0_, .ref q0_), (7, 1, q0_, .int y0_), (4, 6, a1_, .int y1_), (4, 14, a1_, .int y2_)]) rfl dX10_askModel_191 (fun f H locs hM_59 g => ?_)
              have hG_60 := cOK.frame hM_59 go_.2.2.2.1 mq0_ kq0_ (by decide) (by decide) hG_50
              refine lv_iload hx hb dX10_askModel_194 (lv_at hl 0 rfl) ?_
              refine lv_if_eq (tgt := 216) hx hb dX10_askModel_196 (by decide) (fun c_ => ?_) (fun c_ => absurd (by decide) c_)
              refine lv_iconst (v := 0) hx hb dX10_askModel_216 (by decide) ?_
              refine lv_istore (lv' := [(10, .int 0), (8, .long x_33), (7, .int r_20), (6, .ref a_18), (5, .int x_2), (0, .ref a0_), (1, .ref a1_), (2, .int x2_), (3, .ref a3_), (4, .ref a4_)]) hx hb dX10_askModel_217 hl (by decide) rfl (fun ls hl => ?_)
              refine lv_goto (tgt := 248) hx hb dX10_askModel_219 (by decide) ?_
              refine lv_aload_n hx hb dX10_askModel_248 rfl (lv_at hl 6 rfl) ?_
              refine lv_iload hx hb dX10_askModel_249 (lv_at hl 0 rfl) ?_
              refine lv_if_eq (tgt := 258) hx hb dX10_askModel_251 (by decide) (fun c_ => ?_) (fun c_ => absurd (by decide) c_)
              refine lv_bipush (v := 6) hx hb dX10_askModel_258 (by decide) ?_
              have kb_6 : bd 6 6 (6 : Int32) := ⟨by decide, by decide⟩
              have go_ := g
              refine g_put (C := RX4) (T := TX4) (N := 17) hx hb hts (mc_ inX4) tyX4 tyX4_ok nmX4 hown hK g ma1_ ka1_ (by decide) rfl 0 (by decide) (hts _ (List.mem_cons_of_mem _ t_837)) (fun _ h9 => h9) rfl rfl (okV_i (bd_sub kb_6 (by decide))) rfl rfl (by decide) (Or.inr (Or.inl (by decide))) (fx' := [(4, 5, a1_, .long x_58), (1, 17, a_34, .long x_58), (4, 15, a1_, .int x_52), (1, 15, a_34, .int x_51), (1, 11, a_34, .int x_47), (1, 12, a_34, .int 1), (1, 6, a_34, .int 0), (1, 5, a_34, .int 0), (1, 4, a_34, .ref a4_), (1, 3, a_34, .ref a_37), (1, 2, a_34, .ref a_36), (1, 1, a_34, .ref a_18), (1, 0, a_34, .ref q0_), (4, 10, a1_, .ref a_35), (10, 1, a0_, .ref a_34), (6, 3, a3_, .int x_31), (6, 3, a_29, .int x_30), (9, 9, a_18, .ref a_27), (7, 2, q0_, .ref a_26), (6, 0, a3_, .long x_19), (7, 0, q0_, .ref a_17), (4, 8, a1_, .ref a_1), (10, 0, a0_, .ref q0_), (7, 1, q0_, .int y0_), (4, 6, a1_, .int y1_), (4, 14, a1_, .int y2_)]) rfl dX10_askModel_260 (fun f H locs hM_61 g => ?_)
              have hG_62 := cOK.frame hM_61 go_.2.2.2.1 mq0_ kq0_ (by decide) (by decide) hG_60
              subst hQ
              exact W.vret hx hb hr (fun t ht hW => ⟨⟨_, rfl, trivial, q3_of g hK ht hW⟩, g.2.2.1.F ht⟩) g.2.2.1.2.2 dX10_askModel_263
          · have fc_53 := eq_f c_53
            refine lv_iconst (v := 1) hx hb dX10_askModel_165 (by decide) ?_
            refine lv_goto (tgt := 170) hx hb dX10_askModel_166 (by decide) ?_
            refine lv_istore (lv' := [(10, .int 1), (8, .long x_33), (7, .int r_20), (6, .ref a_18), (5, .int x_2), (0, .ref a0_), (1, .ref a1_), (2, .int x2_), (3, .ref a3_), (4, .ref a4_)]) hx hb dX10_askModel_170 hl (by decide) rfl (fun ls hl => ?_)
            refine lv_aload_n hx hb dX10_askModel_172 rfl (lv_at hl 5 rfl) ?_
            refine g_getk (C := RX10) (T := TX10) (N := 10) hx hb hts (mc_ inX10) hown hK g rfl 1 (by decide) rfl (hts _ (List.mem_cons_of_mem _ t_913)) (fun _ h9 => h9) 12 rfl dX10_askModel_173 ?_
            refine g_getk (C := RX1) (T := TX1) (N := 18) hx hb hts (mc_ inX1) hown hK g rfl 15 (by decide) rfl (hts _ (List.mem_cons_of_mem _ t_751)) (fun _ h9 => h9) 1 rfl dX10_askModel_176 ?_
            refine lv_iconst (v := 2) hx hb dX10_askModel_179 (by decide) ?_
            have kb_2 : bd 2 2 (2 : Int32) := ⟨by decide, by decide⟩
            refine lv_icmp_ne (tgt := 222) hx hb dX10_askModel_180 (by decide) (fun c_63 => ?_) (fun c_63 => ?_)
            · have fc_63 := neq_f c_63
              refine lv_iload hx hb dX10_askModel_222 (lv_at hl 0 rfl) ?_
              refine lv_if_eq (tgt := 245) hx hb dX10_askModel_224 (by decide) (fun c_ => absurd c_ (by decide)) (fun c_ => ?_)
              refine lv_aload_n hx hb dX10_askModel_227 rfl (lv_at hl 5 rfl) ?_
              refine g_getk (C := RX10) (T := TX10) (N := 10) hx hb hts (mc_ inX10) hown hK g rfl 1 (by decide) rfl (hts _ (List.mem_cons_of_mem _ t_913)) (fun _ h9 => h9) 12 rfl dX10_askModel_228 ?_
              refine g_geti (C := RX1) (T := TX1) (N := 18) hx hb hts (mc_ inX1) hown hK g ma_34 ka_34 (by decide) rfl 16 (by decide) rfl (hts _ (List.mem_cons_of_mem _ t_753)) (fun _ h9 => h9) rfl dX10_askModel_231 (fun x_64 bx_64 g => ?_)
              refine lv_aload_n hx hb dX10_askModel_234 rfl (lv_at hl 6 rfl) ?_
              refine g_geti (C := RX4) (T := TX4) (N := 17) hx hb hts (mc_ inX4) hown hK g ma1_ ka1_ (by decide) rfl 16 (by decide) rfl (hts _ (List.mem_cons_of_mem _ t_876)) (fun _ h9 => h9) rfl dX10_askModel_235 (fun x_65 bx_65 g => ?_)
              refine lv_icmp_ne (tgt := 245) hx hb dX10_askModel_238 (by decide) (fun c_66 => ?_) (fun c_66 => ?_)
              · have fc_66 := neq_f c_66
                refine lv_iconst (v := 0) hx hb dX10_askModel_245 (by decide) ?_
                refine lv_istore (lv' := [(10, .int 0), (8, .long x_33), (7, .int r_20), (6, .ref a_18), (5, .int x_2), (0, .ref a0_), (1, .ref a1_), (2, .int x2_), (3, .ref a3_), (4, .ref a4_)]) hx hb dX10_askModel_246 hl (by decide) rfl (fun ls hl => ?_)
                refine lv_aload_n hx hb dX10_askModel_248 rfl (lv_at hl 6 rfl) ?_
                refine lv_iload hx hb dX10_askModel_249 (lv_at hl 0 rfl) ?_
                refine lv_if_eq (tgt := 258) hx hb dX10_askModel_251 (by decide) (fun c_ => ?_) (fun c_ => absurd (by decide) c_)
                refine lv_bipush (v := 6) hx hb dX10_askModel_258 (by decide) ?_
                have kb_6 : bd 6 6 (6 : Int32) := ⟨by decide, by decide⟩
                have go_ := g
                refine g_put (C := RX4) (T := TX4) (N := 17) hx hb hts (mc_ inX4) tyX4 tyX4_ok nmX4 hown hK g ma1_ ka1_ (by decide) rfl 0 (by decide) (hts _ (List.mem_cons_of_mem _ t_837)) (fun _ h9 => h9) rfl rfl (okV_i (bd_sub kb_6 (by decide))) rfl rfl (by decide) (Or.inr (Or.inl (by decide))) (fx' := [(4, 16, a1_, .int x_65), (1, 16, a_34, .int x_64), (4, 15, a1_, .int x_52), (1, 15, a_34, .int x_51), (1, 11, a_34, .int x_47), (1, 12, a_34, .int 1), (1, 6, a_34, .int 0), (1, 5, a_34, .int 0), (1, 4, a_34, .ref a4_), (1, 3, a_34, .ref a_37), (1, 2, a_34, .ref a_36), (1, 1, a_34, .ref a_18), (1, 0, a_34, .ref q0_), (4, 10, a1_, .ref a_35), (10, 1, a0_, .ref a_34), (4, 5, a1_, .long x_33), (6, 3, a3_, .int x_31), (6, 3, a_29, .int x_30), (9, 9, a_18, .ref a_27), (7, 2, q0_, .ref a_26), (6, 0, a3_, .long x_19), (7, 0, q0_, .ref a_17), (4, 8, a1_, .ref a_1), (10, 0, a0_, .ref q0_), (7, 1, q0_, .int y0_), (4, 6, a1_, .int y1_), (4, 14, a1_, .int y2_)]) rfl dX10_askModel_260 (fun f H locs hM_67 g => ?_)
                have hG_68 := cOK.frame hM_67 go_.2.2.2.1 mq0_ kq0_ (by decide) (by decide) hG_50
                subst hQ
                exact W.vret hx hb hr (fun t ht hW => ⟨⟨_, rfl, trivial, q3_of g hK ht hW⟩, g.2.2.1.F ht⟩) g.2.2.1.2.2 dX10_askModel_263
              · have fc_66 := eq_f c_66
                refine lv_iconst (v := 1) hx hb dX10_askModel_241 (by decide) ?_
                refine lv_goto (tgt := 246) hx hb dX10_askModel_242 (by decide) ?_
                refine lv_istore (lv' := [(10, .int 1), (8, .long x_33), (7, .int r_20), (6, .ref a_18), (5, .int x_2), (0, .ref a0_), (1, .ref a1_), (2, .int x2_), (3, .ref a3_), (4, .ref a4_)]) hx hb dX10_askModel_246 hl (by decide) rfl (fun ls hl => ?_)
                refine lv_aload_n hx hb dX10_askModel_248 rfl (lv_at hl 6 rfl) ?_
                refine lv_iload hx hb dX10_askModel_249 (lv_at hl 0 rfl) ?_
                refine lv_if_eq (tgt := 258) hx hb dX10_askModel_251 (by decide) (fun c_ => absurd c_ (by decide)) (fun c_ => ?_)
                refine lv_iconst (v := 0) hx hb dX10_askModel_254 (by decide) ?_
                refine lv_goto (tgt := 260) hx hb dX10_askModel_255 (by decide) ?_
                have go_ := g
                refine g_put (C := RX4) (T := TX4) (N := 17) hx hb hts (mc_ inX4) tyX4 tyX4_ok nmX4 hown hK g ma1_ ka1_ (by decide) rfl 0 (by decide) (hts _ (List.mem_cons_of_mem _ t_837)) (fun _ h9 => h9) rfl rfl (okV_i (bd_sub kb_0 (by decide))) rfl rfl (by decide) (Or.inr (Or.inl (by decide))) (fx' := [(4, 16, a1_, .int x_65), (1, 16, a_34, .int x_64), (4, 15, a1_, .int x_52), (1, 15, a_34, .int x_51), (1, 11, a_34, .int x_47), (1, 12, a_34, .int 1), (1, 6, a_34, .int 0), (1, 5, a_34, .int 0), (1, 4, a_34, .ref a4_), (1, 3, a_34, .ref a_37), (1, 2, a_34, .ref a_36), (1, 1, a_34, .ref a_18), (1, 0, a_34, .ref q0_), (4, 10, a1_, .ref a_35), (10, 1, a0_, .ref a_34), (4, 5, a1_, .long x_33), (6, 3, a3_, .int x_31), (6, 3, a_29, .int x_30), (9, 9, a_18, .ref a_27), (7, 2, q0_, .ref a_26), (6, 0, a3_, .long x_19), (7, 0, q0_, .ref a_17), (4, 8, a1_, .ref a_1), (10, 0, a0_, .ref q0_), (7, 1, q0_, .int y0_), (4, 6, a1_, .int y1_), (4, 14, a1_, .int y2_)]) rfl dX10_askModel_260 (fun f H locs hM_69 g => ?_)
                have hG_70 := cOK.frame hM_69 go_.2.2.2.1 mq0_ kq0_ (by decide) (by decide) hG_50
                subst hQ
                exact W.vret hx hb hr (fun t ht hW => ⟨⟨_, rfl, trivial, q3_of g hK ht hW⟩, g.2.2.1.F ht⟩) g.2.2.1.2.2 dX10_askModel_263
            · have fc_63 := eq_f c_63
              have b_71 : bd 2 2 x_51 := eqX fc_63 (bdT x_51) kb_2 (by decide)
              refine lv_aload_n hx hb dX10_askModel_183 rfl (lv_at hl 6 rfl) ?_
              refine lv_aload_n hx hb dX10_askModel_184 rfl (lv_at hl 5 rfl) ?_
              refine g_getk (C := RX10) (T := TX10) (N := 10) hx hb hts (mc_ inX10) hown hK g rfl 1 (by decide) rfl (hts _ (List.mem_cons_of_mem _ t_913)) (fun _ h9 => h9) 12 rfl dX10_askModel_185 ?_
              refine g_getl (C := RX1) (T := TX1) (N := 18) hx hb hts (mc_ inX1) hown hK g ma_34 ka_34 (by decide) rfl 17 (by decide) rfl (hts _ (List.mem_cons_of_mem _ t_755)) (fun _ h9 => h9) rfl dX10_askModel_188 (fun x_72 g => ?_)
              have go_ := g
              refine g_put (C := RX4) (T := TX4) (N := 17) hx hb hts (mc_ inX4) tyX4 tyX4_ok nmX4 hown hK g ma1_ ka1_ (by decide) rfl 5 (by decide) (hts _ (List.mem_cons_of_mem _ t_848)) (fun _ h9 => h9) rfl rfl okV_l rfl rfl (by decide) (Or.inr (Or.inl (by decide))) (fx' := [(1, 17, a_34, .long x_72), (4, 15, a1_, .int x_52), (1, 15, a_34, .int x_51), (1, 11, a_34, .int x_47), (1, 12, a_34, .int 1), (1, 6, a_34, .int 0), (1, 5, a_34, .int 0), (1, 4, a_34, .ref a4_), (1, 3, a_34, .ref a_37), (1, 2, a_34, .ref a_36), (1, 1, a_34, .ref a_18), (1, 0, a_34, .ref q0_), (4, 10, a1_, .ref a_35), (10, 1, a0_, .ref a_34), (6, 3, a3_, .int x_31), (6, 3, a_29, .int x_30), (9, 9, a_18, .ref a_27), (7, 2, q0_, .ref a_26), (6, 0, a3_, .long x_19), (7, 0, q0_, .ref a_17), (4, 0, a1_, .int x_3), (4, 8, a1_, .ref a_1), (10, 0, a0_, .ref q0_), (7, 1, q0_, .int y0_), (4, 6, a1_, .int y1_), (4, 14, a1_, .int y2_)]) rfl dX10_askModel_191 (fun f H locs hM_73 g => ?_)
              have hG_74 := cOK.frame hM_73 go_.2.2.2.1 mq0_ kq0_ (by decide) (by decide) hG_50
              refine lv_iload hx hb dX10_askModel_194 (lv_at hl 0 rfl) ?_
              refine lv_if_eq (tgt := 216) hx hb dX10_askModel_196 (by decide) (fun c_ => absurd c_ (by decide)) (fun c_ => ?_)
              refine lv_aload_n hx hb dX10_askModel_199 rfl (lv_at hl 5 rfl) ?_
              refine g_getk (C := RX10) (T := TX10) (N := 10) hx hb hts (mc_ inX10) hown hK g rfl 1 (by decide) rfl (hts _ (List.mem_cons_of_mem _ t_913)) (fun _ h9 => h9) 14 rfl dX10_askModel_200 ?_
              refine g_getk (C := RX1) (T := TX1) (N := 18) hx hb hts (mc_ inX1) hown hK g rfl 17 (by decide) rfl (hts _ (List.mem_cons_of_mem _ t_755)) (fun _ h9 => h9) 1 rfl dX10_askModel_203 ?_
              refine lv_lload hx hb dX10_askModel_206 (lv_at hl 1 rfl) ?_
              refine W.lcmp hx hb dX10_askModel_208 ?_
              refine lv_if_ne (tgt := 216) hx hb dX10_askModel_209 (by decide) (fun c_75 => ?_) (fun c_75 => ?_)
              · refine lv_iconst (v := 0) hx hb dX10_askModel_216 (by decide) ?_
                refine lv_istore (lv' := [(10, .int 0), (8, .long x_33), (7, .int r_20), (6, .ref a_18), (5, .int x_2), (0, .ref a0_), (1, .ref a1_), (2, .int x2_), (3, .ref a3_), (4, .ref a4_)]) hx hb dX10_askModel_217 hl (by decide) rfl (fun ls hl => ?_)
                refine lv_goto (tgt := 248) hx hb dX10_askModel_219 (by decide) ?_
                refine lv_aload_n hx hb dX10_askModel_248 rfl (lv_at hl 6 rfl) ?_
                refine lv_iload hx hb dX10_askModel_249 (lv_at hl 0 rfl) ?_
                refine lv_if_eq (tgt := 258) hx hb dX10_askModel_251 (by decide) (fun c_ => ?_) (fun c_ => absurd (by decide) c_)
                refine lv_bipush (v := 6) hx hb dX10_askModel_258 (by decide) ?_
                have kb_6 : bd 6 6 (6 : Int32) := ⟨by decide, by decide⟩
                have go_ := g
                refine g_put (C := RX4) (T := TX4) (N := 17) hx hb hts (mc_ inX4) tyX4 tyX4_ok nmX4 hown hK g ma1_ ka1_ (by decide) rfl 0 (by decide) (hts _ (List.mem_cons_of_mem _ t_837)) (fun _ h9 => h9) rfl rfl (okV_i (bd_sub kb_6 (by decide))) rfl rfl (by decide) (Or.inr (Or.inl (by decide))) (fx' := [(4, 5, a1_, .long x_72), (1, 17, a_34, .long x_72), (4, 15, a1_, .int x_52), (1, 15, a_34, .int x_51), (1, 11, a_34, .int x_47), (1, 12, a_34, .int 1), (1, 6, a_34, .int 0), (1, 5, a_34, .int 0), (1, 4, a_34, .ref a4_), (1, 3, a_34, .ref a_37), (1, 2, a_34, .ref a_36), (1, 1, a_34, .ref a_18), (1, 0, a_34, .ref q0_), (4, 10, a1_, .ref a_35), (10, 1, a0_, .ref a_34), (6, 3, a3_, .int x_31), (6, 3, a_29, .int x_30), (9, 9, a_18, .ref a_27), (7, 2, q0_, .ref a_26), (6, 0, a3_, .long x_19), (7, 0, q0_, .ref a_17), (4, 8, a1_, .ref a_1), (10, 0, a0_, .ref q0_), (7, 1, q0_, .int y0_), (4, 6, a1_, .int y1_), (4, 14, a1_, .int y2_)]) rfl dX10_askModel_260 (fun f H locs hM_76 g => ?_)
                have hG_77 := cOK.frame hM_76 go_.2.2.2.1 mq0_ kq0_ (by decide) (by decide) hG_74
                subst hQ
                exact W.vret hx hb hr (fun t ht hW => ⟨⟨_, rfl, trivial, q3_of g hK ht hW⟩, g.2.2.1.F ht⟩) g.2.2.1.2.2 dX10_askModel_263
              · refine lv_iconst (v := 1) hx hb dX10_askModel_212 (by decide) ?_
                refine lv_goto (tgt := 217) hx hb dX10_askModel_213 (by decide) ?_
                refine lv_istore (lv' := [(10, .int 1), (8, .long x_33), (7, .int r_20), (6, .ref a_18), (5, .int x_2), (0, .ref a0_), (1, .ref a1_), (2, .int x2_), (3, .ref a3_), (4, .ref a4_)]) hx hb dX10_askModel_217 hl (by decide) rfl (fun ls hl => ?_)
                refine lv_goto (tgt := 248) hx hb dX10_askModel_219 (by decide) ?_
                refine lv_aload_n hx hb dX10_askModel_248 rfl (lv_at hl 6 rfl) ?_
                refine lv_iload hx hb dX10_askModel_249 (lv_at hl 0 rfl) ?_
                refine lv_if_eq (tgt := 258) hx hb dX10_askModel_251 (by decide) (fun c_ => absurd c_ (by decide)) (fun c_ => ?_)
                refine lv_iconst (v := 0) hx hb dX10_askModel_254 (by decide) ?_
                refine lv_goto (tgt := 260) hx hb dX10_askModel_255 (by decide) ?_
                have go_ := g
                refine g_put (C := RX4) (T := TX4) (N := 17) hx hb hts (mc_ inX4) tyX4 tyX4_ok nmX4 hown hK g ma1_ ka1_ (by decide) rfl 0 (by decide) (hts _ (List.mem_cons_of_mem _ t_837)) (fun _ h9 => h9) rfl rfl (okV_i (bd_sub kb_0 (by decide))) rfl rfl (by decide) (Or.inr (Or.inl (by decide))) (fx' := [(4, 5, a1_, .long x_72), (1, 17, a_34, .long x_72), (4, 15, a1_, .int x_52), (1, 15, a_34, .int x_51), (1, 11, a_34, .int x_47), (1, 12, a_34, .int 1), (1, 6, a_34, .int 0), (1, 5, a_34, .int 0), (1, 4, a_34, .ref a4_), (1, 3, a_34, .ref a_37), (1, 2, a_34, .ref a_36), (1, 1, a_34, .ref a_18), (1, 0, a_34, .ref q0_), (4, 10, a1_, .ref a_35), (10, 1, a0_, .ref a_34), (6, 3, a3_, .int x_31), (6, 3, a_29, .int x_30), (9, 9, a_18, .ref a_27), (7, 2, q0_, .ref a_26), (6, 0, a3_, .long x_19), (7, 0, q0_, .ref a_17), (4, 8, a1_, .ref a_1), (10, 0, a0_, .ref q0_), (7, 1, q0_, .int y0_), (4, 6, a1_, .int y1_), (4, 14, a1_, .int y2_)]) rfl dX10_askModel_260 (fun f H locs hM_78 g => ?_)
                have hG_79 := cOK.frame hM_78 go_.2.2.2.1 mq0_ kq0_ (by decide) (by decide) hG_74
                subst hQ
                exact W.vret hx hb hr (fun t ht hW => ⟨⟨_, rfl, trivial, q3_of g hK ht hW⟩, g.2.2.1.F ht⟩) g.2.2.1.2.2 dX10_askModel_263
        · have fc_32 := neq_f c_32
          subst hQ
          exact W.vret hx hb hr (fun t ht hW => ⟨⟨_, rfl, trivial, q3_of g hK ht hW⟩, g.2.2.1.F ht⟩) g.2.2.1.2.2 dX10_askModel_87
set_option maxHeartbeats 4000000 in
set_option maxRecDepth 100000 in
theorem r_X10_holds_13 (l : Launch) (dC : Nat → ClassId) (dI : Nat → Nat → Nat) (L : List Nat) (kd : Nat → Nat) (tys : List (ClassId × FieldType)) (f0 : Nat → va_E) (sz : Nat) (hWT : WT L kd tys f0) (a0_ : Nat) (ma0_ : a0_ ∈ L) (ka0_ : kd a0_ = 10) (a1_ : Nat) (ma1_ : a1_ ∈ L) (ka1_ : kd a1_ = 4) (x2_ : Int32) (bx2_ : bd 0 499 x2_) (x3_ : Int32) (bx3_ : bd 0 2 x3_) (q0_ : Nat) (mq0_ : q0_ ∈ L) (kq0_ : kd q0_ = 1) (q1_ : Nat) (mq1_ : q1_ ∈ L) (kq1_ : kd q1_ = 7) (q2_ : Nat) (mq2_ : q2_ ∈ L) (kq2_ : kd q2_ = 9) (y0_ : Int32) (by0_ : bd 1 8 y0_) (y1_ : Int32) (by1_ : bd 1 3 y1_) (y2_ : Int32) (by2_ : bd 0 9 y2_) (hGcq1_ : cOK f0 q1_) (hfx : Fs L kd f0 [(10, 1, a0_, .ref q0_), (1, 0, q0_, .ref q1_), (1, 1, q0_, .ref q2_), (7, 1, q1_, .int y0_), (4, 6, a1_, .int y1_), (4, 14, a1_, .int y2_)]) : Met l yX10_holds (.code yX10_holds cX10_holds 4 (some .boolean) :: lw_g) ({ frames := 2, cells := 0, slots := 0, locals := 50 }) (va_Pc [.ref a0_, .ref a1_, .int x2_, .int x3_] (P3 (dC, dI) L tys f0 sz)) (va_Qi (fun (r : Int32) (f : Nat → va_E) => (r = 0 ∧ Fs L kd f [(1, 12, q0_, .int 0), (1, 5, q0_, .int 1)]) ∨ (r = 1 ∧ ∃ z0_ : Int32, bd 1 1 z0_ ∧ Fs L kd f [(1, 15, q0_, .int z0_), (1, 12, q0_, .int 0), (1, 5, q0_, .int 1)])) (Q3 (dC, dI) L kd tys [(1, 5), (1, 6), (1, 8), (1, 11), (1, 12), (1, 13), (1, 14), (1, 15), (1, 16), (1, 17), (4, 0), (4, 1), (4, 2), (4, 5)] [100, 116, 117, 146] f0 sz) (pA L sz)) 0 0 (pA L sz) := by
  refine Met.ofW (cc := cX10_holds) (maxL := 4) (ret := (some .boolean)) (by decide) rfl ?_
  intro p e s m args below meth c s₁ B hml hv
  obtain ⟨rfl, hsz, hP, hK, hD0⟩ := hv
  have hx := B.exec
  have hb := B.bytes
  have hr := B.returns
  have hts := atoms_spec (ws := (.code yX10_holds cX10_holds 4 (some .boolean) :: lw_g)) B.pre
  have hown : s.vm.findClass RX10 = some m.cls := findClass_of_methodNamed B.named
  have hlocks := B.notSynchronized
  subst hsz
  have g : G3 (dC, dI) L kd tys s f0 [(1, 5), (1, 6), (1, 8), (1, 11), (1, 12), (1, 13), (1, 14), (1, 15), (1, 16), (1, 17), (4, 0), (4, 1), (4, 2), (4, 5)] [100, 116, 117, 146] f0 s.heap [] [(10, 1, a0_, .ref q0_), (1, 0, q0_, .ref q1_), (1, 1, q0_, .ref q2_), (7, 1, q1_, .int y0_), (4, 6, a1_, .int y1_), (4, 14, a1_, .int y2_)] := G3.start hP hD0 hWT hfx
  have hl := lv_entry ([.ref a0_, .ref a1_, .int x2_, .int x3_]) (n := 4) (Nat.le_of_ble_eq_true rfl)
  rw [lg_entry_eq]
  generalize (lg_sl ([.ref a0_, .ref a1_, .int x2_, .int x3_]) ++ List.replicate (4 - (lg_sl ([.ref a0_, .ref a1_, .int x2_, .int x3_])).length) Slot.unset).toArray = ls at hl ⊢
  have hl : lv_has ls 4 [(0, .ref a0_), (1, .ref a1_), (2, .int x2_), (3, .int x3_)] := hl
  refine W_q (fun Q hQ => ?_)
  refine lv_aload_n hx hb dX10_holds_0 rfl (lv_at hl 0 rfl) ?_
  refine g_getk (C := RX10) (T := TX10) (N := 10) hx hb hts (mc_ inX10) hown hK g rfl 1 (by decide) rfl (hts _ (List.mem_cons_of_mem _ t_913)) (fun _ h9 => h9) 0 rfl dX10_holds_1 ?_
  refine lv_aload_n hx hb dX10_holds_4 rfl (lv_at hl 0 rfl) ?_
  refine g_getr (K := 7) (C := RX10) (T := TX10) (N := 10) hx hb hts (mc_ inX10) hown hK g ma0_ ka0_ (by decide) rfl 0 (by decide) rfl (hts _ (List.mem_cons_of_mem _ t_912)) (fun _ h9 => h9) rfl dX10_holds_5 (fun a_1 ma_1 ka_1 g => ?_)
  refine g_getr (K := 141) (C := RX7) (T := TX7) (N := 19) hx hb hts (mc_ inX7) hown hK g ma_1 ka_1 (by decide) rfl 8 (by decide) rfl (hts _ (List.mem_cons_of_mem _ t_652)) (fun _ h9 => h9) rfl dX10_holds_8 (fun a_2 ma_2 ka_2 g => ?_)
  refine lv_iload_n hx hb dX10_holds_11 rfl (lv_at hl 2 rfl) ?_
  refine g_iald hx hb hK g ma_2 ka_2 (by decide) rfl (in_bd bx2_ (by decide)) dX10_holds_12 (fun x_3 bx_3 cx_3 => ?_)
  refine lv_aload_n hx hb dX10_holds_13 rfl (lv_at hl 1 rfl) ?_
  refine g_geti (C := RX4) (T := TX4) (N := 17) hx hb hts (mc_ inX4) hown hK g ma1_ ka1_ (by decide) rfl 16 (by decide) rfl (hts _ (List.mem_cons_of_mem _ t_876)) (fun _ h9 => h9) rfl dX10_holds_14 (fun x_4 bx_4 g => ?_)
  have go_ := g
  refine g_callv (va_runV (As := [.int x_3, .int x_4]) (rest := []) ⟨hx, hb, hml, hown, hts⟩ (r_X1_readyToAsk l dC dI L kd tys f0 s.heap.size g.2.2.2.1 q0_ mq0_ kq0_ x_3 x_4) (cwV 2 hts (gV_ t_1551 t_1552 t_1553 t_195 t_1554) rfl rfl rfl (by decide +kernel) ⟨(Nat.le_of_ble_eq_true rfl), (Nat.le_of_ble_eq_true rfl)⟩) (pre3V g hK mq0_ kq0_ (by decide) (q := (RX1, TX1, 18)) rfl) rfl rfl hl.1 rfl (lv_room (Nat.le_of_ble_eq_true rfl)) dX10_holds_17 ⟨(Nat.le_of_ble_eq_true rfl), (Nat.le_of_ble_eq_true rfl)⟩) g hK (by decide) (by decide) (fx' := [(4, 16, a1_, .int x_4), (7, 8, a_1, .ref a_2), (10, 0, a0_, .ref a_1), (10, 1, a0_, .ref q0_), (1, 0, q0_, .ref q1_), (1, 1, q0_, .ref q2_), (7, 1, q1_, .int y0_), (4, 6, a1_, .int y1_), (4, 14, a1_, .int y2_)]) rfl (fun fr_5 H locs hp hMr_5 g => ?_)
  have hF_6 := hp
  have hG_7 := cOK.frame hMr_5 go_.2.2.2.1 mq1_ kq1_ (by decide) (by decide) hGcq1_
  have g := g.more hF_6
  refine lv_aload_n hx hb dX10_holds_20 rfl (lv_at hl 0 rfl) ?_
  refine g_getk (C := RX10) (T := TX10) (N := 10) hx hb hts (mc_ inX10) hown hK g rfl 1 (by decide) rfl (hts _ (List.mem_cons_of_mem _ t_913)) (fun _ h9 => h9) 5 rfl dX10_holds_21 ?_
  have kb_0 : bd 0 0 (0 : Int32) := ⟨by decide, by decide⟩
  have kb_1 : bd 1 1 (1 : Int32) := ⟨by decide, by decide⟩
  have go_ := g
  refine g_callv (va_runV (As := []) (rest := []) ⟨hx, hb, hml, hown, hts⟩ (r_X1_go_2 l dC dI L kd tys fr_5 H.size g.2.2.2.1 q0_ mq0_ kq0_ q1_ mq1_ kq1_ q2_ mq2_ kq2_ 0 kb_0 1 kb_1 y0_ by0_ hG_7 (g.fcts [6, 7, 0, 1, 8] rfl)) (cwV 0 hts (gV_ t_1555 t_1556 t_1557 t_195 t_1558) rfl rfl rfl (by decide +kernel) ⟨(Nat.le_of_ble_eq_true rfl), (Nat.le_of_ble_eq_true rfl)⟩) (pre3V g hK mq0_ kq0_ (by decide) (q := (RX1, TX1, 18)) rfl) rfl rfl hl.1 rfl (lv_room (Nat.le_of_ble_eq_true rfl)) dX10_holds_24 ⟨(Nat.le_of_ble_eq_true rfl), (Nat.le_of_ble_eq_true rfl)⟩) g hK (by decide) (by decide) (fx' := [(1, 12, q0_, .int 0), (1, 5, q0_, .int 1), (4, 16, a1_, .int x_4), (7, 8, a_1, .ref a_2), (10, 0, a0_, .ref a_1), (10, 1, a0_, .ref q0_), (1, 0, q0_, .ref q1_), (1, 1, q0_, .ref q2_), (7, 1, q1_, .int y0_), (4, 6, a1_, .int y1_), (4, 14, a1_, .int y2_)]) rfl (fun fr_8 H locs hp hMr_8 g => ?_)
  have hG_9 := cOK.frame hMr_8 go_.2.2.2.1 mq1_ kq1_ (by decide) (by decide) hG_7
  refine lv_aload_n hx hb dX10_holds_27 rfl (lv_at hl 0 rfl) ?_
  refine g_getk (C := RX10) (T := TX10) (N := 10) hx hb hts (mc_ inX10) hown hK g rfl 1 (by decide) rfl (hts _ (List.mem_cons_of_mem _ t_913)) (fun _ h9 => h9) 5 rfl dX10_holds_28 ?_
  refine g_geti (C := RX1) (T := TX1) (N := 18) hx hb hts (mc_ inX1) hown hK g mq0_ kq0_ (by decide) rfl 15 (by decide) rfl (hts _ (List.mem_cons_of_mem _ t_751)) (fun _ h9 => h9) rfl dX10_holds_31 (fun x_10 bx_10 g => ?_)
  refine lv_iconst (v := 1) hx hb dX10_holds_34 (by decide) ?_
  refine lv_icmp_ne (tgt := 54) hx hb dX10_holds_35 (by decide) (fun c_11 => ?_) (fun c_11 => ?_)
  · have fc_11 := neq_f c_11
    refine lv_aload_n hx hb dX10_holds_54 rfl (lv_at hl 0 rfl) ?_
    refine g_getk (C := RX10) (T := TX10) (N := 10) hx hb hts (mc_ inX10) hown hK g rfl 1 (by decide) rfl (hts _ (List.mem_cons_of_mem _ t_913)) (fun _ h9 => h9) 6 rfl dX10_holds_55 ?_
    refine g_getk (C := RX1) (T := TX1) (N := 18) hx hb hts (mc_ inX1) hown hK g rfl 15 (by decide) rfl (hts _ (List.mem_cons_of_mem _ t_751)) (fun _ h9 => h9) 0 rfl dX10_holds_58 ?_
    refine lv_iconst (v := 2) hx hb dX10_holds_61 (by decide) ?_
    have kb_2 : bd 2 2 (2 : Int32) := ⟨by decide, by decide⟩
    refine lv_icmp_ne (tgt := 76) hx hb dX10_holds_62 (by decide) (fun c_12 => ?_) (fun c_12 => ?_)
    · have fc_12 := neq_f c_12
      refine lv_aload_n hx hb dX10_holds_76 rfl (lv_at hl 1 rfl) ?_
      refine lv_aload_n hx hb dX10_holds_77 rfl (lv_at hl 0 rfl) ?_
      refine g_getk (C := RX10) (T := TX10) (N := 10) hx hb hts (mc_ inX10) hown hK g rfl 1 (by decide) rfl (hts _ (List.mem_cons_of_mem _ t_913)) (fun _ h9 => h9) 6 rfl dX10_holds_78 ?_
      refine g_getk (C := RX1) (T := TX1) (N := 18) hx hb hts (mc_ inX1) hown hK g rfl 15 (by decide) rfl (hts _ (List.mem_cons_of_mem _ t_751)) (fun _ h9 => h9) 0 rfl dX10_holds_81 ?_
      refine lv_iconst (v := 4) hx hb dX10_holds_84 (by decide) ?_
      have kb_4 : bd 4 4 (4 : Int32) := ⟨by decide, by decide⟩
      refine lv_icmp_ne (tgt := 92) hx hb dX10_holds_85 (by decide) (fun c_13 => ?_) (fun c_13 => ?_)
      · have fc_13 := neq_f c_13
        refine lv_bipush (v := 7) hx hb dX10_holds_92 (by decide) ?_
        refine lv_iload_n hx hb dX10_holds_94 rfl (lv_at hl 2 rfl) ?_
        refine lv_iload_n hx hb dX10_holds_95 rfl (lv_at hl 3 rfl) ?_
        have go_ := g
        refine g_callv (va_runV (As := [.int 7, .int x2_, .int x3_]) (rest := []) ⟨hx, hb, hml, hown, hts⟩ (r_X4_breakBy l dC dI L kd tys fr_8 H.size g.2.2.2.1 a1_ ma1_ ka1_ 7 x2_ x3_) (cwV 3 hts (gV_ t_1606 t_1607 t_1608 t_197 t_1609) rfl rfl rfl (by decide +kernel) ⟨(Nat.le_of_ble_eq_true rfl), (Nat.le_of_ble_eq_true rfl)⟩) (pre3V g hK ma1_ ka1_ (by decide) (q := (RX4, TX4, 17)) rfl) rfl rfl hl.1 rfl (lv_room (Nat.le_of_ble_eq_true rfl)) dX10_holds_96 ⟨(Nat.le_of_ble_eq_true rfl), (Nat.le_of_ble_eq_true rfl)⟩) g hK (by decide) (by decide) (fx' := [(1, 15, q0_, .int x_10), (1, 12, q0_, .int 0), (1, 5, q0_, .int 1), (4, 16, a1_, .int x_4), (7, 8, a_1, .ref a_2), (10, 0, a0_, .ref a_1), (10, 1, a0_, .ref q0_), (1, 0, q0_, .ref q1_), (1, 1, q0_, .ref q2_), (7, 1, q1_, .int y0_), (4, 6, a1_, .int y1_), (4, 14, a1_, .int y2_)]) rfl (fun fr_14 H locs hp hMr_14 g => ?_)
        have hG_15 := cOK.frame hMr_14 go_.2.2.2.1 mq1_ kq1_ (by decide) (by decide) hG_9
        refine lv_iconst (v := 0) hx hb dX10_holds_99 (by decide) ?_
        subst hQ
        exact W.zret (v := 0) hx hb hr (nar_z (bd_sub kb_0 (by decide) : bd 0 1 _).1 (bd_sub kb_0 (by decide) : bd 0 1 _).2) (fun t ht hW => ⟨⟨_, _, rfl, Or.inl ⟨rfl, (g.fcts [1, 2] rfl)⟩, q3_of g hK ht hW⟩, g.2.2.1.F ht⟩) g.2.2.1.2.2 dX10_holds_100
      · have fc_13 := eq_f c_13
        have b_16 : bd 4 4 x_10 := eqX fc_13 (bdT x_10) kb_4 (by decide)
        refine lv_iconst (v := 5) hx hb dX10_holds_88 (by decide) ?_
        refine lv_goto (tgt := 94) hx hb dX10_holds_89 (by decide) ?_
        refine lv_iload_n hx hb dX10_holds_94 rfl (lv_at hl 2 rfl) ?_
        refine lv_iload_n hx hb dX10_holds_95 rfl (lv_at hl 3 rfl) ?_
        have go_ := g
        refine g_callv (va_runV (As := [.int 5, .int x2_, .int x3_]) (rest := []) ⟨hx, hb, hml, hown, hts⟩ (r_X4_breakBy l dC dI L kd tys fr_8 H.size g.2.2.2.1 a1_ ma1_ ka1_ 5 x2_ x3_) (cwV 3 hts (gV_ t_1606 t_1607 t_1608 t_197 t_1609) rfl rfl rfl (by decide +kernel) ⟨(Nat.le_of_ble_eq_true rfl), (Nat.le_of_ble_eq_true rfl)⟩) (pre3V g hK ma1_ ka1_ (by decide) (q := (RX4, TX4, 17)) rfl) rfl rfl hl.1 rfl (lv_room (Nat.le_of_ble_eq_true rfl)) dX10_holds_96 ⟨(Nat.le_of_ble_eq_true rfl), (Nat.le_of_ble_eq_true rfl)⟩) g hK (by decide) (by decide) (fx' := [(1, 15, q0_, .int x_10), (1, 12, q0_, .int 0), (1, 5, q0_, .int 1), (4, 16, a1_, .int x_4), (7, 8, a_1, .ref a_2), (10, 0, a0_, .ref a_1), (10, 1, a0_, .ref q0_), (1, 0, q0_, .ref q1_), (1, 1, q0_, .ref q2_), (7, 1, q1_, .int y0_), (4, 6, a1_, .int y1_), (4, 14, a1_, .int y2_)]) rfl (fun fr_17 H locs hp hMr_17 g => ?_)
        have hG_18 := cOK.frame hMr_17 go_.2.2.2.1 mq1_ kq1_ (by decide) (by decide) hG_9
        refine lv_iconst (v := 0) hx hb dX10_holds_99 (by decide) ?_
        subst hQ
        exact W.zret (v := 0) hx hb hr (nar_z (bd_sub kb_0 (by decide) : bd 0 1 _).1 (bd_sub kb_0 (by decide) : bd 0 1 _).2) (fun t ht hW => ⟨⟨_, _, rfl, Or.inl ⟨rfl, (g.fcts [1, 2] rfl)⟩, q3_of g hK ht hW⟩, g.2.2.1.F ht⟩) g.2.2.1.2.2 dX10_holds_100
    · have fc_12 := eq_f c_12
      have b_19 : bd 2 2 x_10 := eqX fc_12 (bdT x_10) kb_2 (by decide)
      refine lv_aload_n hx hb dX10_holds_65 rfl (lv_at hl 1 rfl) ?_
      refine lv_aload_n hx hb dX10_holds_66 rfl (lv_at hl 0 rfl) ?_
      refine g_getk (C := RX10) (T := TX10) (N := 10) hx hb hts (mc_ inX10) hown hK g rfl 1 (by decide) rfl (hts _ (List.mem_cons_of_mem _ t_913)) (fun _ h9 => h9) 6 rfl dX10_holds_67 ?_
      refine g_getl (C := RX1) (T := TX1) (N := 18) hx hb hts (mc_ inX1) hown hK g mq0_ kq0_ (by decide) rfl 17 (by decide) rfl (hts _ (List.mem_cons_of_mem _ t_755)) (fun _ h9 => h9) rfl dX10_holds_70 (fun x_20 g => ?_)
      have go_ := g
      refine g_put (C := RX4) (T := TX4) (N := 17) hx hb hts (mc_ inX4) tyX4 tyX4_ok nmX4 hown hK g ma1_ ka1_ (by decide) rfl 5 (by decide) (hts _ (List.mem_cons_of_mem _ t_848)) (fun _ h9 => h9) rfl rfl okV_l rfl rfl (by decide) (Or.inr (Or.inl (by decide))) (fx' := [(1, 17, q0_, .long x_20), (1, 15, q0_, .int x_10), (1, 12, q0_, .int 0), (1, 5, q0_, .int 1), (4, 16, a1_, .int x_4), (7, 8, a_1, .ref a_2), (10, 0, a0_, .ref a_1), (10, 1, a0_, .ref q0_), (1, 0, q0_, .ref q1_), (1, 1, q0_, .ref q2_), (7, 1, q1_, .int y0_), (4, 6, a1_, .int y1_), (4, 14, a1_, .int y2_)]) rfl dX10_holds_73 (fun f H locs hM_21 g => ?_)
      have hG_22 := cOK.frame hM_21 go_.2.2.2.1 mq1_ kq1_ (by decide) (by decide) hG_9
      refine lv_aload_n hx hb dX10_holds_76 rfl (lv_at hl 1 rfl) ?_
      refine lv_aload_n hx hb dX10_holds_77 rfl (lv_at hl 0 rfl) ?_
      refine g_getk (C := RX10) (T := TX10) (N := 10) hx hb hts (mc_ inX10) hown hK g rfl 1 (by decide) rfl (hts _ (List.mem_cons_of_mem _ t_913)) (fun _ h9 => h9) 8 rfl dX10_holds_78 ?_
      refine g_getk (C := RX1) (T := TX1) (N := 18) hx hb hts (mc_ inX1) hown hK g rfl 15 (by decide) rfl (hts _ (List.mem_cons_of_mem _ t_751)) (fun _ h9 => h9) 2 rfl dX10_holds_81 ?_
      refine lv_iconst (v := 4) hx hb dX10_holds_84 (by decide) ?_
      have kb_4 : bd 4 4 (4 : Int32) := ⟨by decide, by decide⟩
      refine lv_icmp_ne (tgt := 92) hx hb dX10_holds_85 (by decide) (fun c_23 => ?_) (fun c_23 => ?_)
      · have fc_23 := neq_f c_23
        refine lv_bipush (v := 7) hx hb dX10_holds_92 (by decide) ?_
        refine lv_iload_n hx hb dX10_holds_94 rfl (lv_at hl 2 rfl) ?_
        refine lv_iload_n hx hb dX10_holds_95 rfl (lv_at hl 3 rfl) ?_
        have go_ := g
        refine g_callv (va_runV (As := [.int 7, .int x2_, .int x3_]) (rest := []) ⟨hx, hb, hml, hown, hts⟩ (r_X4_breakBy l dC dI L kd tys f H.size g.2.2.2.1 a1_ ma1_ ka1_ 7 x2_ x3_) (cwV 3 hts (gV_ t_1606 t_1607 t_1608 t_197 t_1609) rfl rfl rfl (by decide +kernel) ⟨(Nat.le_of_ble_eq_true rfl), (Nat.le_of_ble_eq_true rfl)⟩) (pre3V g hK ma1_ ka1_ (by decide) (q := (RX4, TX4, 17)) rfl) rfl rfl hl.1 rfl (lv_room (Nat.le_of_ble_eq_true rfl)) dX10_holds_96 ⟨(Nat.le_of_ble_eq_true rfl), (Nat.le_of_ble_eq_true rfl)⟩) g hK (by decide) (by decide) (fx' := [(4, 5, a1_, .long x_20), (1, 17, q0_, .long x_20), (1, 15, q0_, .int x_10), (1, 12, q0_, .int 0), (1, 5, q0_, .int 1), (4, 16, a1_, .int x_4), (7, 8, a_1, .ref a_2), (10, 0, a0_, .ref a_1), (10, 1, a0_, .ref q0_), (1, 0, q0_, .ref q1_), (1, 1, q0_, .ref q2_), (7, 1, q1_, .int y0_), (4, 6, a1_, .int y1_), (4, 14, a1_, .int y2_)]) rfl (fun fr_24 H locs hp hMr_24 g => ?_)
        have hG_25 := cOK.frame hMr_24 go_.2.2.2.1 mq1_ kq1_ (by decide) (by decide) hG_22
        refine lv_iconst (v := 0) hx hb dX10_holds_99 (by decide) ?_
        subst hQ
        exact W.zret (v := 0) hx hb hr (nar_z (bd_sub kb_0 (by decide) : bd 0 1 _).1 (bd_sub kb_0 (by decide) : bd 0 1 _).2) (fun t ht hW => ⟨⟨_, _, rfl, Or.inl ⟨rfl, (g.fcts [3, 4] rfl)⟩, q3_of g hK ht hW⟩, g.2.2.1.F ht⟩) g.2.2.1.2.2 dX10_holds_100
      · have fc_23 := eq_f c_23
        have b_26 : bd 4 2 x_10 := eqX fc_23 b_19 kb_4 (by decide)
        exact bd_no b_26 (by decide)
  · have fc_11 := eq_f c_11
    have b_27 : bd 1 1 x_10 := eqX fc_11 (bdT x_10) kb_1 (by decide)
    refine lv_aload_n hx hb dX10_holds_38 rfl (lv_at hl 0 rfl) ?_
    refine g_getk (C := RX10) (T := TX10) (N := 10) hx hb hts (mc_ inX10) hown hK g rfl 1 (by decide) rfl (hts _ (List.mem_cons_of_mem _ t_913)) (fun _ h9 => h9) 6 rfl dX10_holds_39 ?_
    refine g_geti (C := RX1) (T := TX1) (N := 18) hx hb hts (mc_ inX1) hown hK g mq0_ kq0_ (by decide) rfl 16 (by decide) rfl (hts _ (List.mem_cons_of_mem _ t_753)) (fun _ h9 => h9) rfl dX10_holds_42 (fun x_28 bx_28 g => ?_)
    refine lv_if_eq (tgt := 52) hx hb dX10_holds_45 (by decide) (fun c_29 => ?_) (fun c_29 => ?_)
    · have fc_29 := eq_f c_29
      have b_30 : bd 0 0 x_28 := eqX fc_29 (bdT x_28) kb_0 (by decide)
      refine lv_iconst (v := 0) hx hb dX10_holds_52 (by decide) ?_
      subst hQ
      exact W.zret (v := 0) hx hb hr (nar_z (bd_sub kb_0 (by decide) : bd 0 1 _).1 (bd_sub kb_0 (by decide) : bd 0 1 _).2) (fun t ht hW => ⟨⟨_, _, rfl, Or.inl ⟨rfl, (g.fcts [2, 3] rfl)⟩, q3_of g hK ht hW⟩, g.2.2.1.F ht⟩) g.2.2.1.2.2 dX10_holds_53
    · have fc_29 := neq_f c_29
      refine lv_iconst (v := 1) hx hb dX10_holds_48 (by decide) ?_
      refine lv_goto (tgt := 53) hx hb dX10_holds_49 (by decide) ?_
      subst hQ
      exact W.zret (v := 1) hx hb hr (nar_z (bd_sub kb_1 (by decide) : bd 0 1 _).1 (bd_sub kb_1 (by decide) : bd 0 1 _).2) (fun t ht hW => ⟨⟨_, _, rfl, Or.inr (⟨rfl, x_10, b_27, (g.fcts [1, 2, 3] rfl)⟩), q3_of g hK ht hW⟩, g.2.2.1.F ht⟩) g.2.2.1.2.2 dX10_holds_53
set_option maxHeartbeats 4000000 in
set_option maxRecDepth 100000 in
theorem r_X10_askNeeds_2 (l : Launch) (dC : Nat → ClassId) (dI : Nat → Nat → Nat) (L : List Nat) (kd : Nat → Nat) (tys : List (ClassId × FieldType)) (f0 : Nat → va_E) (sz : Nat) (hWT : WT L kd tys f0) (a0_ : Nat) (ma0_ : a0_ ∈ L) (ka0_ : kd a0_ = 10) (a1_ : Nat) (ma1_ : a1_ ∈ L) (ka1_ : kd a1_ = 4) (x2_ : Int32) (bx2_ : bd 0 2 x2_) (x3_ : Int32) (bx3_ : bd 0 95 x3_) (q0_ : Nat) (mq0_ : q0_ ∈ L) (kq0_ : kd q0_ = 1) (q1_ : Nat) (mq1_ : q1_ ∈ L) (kq1_ : kd q1_ = 7) (q2_ : Nat) (mq2_ : q2_ ∈ L) (kq2_ : kd q2_ = 9) (y0_ : Int32) (by0_ : bd 1 8 y0_) (y1_ : Int32) (by1_ : bd 1 3 y1_) (y2_ : Int32) (by2_ : bd 0 9 y2_) (y3_ : Int32) (by3_ : bd 0 0 y3_) (hGcq1_ : cOK f0 q1_) (hfx : Fs L kd f0 [(10, 1, a0_, .ref q0_), (1, 0, q0_, .ref q1_), (1, 1, q0_, .ref q2_), (7, 1, q1_, .int y0_), (4, 6, a1_, .int y1_), (4, 14, a1_, .int y2_), (4, 0, a1_, .int y3_)]) : Met l yX10_askNeeds (.code yX10_askNeeds cX10_askNeeds 9 none :: lw_g) ({ frames := 3, cells := 0, slots := 0, locals := 73 }) (va_Pc [.ref a0_, .ref a1_, .int x2_, .int x3_] (P3 (dC, dI) L tys f0 sz)) (va_Qv (fun (f : Nat → va_E) => (True)) (Q3 (dC, dI) L kd tys [(1, 5), (1, 6), (1, 8), (1, 11), (1, 12), (1, 13), (1, 14), (1, 15), (1, 16), (1, 17), (4, 0), (4, 1), (4, 2), (4, 5)] [100, 116, 117, 146] f0 sz) (pA L sz)) 0 0 (pA L sz) := by
  refine Met.ofW (cc := cX10_askNeeds) (maxL := 9) (ret := none) (by decide) rfl ?_
  intro p e s m args below meth c s₁ B hml hv
  obtain ⟨rfl, hsz, hP, hK, hD0⟩ := hv
  have hx := B.exec
  have hb := B.bytes
  have hr := B.returns
  have hts := atoms_spec (ws := (.code yX10_askNeeds cX10_askNeeds 9 none :: lw_g)) B.pre
  have hown : s.vm.findClass RX10 = some m.cls := findClass_of_methodNamed B.named
  have hlocks := B.notSynchronized
  subst hsz
  have g : G3 (dC, dI) L kd tys s f0 [(1, 5), (1, 6), (1, 8), (1, 11), (1, 12), (1, 13), (1, 14), (1, 15), (1, 16), (1, 17), (4, 0), (4, 1), (4, 2), (4, 5)] [100, 116, 117, 146] f0 s.heap [] [(10, 1, a0_, .ref q0_), (1, 0, q0_, .ref q1_), (1, 1, q0_, .ref q2_), (7, 1, q1_, .int y0_), (4, 6, a1_, .int y1_), (4, 14, a1_, .int y2_), (4, 0, a1_, .int y3_)] := G3.start hP hD0 hWT hfx
  have hl := lv_entry ([.ref a0_, .ref a1_, .int x2_, .int x3_]) (n := 9) (Nat.le_of_ble_eq_true rfl)
  rw [lg_entry_eq]
  generalize (lg_sl ([.ref a0_, .ref a1_, .int x2_, .int x3_]) ++ List.replicate (9 - (lg_sl ([.ref a0_, .ref a1_, .int x2_, .int x3_])).length) Slot.unset).toArray = ls at hl ⊢
  have hl : lv_has ls 9 [(0, .ref a0_), (1, .ref a1_), (2, .int x2_), (3, .int x3_)] := hl
  refine W_q (fun Q hQ => ?_)
  refine lv_iload_n hx hb dX10_askNeeds_0 rfl (lv_at hl 3 rfl) ?_
  refine lv_istore (lv' := [(4, .int x3_), (0, .ref a0_), (1, .ref a1_), (2, .int x2_), (3, .int x3_)]) hx hb dX10_askNeeds_1 hl (by decide) rfl (fun ls hl => ?_)
  refine lv_iconst (v := 0) hx hb dX10_askNeeds_3 (by decide) ?_
  refine lv_istore (lv' := [(5, .int 0), (4, .int x3_), (0, .ref a0_), (1, .ref a1_), (2, .int x2_), (3, .int x3_)]) hx hb dX10_askNeeds_4 hl (by decide) rfl (fun ls hl => ?_)
  have loop_1 : ∀ (n : Nat) (v6_5 : Int32) (v6_4 : Int32) (w6_4_0_a1_ : Int32), bd 0 8 v6_5 → bd (-1) 95 v6_4 → bd 0 0 w6_4_0_a1_ → (8 - v6_5.toInt < (n : Int)) → ∀ (f : Nat → va_E) (H : Heap) (locs : List Loc) (ls : Array Slot), G3 (dC, dI) L kd tys s f0 [(1, 5), (1, 6), (1, 8), (1, 11), (1, 12), (1, 13), (1, 14), (1, 15), (1, 16), (1, 17), (4, 0), (4, 1), (4, 2), (4, 5)] [100, 116, 117, 146] f H locs [(10, 1, a0_, .ref q0_), (1, 0, q0_, .ref q1_), (1, 1, q0_, .ref q2_), (7, 1, q1_, .int y0_), (4, 6, a1_, .int y1_), (4, 14, a1_, .int y2_), (4, 0, a1_, .int w6_4_0_a1_)] → cOK f q1_ → lv_has ls 9 [(5, .int v6_5), (4, .int v6_4), (0, .ref a0_), (1, .ref a1_), (2, .int x2_), (3, .int x3_)] → W p l e ({ frames := 3, cells := 0, slots := 0, locals := 73 } : Room) s m [.ref a0_, .ref a1_, .int x2_, .int x3_].toArray below meth c H locs 0 0 Q (F0 m 6 ls []) := by
    intro n6
    induction n6 with
    | zero =>
      intro v6_5 v6_4 w6_4_0_a1_ bv6_5 bv6_4 bw6_4_0_a1_ hm6 f H locs ls g hG6_c_q1_ hl
      exact absurd hm6 (by have h9_v6_5 := bv6_5; unfold bd at h9_v6_5; have h9_v6_4 := bv6_4; unfold bd at h9_v6_4; have h9_w6_4_0_a1_ := bw6_4_0_a1_; unfold bd at h9_w6_4_0_a1_; omega)
    | succ n6 ih6 =>
      intro v6_5 v6_4 w6_4_0_a1_ bv6_5 bv6_4 bw6_4_0_a1_ hm6 f H locs ls g hG6_c_q1_ hl
      refine lv_iload hx hb dX10_askNeeds_6 (lv_at hl 0 rfl) ?_
      refine lv_bipush (v := 8) hx hb dX10_askNeeds_8 (by decide) ?_
      have kb_8 : bd 8 8 (8 : Int32) := ⟨by decide, by decide⟩
      refine lv_icmp_ge (tgt := 122) hx hb dX10_askNeeds_10 (by decide) (fun c_2 => ?_) (fun c_2 => ?_)
      · have fc_2 := le_f c_2
        have b_3 : bd 8 8 v6_5 := leR fc_2 kb_8 bv6_5 (by decide)
        refine lv_aload_n hx hb dX10_askNeeds_122 rfl (lv_at hl 3 rfl) ?_
        refine lv_iconst (v := (-1)) hx hb dX10_askNeeds_123 (by decide) ?_
        have kb_m1 : bd (-1) (-1) ((-1) : Int32) := ⟨by decide, by decide⟩
        have go_ := g
        refine g_put (C := RX4) (T := TX4) (N := 17) hx hb hts (mc_ inX4) tyX4 tyX4_ok nmX4 hown hK g ma1_ ka1_ (by decide) rfl 0 (by decide) (hts _ (List.mem_cons_of_mem _ t_837)) (fun _ h9 => h9) rfl rfl (okV_i (bd_sub kb_m1 (by decide))) rfl rfl (by decide) (Or.inr (Or.inl (by decide))) (fx' := [(10, 1, a0_, .ref q0_), (1, 0, q0_, .ref q1_), (1, 1, q0_, .ref q2_), (7, 1, q1_, .int y0_), (4, 6, a1_, .int y1_), (4, 14, a1_, .int y2_)]) rfl dX10_askNeeds_124 (fun f H locs hM_4 g => ?_)
        have hG_5 := cOK.frame hM_4 go_.2.2.2.1 mq1_ kq1_ (by decide) (by decide) hG6_c_q1_
        subst hQ
        exact W.vret hx hb hr (fun t ht hW => ⟨⟨_, rfl, trivial, q3_of g hK ht hW⟩, g.2.2.1.F ht⟩) g.2.2.1.2.2 dX10_askNeeds_127
      · have fc_2 := nle_f c_2
        have b_6 : bd 0 7 v6_5 := ltL fc_2 bv6_5 kb_8 (by decide)
        refine lv_iload hx hb dX10_askNeeds_13 (lv_at hl 1 rfl) ?_
        refine lv_iconst (v := (-1)) hx hb dX10_askNeeds_15 (by decide) ?_
        have kb_m1 : bd (-1) (-1) ((-1) : Int32) := ⟨by decide, by decide⟩
        refine lv_icmp_eq (tgt := 122) hx hb dX10_askNeeds_16 (by decide) (fun c_7 => ?_) (fun c_7 => ?_)
        · have fc_7 := eq_f c_7
          have b_8 : bd (-1) (-1) v6_4 := eqX fc_7 bv6_4 kb_m1 (by decide)
          refine lv_aload_n hx hb dX10_askNeeds_122 rfl (lv_at hl 3 rfl) ?_
          refine lv_iconst (v := (-1)) hx hb dX10_askNeeds_123 (by decide) ?_
          have go_ := g
          refine g_put (C := RX4) (T := TX4) (N := 17) hx hb hts (mc_ inX4) tyX4 tyX4_ok nmX4 hown hK g ma1_ ka1_ (by decide) rfl 0 (by decide) (hts _ (List.mem_cons_of_mem _ t_837)) (fun _ h9 => h9) rfl rfl (okV_i (bd_sub kb_m1 (by decide))) rfl rfl (by decide) (Or.inr (Or.inl (by decide))) (fx' := [(10, 1, a0_, .ref q0_), (1, 0, q0_, .ref q1_), (1, 1, q0_, .ref q2_), (7, 1, q1_, .int y0_), (4, 6, a1_, .int y1_), (4, 14, a1_, .int y2_)]) rfl dX10_askNeeds_124 (fun f H locs hM_9 g => ?_)
          have hG_10 := cOK.frame hM_9 go_.2.2.2.1 mq1_ kq1_ (by decide) (by decide) hG6_c_q1_
          subst hQ
          exact W.vret hx hb hr (fun t ht hW => ⟨⟨_, rfl, trivial, q3_of g hK ht hW⟩, g.2.2.1.F ht⟩) g.2.2.1.2.2 dX10_askNeeds_127
        · have fc_7 := neq_f c_7
          have b_11 : bd 0 95 v6_4 := neX fc_7 bv6_4 kb_m1 (by decide)
          refine lv_iconst (v := 1) hx hb dX10_askNeeds_19 (by decide) ?_
          refine lv_istore (lv' := [(6, .int 1), (5, .int v6_5), (4, .int v6_4), (0, .ref a0_), (1, .ref a1_), (2, .int x2_), (3, .int x3_)]) hx hb dX10_askNeeds_20 hl (by decide) rfl (fun ls hl => ?_)
          refine lv_aload_n hx hb dX10_askNeeds_22 rfl (lv_at hl 3 rfl) ?_
          refine lv_iload hx hb dX10_askNeeds_23 (lv_at hl 2 rfl) ?_
          have go_ := g
          refine g_calli (va_runV (As := [.int v6_4]) (rest := []) ⟨hx, hb, hml, hown, hts⟩ (r_X10_lastMark l dC dI L kd tys f H.size g.2.2.2.1 a0_ ma0_ ka0_ v6_4 b_11) (cwV 1 hts (gV_ t_1620 t_1622 t_71 t_194 t_1623) rfl rfl rfl (by decide +kernel) ⟨(Nat.le_of_ble_eq_true rfl), (Nat.le_of_ble_eq_true rfl)⟩) (pre3V g hK ma0_ ka0_ (by decide) (q := (RX10, TX10, 10)) rfl) rfl rfl hl.1 rfl (lv_room (Nat.le_of_ble_eq_true rfl)) dX10_askNeeds_25 ⟨(Nat.le_of_ble_eq_true rfl), (Nat.le_of_ble_eq_true rfl)⟩) g hK (by decide) (by decide) (fx' := [(10, 1, a0_, .ref q0_), (1, 0, q0_, .ref q1_), (1, 1, q0_, .ref q2_), (7, 1, q1_, .int y0_), (4, 6, a1_, .int y1_), (4, 14, a1_, .int y2_), (4, 0, a1_, .int w6_4_0_a1_)]) rfl (fun r_12 fr_12 H locs hp hMr_12 g => ?_)
          obtain ⟨h_13, -⟩ := hp
          have hG_14 := cOK.frame hMr_12 go_.2.2.2.1 mq1_ kq1_ (by decide) (by decide) hG6_c_q1_
          refine lv_istore (lv' := [(7, .int r_12), (6, .int 1), (5, .int v6_5), (4, .int v6_4), (0, .ref a0_), (1, .ref a1_), (2, .int x2_), (3, .int x3_)]) hx hb dX10_askNeeds_28 hl (by decide) rfl (fun ls hl => ?_)
          refine lv_aload_n hx hb dX10_askNeeds_30 rfl (lv_at hl 4 rfl) ?_
          refine g_getr (K := 7) (C := RX10) (T := TX10) (N := 10) hx hb hts (mc_ inX10) hown hK g ma0_ ka0_ (by decide) rfl 0 (by decide) rfl (hts _ (List.mem_cons_of_mem _ t_912)) (fun _ h9 => h9) rfl dX10_askNeeds_31 (fun a_15 ma_15 ka_15 g => ?_)
          refine g_getr (K := 137) (C := RX7) (T := TX7) (N := 19) hx hb hts (mc_ inX7) hown hK g ma_15 ka_15 (by decide) rfl 2 (by decide) rfl (hts _ (List.mem_cons_of_mem _ t_634)) (fun _ h9 => h9) rfl dX10_askNeeds_34 (fun a_16 ma_16 ka_16 g => ?_)
          refine lv_iload hx hb dX10_askNeeds_37 (lv_at hl 3 rfl) ?_
          refine g_aald hx hb hK g ma_16 ka_16 (by decide) rfl (by decide) (in_bd b_11 (by decide)) dX10_askNeeds_39 (fun a_17 ma_17 ua_17 wa_17 => ?_)
          have ka_17 : kd a_17 = 6 := by omega
          refine g_geti (C := RX6) (T := TX6) (N := 13) hx hb hts (mc_ inX6) hown hK g ma_17 ka_17 (by decide) rfl 11 (by decide) rfl (hts _ (List.mem_cons_of_mem _ t_590)) (fun _ h9 => h9) rfl dX10_askNeeds_40 (fun x_18 bx_18 g => ?_)
          refine lv_istore (lv' := [(8, .int x_18), (7, .int r_12), (6, .int 1), (5, .int v6_5), (4, .int v6_4), (0, .ref a0_), (1, .ref a1_), (2, .int x2_), (3, .int x3_)]) hx hb dX10_askNeeds_43 hl (by decide) rfl (fun ls hl => ?_)
          have loop_19 : ∀ (n : Nat) (v45_8 : Int32) (v45_6 : Int32), bd 0 500 v45_8 → bd 0 1 v45_6 → (500 - v45_8.toInt < (n : Int)) → ∀ (f : Nat → va_E) (H : Heap) (locs : List Loc) (ls : Array Slot), G3 (dC, dI) L kd tys s f0 [(1, 5), (1, 6), (1, 8), (1, 11), (1, 12), (1, 13), (1, 14), (1, 15), (1, 16), (1, 17), (4, 0), (4, 1), (4, 2), (4, 5)] [100, 116, 117, 146] f H locs [(6, 11, a_17, .int x_18), (7, 2, a_15, .ref a_16), (10, 0, a0_, .ref a_15), (10, 1, a0_, .ref q0_), (1, 0, q0_, .ref q1_), (1, 1, q0_, .ref q2_), (7, 1, q1_, .int y0_), (4, 6, a1_, .int y1_), (4, 14, a1_, .int y2_)] → cOK f q1_ → lv_has ls 9 [(8, .int v45_8), (7, .int r_12), (6, .int v45_6), (5, .int v6_5), (4, .int v6_4), (0, .ref a0_), (1, .ref a1_), (2, .int x2_), (3, .int x3_)] → W p l e ({ frames := 3, cells := 0, slots := 0, locals := 73 } : Room) s m [.ref a0_, .ref a1_, .int x2_, .int x3_].toArray below meth c H locs 0 0 Q (F0 m 45 ls []) := by
            intro n45
            induction n45 with
            | zero =>
              intro v45_8 v45_6 bv45_8 bv45_6 hm45 f H locs ls g hG45_c_q1_ hl
              exact absurd hm45 (by have h9_v45_8 := bv45_8; unfold bd at h9_v45_8; have h9_v45_6 := bv45_6; unfold bd at h9_v45_6; omega)
            | succ n45 ih45 =>
              intro v45_8 v45_6 bv45_8 bv45_6 hm45 f H locs ls g hG45_c_q1_ hl
              refine lv_iload hx hb dX10_askNeeds_45 (lv_at hl 0 rfl) ?_
              refine lv_iload hx hb dX10_askNeeds_47 (lv_at hl 1 rfl) ?_
              refine lv_icmp_gt (tgt := 95) hx hb dX10_askNeeds_49 (by decide) (fun c_20 => ?_) (fun c_20 => ?_)
              · have fc_20 := lt_f c_20
                refine lv_iload hx hb dX10_askNeeds_95 (lv_at hl 2 rfl) ?_
                have kb_0 : bd 0 0 (0 : Int32) := ⟨by decide, by decide⟩
                refine lv_if_ne (tgt := 107) hx hb dX10_askNeeds_97 (by decide) (fun c_21 => ?_) (fun c_21 => ?_)
                · have fc_21 := neq_f c_21
                  have b_22 : bd 1 1 v45_6 := neX fc_21 bv45_6 kb_0 (by decide)
                  subst hQ
                  exact W.vret hx hb hr (fun t ht hW => ⟨⟨_, rfl, trivial, q3_of g hK ht hW⟩, g.2.2.1.F ht⟩) g.2.2.1.2.2 dX10_askNeeds_107
                · have fc_21 := eq_f c_21
                  have b_23 : bd 0 0 v45_6 := eqX fc_21 bv45_6 kb_0 (by decide)
                  refine lv_aload_n hx hb dX10_askNeeds_100 rfl (lv_at hl 6 rfl) ?_
                  refine g_geti (C := RX4) (T := TX4) (N := 17) hx hb hts (mc_ inX4) hown hK g ma1_ ka1_ (by decide) rfl 0 (by decide) rfl (hts _ (List.mem_cons_of_mem _ t_837)) (fun _ h9 => h9) rfl dX10_askNeeds_101 (fun x_24 bx_24 g => ?_)
                  refine lv_if_eq (tgt := 108) hx hb dX10_askNeeds_104 (by decide) (fun c_25 => ?_) (fun c_25 => ?_)
                  · have fc_25 := eq_f c_25
                    have b_26 : bd 0 0 x_24 := eqX fc_25 (bdT x_24) kb_0 (by decide)
                    refine lv_aload_n hx hb dX10_askNeeds_108 rfl (lv_at hl 5 rfl) ?_
                    refine lv_iload hx hb dX10_askNeeds_109 (lv_at hl 4 rfl) ?_
                    have go_ := g
                    refine g_calli (va_runV (As := [.int v6_4]) (rest := []) ⟨hx, hb, hml, hown, hts⟩ (r_X10_upwards l dC dI L kd tys f H.size g.2.2.2.1 a0_ ma0_ ka0_ v6_4) (cwV 1 hts (gV_ t_1625 t_1627 t_72 t_194 t_1628) rfl rfl rfl (by decide +kernel) ⟨(Nat.le_of_ble_eq_true rfl), (Nat.le_of_ble_eq_true rfl)⟩) (pre3V g hK ma0_ ka0_ (by decide) (q := (RX10, TX10, 10)) rfl) rfl rfl hl.1 rfl (lv_room (Nat.le_of_ble_eq_true rfl)) dX10_askNeeds_111 ⟨(Nat.le_of_ble_eq_true rfl), (Nat.le_of_ble_eq_true rfl)⟩) g hK (by decide) (by decide) (fx' := [(4, 0, a1_, .int x_24), (6, 11, a_17, .int x_18), (7, 2, a_15, .ref a_16), (10, 0, a0_, .ref a_15), (10, 1, a0_, .ref q0_), (1, 0, q0_, .ref q1_), (1, 1, q0_, .ref q2_), (7, 1, q1_, .int y0_), (4, 6, a1_, .int y1_), (4, 14, a1_, .int y2_)]) rfl (fun r_27 fr_27 H locs hp hMr_27 g => ?_)
                    obtain ⟨h_28, -⟩ := hp
                    have hG_29 := cOK.frame hMr_27 go_.2.2.2.1 mq1_ kq1_ (by decide) (by decide) hG45_c_q1_
                    refine lv_istore (lv' := [(4, .int r_27), (8, .int v45_8), (7, .int r_12), (6, .int v45_6), (5, .int v6_5), (0, .ref a0_), (1, .ref a1_), (2, .int x2_), (3, .int x3_)]) hx hb dX10_askNeeds_114 hl (by decide) rfl (fun ls hl => ?_)
                    have kb_1 : bd 1 1 (1 : Int32) := ⟨by decide, by decide⟩
                    obtain ⟨y_30, ey_30⟩ : ∃ z : Int32, z = v6_5 + 1 := ⟨_, rfl⟩
                    refine lv_iinc (v := y_30) (lv' := [(5, .int y_30), (4, .int r_27), (8, .int v45_8), (7, .int r_12), (6, .int v45_6), (0, .ref a0_), (1, .ref a1_), (2, .int x2_), (3, .int x3_)]) hx hb dX10_askNeeds_116 hl (k := 4) rfl (by rw [ey_30]; rfl) (by decide) rfl (fun ls hl => ?_)
                    have ty_30 := add_bd ey_30 b_6 kb_1 (by decide)
                    have b_31 : bd 1 8 y_30 := add_rg ty_30 b_6 kb_1 (by decide)
                    refine lv_goto (tgt := 6) hx hb dX10_askNeeds_119 (by decide) ?_
                    have hl9 := lv_sub hl [0, 1, 5, 6, 7, 8] (by rfl : lv_pick [(5, .int y_30), (4, .int r_27), (8, .int v45_8), (7, .int r_12), (6, .int v45_6), (0, .ref a0_), (1, .ref a1_), (2, .int x2_), (3, .int x3_)] [0, 1, 5, 6, 7, 8] = [(5, .int y_30), (4, .int r_27), (0, .ref a0_), (1, .ref a1_), (2, .int x2_), (3, .int x3_)])
                    have g9 := g.sub (fx' := [(10, 1, a0_, .ref q0_), (1, 0, q0_, .ref q1_), (1, 1, q0_, .ref q2_), (7, 1, q1_, .int y0_), (4, 6, a1_, .int y1_), (4, 14, a1_, .int y2_), (4, 0, a1_, .int x_24)]) [4, 5, 6, 7, 8, 9, 0] rfl
                    exact ih6  y_30 r_27 x_24 (bd_sub b_31 (by decide)) h_28 b_26 (by have h9_0 := b_26; unfold bd at h9_0; have h9_1 := b_31; unfold bd at h9_1; have h9_2 := bv6_4; unfold bd at h9_2; have h9_3 := bv6_5; unfold bd at h9_3; have h9_4 := bw6_4_0_a1_; unfold bd at h9_4; have h9_5 := h_28; unfold bd at h9_5; have h9_6 := kb_0; unfold bd at h9_6; have h9_7 := kb_1; unfold bd at h9_7; have h9_8 := kb_8; unfold bd at h9_8; have h9_9 := kb_m1; unfold bd at h9_9; omega) _ _ _ _ g9 hG_29 hl9
                  · have fc_25 := neq_f c_25
                    subst hQ
                    exact W.vret hx hb hr (fun t ht hW => ⟨⟨_, rfl, trivial, q3_of g hK ht hW⟩, g.2.2.1.F ht⟩) g.2.2.1.2.2 dX10_askNeeds_107
              · have fc_20 := nlt_f c_20
                have b_32 : bd 0 499 v45_8 := leL fc_20 bv45_8 h_13 (by decide)
                have b_33 : bd 0 499 r_12 := leR fc_20 bv45_8 h_13 (by decide)
                refine lv_iload hx hb dX10_askNeeds_52 (lv_at hl 2 rfl) ?_
                have kb_0 : bd 0 0 (0 : Int32) := ⟨by decide, by decide⟩
                refine lv_if_eq (tgt := 95) hx hb dX10_askNeeds_54 (by decide) (fun c_34 => ?_) (fun c_34 => ?_)
                · have fc_34 := eq_f c_34
                  have b_35 : bd 0 0 v45_6 := eqX fc_34 bv45_6 kb_0 (by decide)
                  refine lv_iload hx hb dX10_askNeeds_95 (lv_at hl 2 rfl) ?_
                  refine lv_if_ne (tgt := 107) hx hb dX10_askNeeds_97 (by decide) (fun c_36 => ?_) (fun c_36 => ?_)
                  · have fc_36 := neq_f c_36
                    have b_37 : bd 1 (-1) v45_6 := neX fc_36 b_35 kb_0 (by decide)
                    exact bd_no b_37 (by decide)
                  · have fc_36 := eq_f c_36
                    refine lv_aload_n hx hb dX10_askNeeds_100 rfl (lv_at hl 6 rfl) ?_
                    refine g_geti (C := RX4) (T := TX4) (N := 17) hx hb hts (mc_ inX4) hown hK g ma1_ ka1_ (by decide) rfl 0 (by decide) rfl (hts _ (List.mem_cons_of_mem _ t_837)) (fun _ h9 => h9) rfl dX10_askNeeds_101 (fun x_38 bx_38 g => ?_)
                    refine lv_if_eq (tgt := 108) hx hb dX10_askNeeds_104 (by decide) (fun c_39 => ?_) (fun c_39 => ?_)
                    · have fc_39 := eq_f c_39
                      have b_40 : bd 0 0 x_38 := eqX fc_39 (bdT x_38) kb_0 (by decide)
                      refine lv_aload_n hx hb dX10_askNeeds_108 rfl (lv_at hl 5 rfl) ?_
                      refine lv_iload hx hb dX10_askNeeds_109 (lv_at hl 4 rfl) ?_
                      have go_ := g
                      refine g_calli (va_runV (As := [.int v6_4]) (rest := []) ⟨hx, hb, hml, hown, hts⟩ (r_X10_upwards l dC dI L kd tys f H.size g.2.2.2.1 a0_ ma0_ ka0_ v6_4) (cwV 1 hts (gV_ t_1625 t_1627 t_72 t_194 t_1628) rfl rfl rfl (by decide +kernel) ⟨(Nat.le_of_ble_eq_true rfl), (Nat.le_of_ble_eq_true rfl)⟩) (pre3V g hK ma0_ ka0_ (by decide) (q := (RX10, TX10, 10)) rfl) rfl rfl hl.1 rfl (lv_room (Nat.le_of_ble_eq_true rfl)) dX10_askNeeds_111 ⟨(Nat.le_of_ble_eq_true rfl), (Nat.le_of_ble_eq_true rfl)⟩) g hK (by decide) (by decide) (fx' := [(4, 0, a1_, .int x_38), (6, 11, a_17, .int x_18), (7, 2, a_15, .ref a_16), (10, 0, a0_, .ref a_15), (10, 1, a0_, .ref q0_), (1, 0, q0_, .ref q1_), (1, 1, q0_, .ref q2_), (7, 1, q1_, .int y0_), (4, 6, a1_, .int y1_), (4, 14, a1_, .int y2_)]) rfl (fun r_41 fr_41 H locs hp hMr_41 g => ?_)
                      obtain ⟨h_42, -⟩ := hp
                      have hG_43 := cOK.frame hMr_41 go_.2.2.2.1 mq1_ kq1_ (by decide) (by decide) hG45_c_q1_
                      refine lv_istore (lv' := [(4, .int r_41), (8, .int v45_8), (7, .int r_12), (6, .int v45_6), (5, .int v6_5), (0, .ref a0_), (1, .ref a1_), (2, .int x2_), (3, .int x3_)]) hx hb dX10_askNeeds_114 hl (by decide) rfl (fun ls hl => ?_)
                      have kb_1 : bd 1 1 (1 : Int32) := ⟨by decide, by decide⟩
                      obtain ⟨y_44, ey_44⟩ : ∃ z : Int32, z = v6_5 + 1 := ⟨_, rfl⟩
                      refine lv_iinc (v := y_44) (lv' := [(5, .int y_44), (4, .int r_41), (8, .int v45_8), (7, .int r_12), (6, .int v45_6), (0, .ref a0_), (1, .ref a1_), (2, .int x2_), (3, .int x3_)]) hx hb dX10_askNeeds_116 hl (k := 4) rfl (by rw [ey_44]; rfl) (by decide) rfl (fun ls hl => ?_)
                      have ty_44 := add_bd ey_44 b_6 kb_1 (by decide)
                      have b_45 : bd 1 8 y_44 := add_rg ty_44 b_6 kb_1 (by decide)
                      refine lv_goto (tgt := 6) hx hb dX10_askNeeds_119 (by decide) ?_
                      have hl9 := lv_sub hl [0, 1, 5, 6, 7, 8] (by rfl : lv_pick [(5, .int y_44), (4, .int r_41), (8, .int v45_8), (7, .int r_12), (6, .int v45_6), (0, .ref a0_), (1, .ref a1_), (2, .int x2_), (3, .int x3_)] [0, 1, 5, 6, 7, 8] = [(5, .int y_44), (4, .int r_41), (0, .ref a0_), (1, .ref a1_), (2, .int x2_), (3, .int x3_)])
                      have g9 := g.sub (fx' := [(10, 1, a0_, .ref q0_), (1, 0, q0_, .ref q1_), (1, 1, q0_, .ref q2_), (7, 1, q1_, .int y0_), (4, 6, a1_, .int y1_), (4, 14, a1_, .int y2_), (4, 0, a1_, .int x_38)]) [4, 5, 6, 7, 8, 9, 0] rfl
                      exact ih6  y_44 r_41 x_38 (bd_sub b_45 (by decide)) h_42 b_40 (by have h9_0 := b_40; unfold bd at h9_0; have h9_1 := b_45; unfold bd at h9_1; have h9_2 := bv6_4; unfold bd at h9_2; have h9_3 := bv6_5; unfold bd at h9_3; have h9_4 := bw6_4_0_a1_; unfold bd at h9_4; have h9_5 := h_42; unfold bd at h9_5; have h9_6 := kb_0; unfold bd at h9_6; have h9_7 := kb_1; unfold bd at h9_7; have h9_8 := kb_8; unfold bd at h9_8; have h9_9 := kb_m1; unfold bd at h9_9; omega) _ _ _ _ g9 hG_43 hl9
                    · have fc_39 := neq_f c_39
                      subst hQ
                      exact W.vret hx hb hr (fun t ht hW => ⟨⟨_, rfl, trivial, q3_of g hK ht hW⟩, g.2.2.1.F ht⟩) g.2.2.1.2.2 dX10_askNeeds_107
                · have fc_34 := neq_f c_34
                  have b_46 : bd 1 1 v45_6 := neX fc_34 bv45_6 kb_0 (by decide)
                  refine lv_aload_n hx hb dX10_askNeeds_57 rfl (lv_at hl 5 rfl) ?_
                  refine g_getk (C := RX10) (T := TX10) (N := 10) hx hb hts (mc_ inX10) hown hK g rfl 0 (by decide) rfl (hts _ (List.mem_cons_of_mem _ t_912)) (fun _ h9 => h9) 2 rfl dX10_askNeeds_58 ?_
                  refine g_getr (K := 140) (C := RX7) (T := TX7) (N := 19) hx hb hts (mc_ inX7) hown hK g ma_15 ka_15 (by decide) rfl 7 (by decide) rfl (hts _ (List.mem_cons_of_mem _ t_650)) (fun _ h9 => h9) rfl dX10_askNeeds_61 (fun a_47 ma_47 ka_47 g => ?_)
                  refine lv_iload hx hb dX10_askNeeds_64 (lv_at hl 0 rfl) ?_
                  refine g_iald hx hb hK g ma_47 ka_47 (by decide) rfl (in_bd b_32 (by decide)) dX10_askNeeds_66 (fun x_48 bx_48 cx_48 => ?_)
                  refine lv_iconst (v := 1) hx hb dX10_askNeeds_67 (by decide) ?_
                  have kb_1 : bd 1 1 (1 : Int32) := ⟨by decide, by decide⟩
                  refine lv_icmp_ne (tgt := 82) hx hb dX10_askNeeds_68 (by decide) (fun c_49 => ?_) (fun c_49 => ?_)
                  · have fc_49 := neq_f c_49
                    refine lv_iconst (v := 1) hx hb dX10_askNeeds_82 (by decide) ?_
                    refine lv_goto (tgt := 87) hx hb dX10_askNeeds_83 (by decide) ?_
                    refine lv_istore (lv' := [(6, .int 1), (8, .int v45_8), (7, .int r_12), (5, .int v6_5), (4, .int v6_4), (0, .ref a0_), (1, .ref a1_), (2, .int x2_), (3, .int x3_)]) hx hb dX10_askNeeds_87 hl (by decide) rfl (fun ls hl => ?_)
                    obtain ⟨y_50, ey_50⟩ : ∃ z : Int32, z = v45_8 + 1 := ⟨_, rfl⟩
                    refine lv_iinc (v := y_50) (lv' := [(8, .int y_50), (6, .int 1), (7, .int r_12), (5, .int v6_5), (4, .int v6_4), (0, .ref a0_), (1, .ref a1_), (2, .int x2_), (3, .int x3_)]) hx hb dX10_askNeeds_89 hl (k := 1) rfl (by rw [ey_50]; rfl) (by decide) rfl (fun ls hl => ?_)
                    have ty_50 := add_bd ey_50 b_32 kb_1 (by decide)
                    have b_51 : bd 1 500 y_50 := add_rg ty_50 b_32 kb_1 (by decide)
                    refine lv_goto (tgt := 45) hx hb dX10_askNeeds_92 (by decide) ?_
                    have hl9 := lv_sub hl [0, 2, 1, 3, 4, 5, 6, 7, 8] (by rfl : lv_pick [(8, .int y_50), (6, .int 1), (7, .int r_12), (5, .int v6_5), (4, .int v6_4), (0, .ref a0_), (1, .ref a1_), (2, .int x2_), (3, .int x3_)] [0, 2, 1, 3, 4, 5, 6, 7, 8] = [(8, .int y_50), (7, .int r_12), (6, .int 1), (5, .int v6_5), (4, .int v6_4), (0, .ref a0_), (1, .ref a1_), (2, .int x2_), (3, .int x3_)])
                    have g9 := g.sub (fx' := [(6, 11, a_17, .int x_18), (7, 2, a_15, .ref a_16), (10, 0, a0_, .ref a_15), (10, 1, a0_, .ref q0_), (1, 0, q0_, .ref q1_), (1, 1, q0_, .ref q2_), (7, 1, q1_, .int y0_), (4, 6, a1_, .int y1_), (4, 14, a1_, .int y2_)]) [1, 2, 3, 4, 5, 6, 7, 8, 9] rfl
                    exact ih45  y_50 1 (bd_sub b_51 (by decide)) (bd_sub kb_1 (by decide)) (by have h9_0 := b_51; unfold bd at h9_0; have h9_1 := bv45_6; unfold bd at h9_1; have h9_2 := bv45_8; unfold bd at h9_2; have h9_3 := kb_0; unfold bd at h9_3; have h9_4 := kb_1; unfold bd at h9_4; have h9_5 := kb_8; unfold bd at h9_5; have h9_6 := kb_m1; unfold bd at h9_6; omega) _ _ _ _ g9 hG45_c_q1_ hl9
                  · have fc_49 := eq_f c_49
                    have b_52 : bd 1 1 x_48 := eqX fc_49 (bdT x_48) kb_1 (by decide)
                    refine lv_aload_n hx hb dX10_askNeeds_71 rfl (lv_at hl 5 rfl) ?_
                    refine lv_aload_n hx hb dX10_askNeeds_72 rfl (lv_at hl 6 rfl) ?_
                    refine lv_iload hx hb dX10_askNeeds_73 (lv_at hl 0 rfl) ?_
                    refine lv_iload_n hx hb dX10_askNeeds_75 rfl (lv_at hl 7 rfl) ?_
                    have go_ := g
                    refine g_calli (va_runV (As := [.ref a1_, .int v45_8, .int x2_]) (rest := []) ⟨hx, hb, hml, hown, hts⟩ (r_X10_holds_13 l dC dI L kd tys f H.size g.2.2.2.1 a0_ ma0_ ka0_ a1_ ma1_ ka1_ v45_8 b_32 x2_ bx2_ q0_ mq0_ kq0_ q1_ mq1_ kq1_ q2_ mq2_ kq2_ y0_ by0_ y1_ by1_ y2_ by2_ hG45_c_q1_ (g.fcts [4, 5, 6, 7, 8, 9] rfl)) (cwV 3 hts (gV_ t_1547 t_1549 t_57 t_194 t_1550) rfl rfl rfl (by decide +kernel) ⟨(Nat.le_of_ble_eq_true rfl), (Nat.le_of_ble_eq_true rfl)⟩) (pre3V g hK ma0_ ka0_ (by decide) (q := (RX10, TX10, 10)) rfl) rfl rfl hl.1 rfl (lv_room (Nat.le_of_ble_eq_true rfl)) dX10_askNeeds_76 ⟨(Nat.le_of_ble_eq_true rfl), (Nat.le_of_ble_eq_true rfl)⟩) g hK (by decide) (by decide) (fx' := [(7, 7, a_15, .ref a_47), (6, 11, a_17, .int x_18), (7, 2, a_15, .ref a_16), (10, 0, a0_, .ref a_15), (10, 1, a0_, .ref q0_), (1, 0, q0_, .ref q1_), (1, 1, q0_, .ref q2_), (7, 1, q1_, .int y0_), (4, 6, a1_, .int y1_), (4, 14, a1_, .int y2_)]) rfl (fun r_53 fr_53 H locs hp hMr_53 g => ?_)
                    rcases hp with ⟨h_54, hF_55⟩ | ⟨h_56, x_57, h_58, hF_59⟩
                    · have hG_60 := cOK.frame hMr_53 go_.2.2.2.1 mq1_ kq1_ (by decide) (by decide) hG45_c_q1_
                      obtain rfl : r_53 = 0 := h_54
                      have g := g.more hF_55
                      refine lv_if_eq (tgt := 86) hx hb dX10_askNeeds_79 (by decide) (fun c_ => ?_) (fun c_ => absurd (by decide) c_)
                      refine lv_iconst (v := 0) hx hb dX10_askNeeds_86 (by decide) ?_
                      refine lv_istore (lv' := [(6, .int 0), (8, .int v45_8), (7, .int r_12), (5, .int v6_5), (4, .int v6_4), (0, .ref a0_), (1, .ref a1_), (2, .int x2_), (3, .int x3_)]) hx hb dX10_askNeeds_87 hl (by decide) rfl (fun ls hl => ?_)
                      obtain ⟨y_61, ey_61⟩ : ∃ z : Int32, z = v45_8 + 1 := ⟨_, rfl⟩
                      refine lv_iinc (v := y_61) (lv' := [(8, .int y_61), (6, .int 0), (7, .int r_12), (5, .int v6_5), (4, .int v6_4), (0, .ref a0_), (1, .ref a1_), (2, .int x2_), (3, .int x3_)]) hx hb dX10_askNeeds_89 hl (k := 1) rfl (by rw [ey_61]; rfl) (by decide) rfl (fun ls hl => ?_)
                      have ty_61 := add_bd ey_61 b_32 kb_1 (by decide)
                      have b_62 : bd 1 500 y_61 := add_rg ty_61 b_32 kb_1 (by decide)
                      refine lv_goto (tgt := 45) hx hb dX10_askNeeds_92 (by decide) ?_
                      have hl9 := lv_sub hl [0, 2, 1, 3, 4, 5, 6, 7, 8] (by rfl : lv_pick [(8, .int y_61), (6, .int 0), (7, .int r_12), (5, .int v6_5), (4, .int v6_4), (0, .ref a0_), (1, .ref a1_), (2, .int x2_), (3, .int x3_)] [0, 2, 1, 3, 4, 5, 6, 7, 8] = [(8, .int y_61), (7, .int r_12), (6, .int 0), (5, .int v6_5), (4, .int v6_4), (0, .ref a0_), (1, .ref a1_), (2, .int x2_), (3, .int x3_)])
                      have g9 := g.sub (fx' := [(6, 11, a_17, .int x_18), (7, 2, a_15, .ref a_16), (10, 0, a0_, .ref a_15), (10, 1, a0_, .ref q0_), (1, 0, q0_, .ref q1_), (1, 1, q0_, .ref q2_), (7, 1, q1_, .int y0_), (4, 6, a1_, .int y1_), (4, 14, a1_, .int y2_)]) [3, 4, 5, 6, 7, 8, 9, 10, 11] rfl
                      exact ih45  y_61 0 (bd_sub b_62 (by decide)) (bd_sub kb_0 (by decide)) (by have h9_0 := b_62; unfold bd at h9_0; have h9_1 := bv45_6; unfold bd at h9_1; have h9_2 := bv45_8; unfold bd at h9_2; have h9_3 := kb_0; unfold bd at h9_3; have h9_4 := kb_1; unfold bd at h9_4; have h9_5 := kb_8; unfold bd at h9_5; have h9_6 := kb_m1; unfold bd at h9_6; omega) _ _ _ _ g9 hG_60 hl9
                    · have hG_63 := cOK.frame hMr_53 go_.2.2.2.1 mq1_ kq1_ (by decide) (by decide) hG45_c_q1_
                      obtain rfl : r_53 = 1 := h_56
                      have g := g.more hF_59
                      refine lv_if_eq (tgt := 86) hx hb dX10_askNeeds_79 (by decide) (fun c_ => absurd c_ (by decide)) (fun c_ => ?_)
                      refine lv_iconst (v := 1) hx hb dX10_askNeeds_82 (by decide) ?_
                      refine lv_goto (tgt := 87) hx hb dX10_askNeeds_83 (by decide) ?_
                      refine lv_istore (lv' := [(6, .int 1), (8, .int v45_8), (7, .int r_12), (5, .int v6_5), (4, .int v6_4), (0, .ref a0_), (1, .ref a1_), (2, .int x2_), (3, .int x3_)]) hx hb dX10_askNeeds_87 hl (by decide) rfl (fun ls hl => ?_)
                      obtain ⟨y_64, ey_64⟩ : ∃ z : Int32, z = v45_8 + 1 := ⟨_, rfl⟩
                      refine lv_iinc (v := y_64) (lv' := [(8, .int y_64), (6, .int 1), (7, .int r_12), (5, .int v6_5), (4, .int v6_4), (0, .ref a0_), (1, .ref a1_), (2, .int x2_), (3, .int x3_)]) hx hb dX10_askNeeds_89 hl (k := 1) rfl (by rw [ey_64]; rfl) (by decide) rfl (fun ls hl => ?_)
                      have ty_64 := add_bd ey_64 b_32 kb_1 (by decide)
                      have b_65 : bd 1 500 y_64 := add_rg ty_64 b_32 kb_1 (by decide)
                      refine lv_goto (tgt := 45) hx hb dX10_askNeeds_92 (by decide) ?_
                      have hl9 := lv_sub hl [0, 2, 1, 3, 4, 5, 6, 7, 8] (by rfl : lv_pick [(8, .int y_64), (6, .int 1), (7, .int r_12), (5, .int v6_5), (4, .int v6_4), (0, .ref a0_), (1, .ref a1_), (2, .int x2_), (3, .int x3_)] [0, 2, 1, 3, 4, 5, 6, 7, 8] = [(8, .int y_64), (7, .int r_12), (6, .int 1), (5, .int v6_5), (4, .int v6_4), (0, .ref a0_), (1, .ref a1_), (2, .int x2_), (3, .int x3_)])
                      have g9 := g.sub (fx' := [(6, 11, a_17, .int x_18), (7, 2, a_15, .ref a_16), (10, 0, a0_, .ref a_15), (10, 1, a0_, .ref q0_), (1, 0, q0_, .ref q1_), (1, 1, q0_, .ref q2_), (7, 1, q1_, .int y0_), (4, 6, a1_, .int y1_), (4, 14, a1_, .int y2_)]) [4, 5, 6, 7, 8, 9, 10, 11, 12] rfl
                      exact ih45  y_64 1 (bd_sub b_65 (by decide)) (bd_sub kb_1 (by decide)) (by have h9_0 := b_65; unfold bd at h9_0; have h9_1 := bv45_6; unfold bd at h9_1; have h9_2 := bv45_8; unfold bd at h9_2; have h9_3 := kb_0; unfold bd at h9_3; have h9_4 := kb_1; unfold bd at h9_4; have h9_5 := kb_8; unfold bd at h9_5; have h9_6 := kb_m1; unfold bd at h9_6; omega) _ _ _ _ g9 hG_63 hl9
          have kb_1 : bd 1 1 (1 : Int32) := ⟨by decide, by decide⟩
          have hl9 := lv_sub hl [0, 1, 2, 3, 4, 5, 6, 7, 8] (by rfl : lv_pick [(8, .int x_18), (7, .int r_12), (6, .int 1), (5, .int v6_5), (4, .int v6_4), (0, .ref a0_), (1, .ref a1_), (2, .int x2_), (3, .int x3_)] [0, 1, 2, 3, 4, 5, 6, 7, 8] = [(8, .int x_18), (7, .int r_12), (6, .int 1), (5, .int v6_5), (4, .int v6_4), (0, .ref a0_), (1, .ref a1_), (2, .int x2_), (3, .int x3_)])
          have g9 := g.sub (fx' := [(6, 11, a_17, .int x_18), (7, 2, a_15, .ref a_16), (10, 0, a0_, .ref a_15), (10, 1, a0_, .ref q0_), (1, 0, q0_, .ref q1_), (1, 1, q0_, .ref q2_), (7, 1, q1_, .int y0_), (4, 6, a1_, .int y1_), (4, 14, a1_, .int y2_)]) [0, 1, 2, 3, 4, 5, 6, 7, 8] rfl
          exact loop_19 (1003) x_18 1 bx_18 (bd_sub kb_1 (by decide)) (by have h9_0 := bw6_4_0_a1_; unfold bd at h9_0; have h9_1 := bx_18; unfold bd at h9_1; have h9_2 := kb_1; unfold bd at h9_2; have h9_3 := kb_8; unfold bd at h9_3; have h9_4 := kb_m1; unfold bd at h9_4; omega) _ _ _ _ g9 hG_14 hl9
  have kb_0 : bd 0 0 (0 : Int32) := ⟨by decide, by decide⟩
  have hl9 := lv_sub hl [0, 1, 2, 3, 4, 5] (by rfl : lv_pick [(5, .int 0), (4, .int x3_), (0, .ref a0_), (1, .ref a1_), (2, .int x2_), (3, .int x3_)] [0, 1, 2, 3, 4, 5] = [(5, .int 0), (4, .int x3_), (0, .ref a0_), (1, .ref a1_), (2, .int x2_), (3, .int x3_)])
  have g9 := g.sub (fx' := [(10, 1, a0_, .ref q0_), (1, 0, q0_, .ref q1_), (1, 1, q0_, .ref q2_), (7, 1, q1_, .int y0_), (4, 6, a1_, .int y1_), (4, 14, a1_, .int y2_), (4, 0, a1_, .int y3_)]) [0, 1, 2, 3, 4, 5, 6] rfl
  exact loop_1 (19) 0 x3_ y3_ (bd_sub kb_0 (by decide)) (bd_sub bx3_ (by decide)) by3_ (by have h9_0 := bx3_; unfold bd at h9_0; have h9_1 := by3_; unfold bd at h9_1; have h9_2 := kb_0; unfold bd at h9_2; omega) _ _ _ _ g9 hGcq1_ hl9
set_option maxHeartbeats 4000000 in
set_option maxRecDepth 100000 in
theorem r_X10_noteCall_2 (l : Launch) (dC : Nat → ClassId) (dI : Nat → Nat → Nat) (L : List Nat) (kd : Nat → Nat) (tys : List (ClassId × FieldType)) (f0 : Nat → va_E) (sz : Nat) (hWT : WT L kd tys f0) (a0_ : Nat) (ma0_ : a0_ ∈ L) (ka0_ : kd a0_ = 10) (a1_ : Nat) (ma1_ : a1_ ∈ L) (ka1_ : kd a1_ = 4) (x2_ : Int32) (bx2_ : bd 0 9 x2_) (y0_ : Int32) (by0_ : bd 0 0 y0_) (y1_ : Int32) (by1_ : bd 1 3 y1_) (y2_ : Int32) (by2_ : bd 0 9 y2_) (hfx : Fs L kd f0 [(4, 0, a1_, .int y0_), (4, 6, a1_, .int y1_), (4, 14, a1_, .int y2_)]) : Met l yX10_noteCall (.code yX10_noteCall cX10_noteCall 3 none :: lw_g) ({ frames := 0, cells := 0, slots := 0, locals := 0 }) (va_Pc [.ref a0_, .ref a1_, .int x2_] (P3 (dC, dI) L tys f0 sz)) (va_Qv (fun (f : Nat → va_E) => (∃ z0_ : Int32, bd 0 8 z0_ ∧ Fs L kd f [(4, 0, a1_, .int z0_)])) (Q3 (dC, dI) L kd tys [(4, 0), (4, 5), (4, 15), (4, 16)] [130, 131] f0 sz) (pA L sz)) 0 0 (pA L sz) := by
  refine Met.ofW (cc := cX10_noteCall) (maxL := 3) (ret := none) (by decide) rfl ?_
  intro p e s m args below meth c s₁ B hml hv
  obtain ⟨rfl, hsz, hP, hK, hD0⟩ := hv
  have hx := B.exec
  have hb := B.bytes
  have hr := B.returns
  have hts := atoms_spec (ws := (.code yX10_noteCall cX10_noteCall 3 none :: lw_g)) B.pre
  have hown : s.vm.findClass RX10 = some m.cls := findClass_of_methodNamed B.named
  have hlocks := B.notSynchronized
  subst hsz
  have g : G3 (dC, dI) L kd tys s f0 [(4, 0), (4, 5), (4, 15), (4, 16)] [130, 131] f0 s.heap [] [(4, 0, a1_, .int y0_), (4, 6, a1_, .int y1_), (4, 14, a1_, .int y2_)] := G3.start hP hD0 hWT hfx
  have hl := lv_entry ([.ref a0_, .ref a1_, .int x2_]) (n := 3) (Nat.le_of_ble_eq_true rfl)
  rw [lg_entry_eq]
  generalize (lg_sl ([.ref a0_, .ref a1_, .int x2_]) ++ List.replicate (3 - (lg_sl ([.ref a0_, .ref a1_, .int x2_])).length) Slot.unset).toArray = ls at hl ⊢
  have hl : lv_has ls 3 [(0, .ref a0_), (1, .ref a1_), (2, .int x2_)] := hl
  refine W_q (fun Q hQ => ?_)
  refine lv_aload_n hx hb dX10_noteCall_0 rfl (lv_at hl 1 rfl) ?_
  refine lv_aload_n hx hb dX10_noteCall_1 rfl (lv_at hl 0 rfl) ?_
  refine g_getr (K := 1) (C := RX10) (T := TX10) (N := 10) hx hb hts (mc_ inX10) hown hK g ma0_ ka0_ (by decide) rfl 1 (by decide) rfl (hts _ (List.mem_cons_of_mem _ t_913)) (fun _ h9 => h9) rfl dX10_noteCall_2 (fun a_1 ma_1 ka_1 g => ?_)
  refine g_geti (C := RX1) (T := TX1) (N := 18) hx hb hts (mc_ inX1) hown hK g ma_1 ka_1 (by decide) rfl 15 (by decide) rfl (hts _ (List.mem_cons_of_mem _ t_751)) (fun _ h9 => h9) rfl dX10_noteCall_5 (fun x_2 bx_2 g => ?_)
  refine g_put (C := RX4) (T := TX4) (N := 17) hx hb hts (mc_ inX4) tyX4 tyX4_ok nmX4 hown hK g ma1_ ka1_ (by decide) rfl 15 (by decide) (hts _ (List.mem_cons_of_mem _ t_875)) (fun _ h9 => h9) rfl rfl (okV_i (bdT x_2)) rfl rfl (by decide) (Or.inr (Or.inl (by decide))) (fx' := [(1, 15, a_1, .int x_2), (10, 1, a0_, .ref a_1), (4, 0, a1_, .int y0_), (4, 6, a1_, .int y1_), (4, 14, a1_, .int y2_)]) rfl dX10_noteCall_8 (fun f H locs hM_3 g => ?_)
  refine lv_aload_n hx hb dX10_noteCall_11 rfl (lv_at hl 1 rfl) ?_
  refine lv_aload_n hx hb dX10_noteCall_12 rfl (lv_at hl 0 rfl) ?_
  refine g_getk (C := RX10) (T := TX10) (N := 10) hx hb hts (mc_ inX10) hown hK g rfl 1 (by decide) rfl (hts _ (List.mem_cons_of_mem _ t_913)) (fun _ h9 => h9) 2 rfl dX10_noteCall_13 ?_
  refine g_geti (C := RX1) (T := TX1) (N := 18) hx hb hts (mc_ inX1) hown hK g ma_1 ka_1 (by decide) rfl 16 (by decide) rfl (hts _ (List.mem_cons_of_mem _ t_753)) (fun _ h9 => h9) rfl dX10_noteCall_16 (fun x_4 bx_4 g => ?_)
  refine g_put (C := RX4) (T := TX4) (N := 17) hx hb hts (mc_ inX4) tyX4 tyX4_ok nmX4 hown hK g ma1_ ka1_ (by decide) rfl 16 (by decide) (hts _ (List.mem_cons_of_mem _ t_876)) (fun _ h9 => h9) rfl rfl (okV_i (bdT x_4)) rfl rfl (by decide) (Or.inr (Or.inl (by decide))) (fx' := [(1, 16, a_1, .int x_4), (4, 15, a1_, .int x_2), (1, 15, a_1, .int x_2), (10, 1, a0_, .ref a_1), (4, 0, a1_, .int y0_), (4, 6, a1_, .int y1_), (4, 14, a1_, .int y2_)]) rfl dX10_noteCall_19 (fun f H locs hM_5 g => ?_)
  refine lv_aload_n hx hb dX10_noteCall_22 rfl (lv_at hl 1 rfl) ?_
  refine g_getr (K := 131) (C := RX4) (T := TX4) (N := 17) hx hb hts (mc_ inX4) hown hK g ma1_ ka1_ (by decide) rfl 13 (by decide) rfl (hts _ (List.mem_cons_of_mem _ t_871)) (fun _ h9 => h9) rfl dX10_noteCall_23 (fun a_6 ma_6 ka_6 g => ?_)
  refine lv_iload_n hx hb dX10_noteCall_26 rfl (lv_at hl 2 rfl) ?_
  refine lv_aload_n hx hb dX10_noteCall_27 rfl (lv_at hl 0 rfl) ?_
  refine g_getk (C := RX10) (T := TX10) (N := 10) hx hb hts (mc_ inX10) hown hK g rfl 1 (by decide) rfl (hts _ (List.mem_cons_of_mem _ t_913)) (fun _ h9 => h9) 5 rfl dX10_noteCall_28 ?_
  refine g_getk (C := RX1) (T := TX1) (N := 18) hx hb hts (mc_ inX1) hown hK g rfl 15 (by decide) rfl (hts _ (List.mem_cons_of_mem _ t_751)) (fun _ h9 => h9) 4 rfl dX10_noteCall_31 ?_
  refine lv_iconst (v := 1) hx hb dX10_noteCall_34 (by decide) ?_
  have kb_1 : bd 1 1 (1 : Int32) := ⟨by decide, by decide⟩
  refine lv_icmp_ne (tgt := 42) hx hb dX10_noteCall_35 (by decide) (fun c_7 => ?_) (fun c_7 => ?_)
  · have fc_7 := neq_f c_7
    refine lv_iconst (v := 2) hx hb dX10_noteCall_42 (by decide) ?_
    have kb_2 : bd 2 2 (2 : Int32) := ⟨by decide, by decide⟩
    refine g_iast hx hb hK g ma_6 ka_6 (by decide) rfl (in_bd bx2_ (by decide)) (bd_sub kb_2 (by decide)) (by decide) dX10_noteCall_43 (fun f H locs hM_8 g => ?_)
    refine lv_aload_n hx hb dX10_noteCall_44 rfl (lv_at hl 1 rfl) ?_
    refine g_getr (K := 130) (C := RX4) (T := TX4) (N := 17) hx hb hts (mc_ inX4) hown hK g ma1_ ka1_ (by decide) rfl 12 (by decide) rfl (hts _ (List.mem_cons_of_mem _ t_868)) (fun _ h9 => h9) rfl dX10_noteCall_45 (fun a_9 ma_9 ka_9 g => ?_)
    refine lv_iload_n hx hb dX10_noteCall_48 rfl (lv_at hl 2 rfl) ?_
    refine lv_aload_n hx hb dX10_noteCall_49 rfl (lv_at hl 0 rfl) ?_
    refine g_getk (C := RX10) (T := TX10) (N := 10) hx hb hts (mc_ inX10) hown hK g rfl 1 (by decide) rfl (hts _ (List.mem_cons_of_mem _ t_913)) (fun _ h9 => h9) 6 rfl dX10_noteCall_50 ?_
    refine g_getk (C := RX1) (T := TX1) (N := 18) hx hb hts (mc_ inX1) hown hK g rfl 16 (by decide) rfl (hts _ (List.mem_cons_of_mem _ t_753)) (fun _ h9 => h9) 3 rfl dX10_noteCall_53 ?_
    refine g_iast hx hb hK g ma_9 ka_9 (by decide) rfl (in_bd bx2_ (by decide)) (bdT x_4) (by decide) dX10_noteCall_56 (fun f H locs hM_10 g => ?_)
    refine lv_aload_n hx hb dX10_noteCall_57 rfl (lv_at hl 0 rfl) ?_
    refine g_getk (C := RX10) (T := TX10) (N := 10) hx hb hts (mc_ inX10) hown hK g rfl 1 (by decide) rfl (hts _ (List.mem_cons_of_mem _ t_913)) (fun _ h9 => h9) 6 rfl dX10_noteCall_58 ?_
    refine g_getk (C := RX1) (T := TX1) (N := 18) hx hb hts (mc_ inX1) hown hK g rfl 15 (by decide) rfl (hts _ (List.mem_cons_of_mem _ t_751)) (fun _ h9 => h9) 5 rfl dX10_noteCall_61 ?_
    refine lv_iconst (v := 2) hx hb dX10_noteCall_64 (by decide) ?_
    refine lv_icmp_ne (tgt := 82) hx hb dX10_noteCall_65 (by decide) (fun c_11 => ?_) (fun c_11 => ?_)
    · have fc_11 := neq_f c_11
      refine lv_aload_n hx hb dX10_noteCall_82 rfl (lv_at hl 0 rfl) ?_
      refine g_getk (C := RX10) (T := TX10) (N := 10) hx hb hts (mc_ inX10) hown hK g rfl 1 (by decide) rfl (hts _ (List.mem_cons_of_mem _ t_913)) (fun _ h9 => h9) 6 rfl dX10_noteCall_83 ?_
      refine g_getk (C := RX1) (T := TX1) (N := 18) hx hb hts (mc_ inX1) hown hK g rfl 15 (by decide) rfl (hts _ (List.mem_cons_of_mem _ t_751)) (fun _ h9 => h9) 5 rfl dX10_noteCall_86 ?_
      refine lv_iconst (v := 1) hx hb dX10_noteCall_89 (by decide) ?_
      refine lv_icmp_eq (tgt := 99) hx hb dX10_noteCall_90 (by decide) (fun c_12 => ?_) (fun c_12 => ?_)
      · have fc_12 := eq_f c_12
        have b_13 : bd 1 1 x_2 := eqX fc_12 (bdT x_2) kb_1 (by decide)
        subst hQ
        exact W.vret hx hb hr (fun t ht hW => ⟨⟨_, rfl, ⟨y0_, (bd_sub by0_ (by decide)), (g.fcts [7] rfl)⟩, q3_of g hK ht hW⟩, g.2.2.1.F ht⟩) g.2.2.1.2.2 dX10_noteCall_99
      · have fc_12 := neq_f c_12
        refine lv_aload_n hx hb dX10_noteCall_93 rfl (lv_at hl 1 rfl) ?_
        refine lv_bipush (v := 8) hx hb dX10_noteCall_94 (by decide) ?_
        have kb_8 : bd 8 8 (8 : Int32) := ⟨by decide, by decide⟩
        refine g_put (C := RX4) (T := TX4) (N := 17) hx hb hts (mc_ inX4) tyX4 tyX4_ok nmX4 hown hK g ma1_ ka1_ (by decide) rfl 0 (by decide) (hts _ (List.mem_cons_of_mem _ t_837)) (fun _ h9 => h9) rfl rfl (okV_i (bd_sub kb_8 (by decide))) rfl rfl (by decide) (Or.inr (Or.inl (by decide))) (fx' := [(4, 12, a1_, .ref a_9), (4, 13, a1_, .ref a_6), (4, 16, a1_, .int x_4), (1, 16, a_1, .int x_4), (4, 15, a1_, .int x_2), (1, 15, a_1, .int x_2), (10, 1, a0_, .ref a_1), (4, 6, a1_, .int y1_), (4, 14, a1_, .int y2_)]) rfl dX10_noteCall_96 (fun f H locs hM_14 g => ?_)
        subst hQ
        exact W.vret hx hb hr (fun t ht hW => ⟨⟨_, rfl, ⟨8, (bd_sub kb_8 (by decide)), (g.fcts [0] rfl)⟩, q3_of g hK ht hW⟩, g.2.2.1.F ht⟩) g.2.2.1.2.2 dX10_noteCall_99
    · have fc_11 := eq_f c_11
      have b_15 : bd 2 2 x_2 := eqX fc_11 (bdT x_2) kb_2 (by decide)
      refine lv_aload_n hx hb dX10_noteCall_68 rfl (lv_at hl 1 rfl) ?_
      refine lv_aload_n hx hb dX10_noteCall_69 rfl (lv_at hl 0 rfl) ?_
      refine g_getk (C := RX10) (T := TX10) (N := 10) hx hb hts (mc_ inX10) hown hK g rfl 1 (by decide) rfl (hts _ (List.mem_cons_of_mem _ t_913)) (fun _ h9 => h9) 6 rfl dX10_noteCall_70 ?_
      refine g_getl (C := RX1) (T := TX1) (N := 18) hx hb hts (mc_ inX1) hown hK g ma_1 ka_1 (by decide) rfl 17 (by decide) rfl (hts _ (List.mem_cons_of_mem _ t_755)) (fun _ h9 => h9) rfl dX10_noteCall_73 (fun x_16 g => ?_)
      refine g_put (C := RX4) (T := TX4) (N := 17) hx hb hts (mc_ inX4) tyX4 tyX4_ok nmX4 hown hK g ma1_ ka1_ (by decide) rfl 5 (by decide) (hts _ (List.mem_cons_of_mem _ t_848)) (fun _ h9 => h9) rfl rfl okV_l rfl rfl (by decide) (Or.inr (Or.inl (by decide))) (fx' := [(1, 17, a_1, .long x_16), (4, 12, a1_, .ref a_9), (4, 13, a1_, .ref a_6), (4, 16, a1_, .int x_4), (1, 16, a_1, .int x_4), (4, 15, a1_, .int x_2), (1, 15, a_1, .int x_2), (10, 1, a0_, .ref a_1), (4, 0, a1_, .int y0_), (4, 6, a1_, .int y1_), (4, 14, a1_, .int y2_)]) rfl dX10_noteCall_76 (fun f H locs hM_17 g => ?_)
      refine lv_goto (tgt := 99) hx hb dX10_noteCall_79 (by decide) ?_
      subst hQ
      exact W.vret hx hb hr (fun t ht hW => ⟨⟨_, rfl, ⟨y0_, (bd_sub by0_ (by decide)), (g.fcts [9] rfl)⟩, q3_of g hK ht hW⟩, g.2.2.1.F ht⟩) g.2.2.1.2.2 dX10_noteCall_99
  · have fc_7 := eq_f c_7
    have b_18 : bd 1 1 x_2 := eqX fc_7 (bdT x_2) kb_1 (by decide)
    refine lv_iconst (v := 1) hx hb dX10_noteCall_38 (by decide) ?_
    refine lv_goto (tgt := 43) hx hb dX10_noteCall_39 (by decide) ?_
    refine g_iast hx hb hK g ma_6 ka_6 (by decide) rfl (in_bd bx2_ (by decide)) (bd_sub kb_1 (by decide)) (by decide) dX10_noteCall_43 (fun f H locs hM_19 g => ?_)
    refine lv_aload_n hx hb dX10_noteCall_44 rfl (lv_at hl 1 rfl) ?_
    refine g_getr (K := 130) (C := RX4) (T := TX4) (N := 17) hx hb hts (mc_ inX4) hown hK g ma1_ ka1_ (by decide) rfl 12 (by decide) rfl (hts _ (List.mem_cons_of_mem _ t_868)) (fun _ h9 => h9) rfl dX10_noteCall_45 (fun a_20 ma_20 ka_20 g => ?_)
    refine lv_iload_n hx hb dX10_noteCall_48 rfl (lv_at hl 2 rfl) ?_
    refine lv_aload_n hx hb dX10_noteCall_49 rfl (lv_at hl 0 rfl) ?_
    refine g_getk (C := RX10) (T := TX10) (N := 10) hx hb hts (mc_ inX10) hown hK g rfl 1 (by decide) rfl (hts _ (List.mem_cons_of_mem _ t_913)) (fun _ h9 => h9) 6 rfl dX10_noteCall_50 ?_
    refine g_getk (C := RX1) (T := TX1) (N := 18) hx hb hts (mc_ inX1) hown hK g rfl 16 (by decide) rfl (hts _ (List.mem_cons_of_mem _ t_753)) (fun _ h9 => h9) 3 rfl dX10_noteCall_53 ?_
    refine g_iast hx hb hK g ma_20 ka_20 (by decide) rfl (in_bd bx2_ (by decide)) (bdT x_4) (by decide) dX10_noteCall_56 (fun f H locs hM_21 g => ?_)
    refine lv_aload_n hx hb dX10_noteCall_57 rfl (lv_at hl 0 rfl) ?_
    refine g_getk (C := RX10) (T := TX10) (N := 10) hx hb hts (mc_ inX10) hown hK g rfl 1 (by decide) rfl (hts _ (List.mem_cons_of_mem _ t_913)) (fun _ h9 => h9) 6 rfl dX10_noteCall_58 ?_
    refine g_getk (C := RX1) (T := TX1) (N := 18) hx hb hts (mc_ inX1) hown hK g rfl 15 (by decide) rfl (hts _ (List.mem_cons_of_mem _ t_751)) (fun _ h9 => h9) 5 rfl dX10_noteCall_61 ?_
    refine lv_iconst (v := 2) hx hb dX10_noteCall_64 (by decide) ?_
    have kb_2 : bd 2 2 (2 : Int32) := ⟨by decide, by decide⟩
    refine lv_icmp_ne (tgt := 82) hx hb dX10_noteCall_65 (by decide) (fun c_22 => ?_) (fun c_22 => ?_)
    · have fc_22 := neq_f c_22
      refine lv_aload_n hx hb dX10_noteCall_82 rfl (lv_at hl 0 rfl) ?_
      refine g_getk (C := RX10) (T := TX10) (N := 10) hx hb hts (mc_ inX10) hown hK g rfl 1 (by decide) rfl (hts _ (List.mem_cons_of_mem _ t_913)) (fun _ h9 => h9) 6 rfl dX10_noteCall_83 ?_
      refine g_getk (C := RX1) (T := TX1) (N := 18) hx hb hts (mc_ inX1) hown hK g rfl 15 (by decide) rfl (hts _ (List.mem_cons_of_mem _ t_751)) (fun _ h9 => h9) 5 rfl dX10_noteCall_86 ?_
      refine lv_iconst (v := 1) hx hb dX10_noteCall_89 (by decide) ?_
      refine lv_icmp_eq (tgt := 99) hx hb dX10_noteCall_90 (by decide) (fun c_23 => ?_) (fun c_23 => ?_)
      · have fc_23 := eq_f c_23
        subst hQ
        exact W.vret hx hb hr (fun t ht hW => ⟨⟨_, rfl, ⟨y0_, (bd_sub by0_ (by decide)), (g.fcts [7] rfl)⟩, q3_of g hK ht hW⟩, g.2.2.1.F ht⟩) g.2.2.1.2.2 dX10_noteCall_99
      · have fc_23 := neq_f c_23
        have b_24 : bd 2 0 x_2 := neX fc_23 b_18 kb_1 (by decide)
        exact bd_no b_24 (by decide)
    · have fc_22 := eq_f c_22
      have b_25 : bd 2 1 x_2 := eqX fc_22 b_18 kb_2 (by decide)
      exact bd_no b_25 (by decide)
