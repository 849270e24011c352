set_option maxHeartbeats 4000000 in
set_option maxRecDepth 100000 in
theorem r_X14_keepRow (l : Launch) (dC : Nat → ClassId) (dI : Nat → Nat → Nat) (L : List Nat) (kd : Nat → Nat) (tys : List (ClassId × FieldType)) (f0 : Nat → va_E) (sz : Nat) (hWT : WT L kd tys f0) (a0_ : Nat) (ma0_ : a0_ ∈ L) (ka0_ : kd a0_ = 14) (q0_ : Nat) (mq0_ : q0_ ∈ L) (kq0_ : kd q0_ = 12) (r_ : Int32) (br_ : bd 0 10 r_) (k_ : Int32) (bk_ : bd 0 3 k_) (V_ : PV) (δ_ : Nat → Nat) (hW : wfP V_ δ_) (RW_ : RW) (hGWa0_ : isW f0 a0_ RW_) (hGVq0_ : isV f0 q0_ V_) (hrw : rwOK V_ RW_ r_ k_) (hfx : Fs L kd f0 [(14, 1, a0_, .ref q0_), (14, 51, a0_, .int r_), (14, 52, a0_, .int k_)]) : Met l yX14_keepRow (.code yX14_keepRow cX14_keepRow 2 none :: lw_g) ({ frames := 0, cells := 0, slots := 0, locals := 0 }) (va_Pc [.ref a0_] (P3 (dC, dI) L tys f0 sz)) (va_Qv (fun (f : Nat → va_E) => ((isT f a0_ RW_) ∧ Fs L kd f [(14, 65, a0_, .int r_), (14, 66, a0_, .int k_)])) (Q3 (dC, dI) L kd tys [(14, 65), (14, 66)] [230, 231, 232] f0 sz) (pA L sz)) 0 0 (pA L sz) := by
  refine Met.ofW (cc := cX14_keepRow) (maxL := 2) (ret := none) (by decide) rfl ?_
  intro p e s m args below meth c s₁ B hml hv
  obtain ⟨rfl, hsz, hP, hK, hD0⟩ := hv
  have hx := B.exec
  have hb := B.bytes
  have hr := B.returns
  have hts := atoms_spec (ws := (.code yX14_keepRow cX14_keepRow 2 none :: lw_g)) B.pre
  have hown : s.vm.findClass RX14 = some m.cls := findClass_of_methodNamed B.named
  have hlocks := B.notSynchronized
  subst hsz
  have g : G3 (dC, dI) L kd tys s f0 [(14, 65), (14, 66)] [230, 231, 232] f0 s.heap [] [(14, 1, a0_, .ref q0_), (14, 51, a0_, .int r_), (14, 52, a0_, .int k_)] := G3.start hP hD0 hWT hfx
  have hl := lv_entry ([.ref a0_]) (n := 2) (Nat.le_of_ble_eq_true rfl)
  rw [lg_entry_eq]
  generalize (lg_sl ([.ref a0_]) ++ List.replicate (2 - (lg_sl ([.ref a0_])).length) Slot.unset).toArray = ls at hl ⊢
  have hl : lv_has ls 2 [(0, .ref a0_)] := hl
  refine W_q (fun Q hQ => ?_)
  refine lv_iconst (v := 0) hx hb dX14_keepRow_0 (by decide) ?_
  refine lv_istore_n (lv' := [(1, .int 0), (0, .ref a0_)]) hx hb dX14_keepRow_1 rfl hl (by decide) rfl (fun ls hl => ?_)
  have loop_1 : ∀ (n : Nat) (v2_1 : Int32), bd 0 10 v2_1 → (10 - v2_1.toInt < (n : Int)) → ∀ (f : Nat → va_E) (H : Heap) (locs : List Loc) (ls : Array Slot), G3 (dC, dI) L kd tys s f0 [(14, 65), (14, 66)] [230, 231, 232] f H locs [(14, 1, a0_, .ref q0_), (14, 51, a0_, .int r_), (14, 52, a0_, .int k_)] → isW f a0_ RW_ → isV f q0_ V_ → (cp2 f a0_ RW_ v2_1.toInt) → lv_has ls 2 [(1, .int v2_1), (0, .ref a0_)] → W p l e ({ frames := 0, cells := 0, slots := 0, locals := 0 } : Room) s m [.ref a0_].toArray below meth c H locs 0 0 Q (F0 m 2 ls []) := by
    intro n2
    induction n2 with
    | zero =>
      intro v2_1 bv2_1 hm2 f H locs ls g hG2_W_a0_ hG2_V_q0_ hI2 hl
      exact absurd hm2 (by have h9_v2_1 := bv2_1; unfold bd at h9_v2_1; omega)
    | succ n2 ih2 =>
      intro v2_1 bv2_1 hm2 f H locs ls g hG2_W_a0_ hG2_V_q0_ hI2 hl
      refine lv_iload_n hx hb dX14_keepRow_2 rfl (lv_at hl 0 rfl) ?_
      refine lv_bipush (v := 10) hx hb dX14_keepRow_3 (by decide) ?_
      have kb_10 : bd 10 10 (10 : Int32) := ⟨by decide, by decide⟩
      refine lv_icmp_ge (tgt := 38) hx hb dX14_keepRow_5 (by decide) (fun c_2 => ?_) (fun c_2 => ?_)
      · have fc_2 := le_f c_2
        have b_3 : bd 10 10 v2_1 := leR fc_2 kb_10 bv2_1 (by decide)
        refine lv_iconst (v := 0) hx hb dX14_keepRow_38 (by decide) ?_
        refine lv_istore_n (lv' := [(1, .int 0), (0, .ref a0_)]) hx hb dX14_keepRow_39 rfl hl (by decide) rfl (fun ls hl => ?_)
        have loop_4 : ∀ (n : Nat) (v40_1 : Int32), bd 0 30 v40_1 → (30 - v40_1.toInt < (n : Int)) → ∀ (f : Nat → va_E) (H : Heap) (locs : List Loc) (ls : Array Slot), G3 (dC, dI) L kd tys s f0 [(14, 65), (14, 66)] [230, 231, 232] f H locs [(14, 1, a0_, .ref q0_), (14, 51, a0_, .int r_), (14, 52, a0_, .int k_)] → isW f a0_ RW_ → isV f q0_ V_ → cp2 f a0_ RW_ 10 → (cp3 f a0_ RW_ v40_1.toInt) → lv_has ls 2 [(1, .int v40_1), (0, .ref a0_)] → W p l e ({ frames := 0, cells := 0, slots := 0, locals := 0 } : Room) s m [.ref a0_].toArray below meth c H locs 0 0 Q (F0 m 40 ls []) := by
          intro n40
          induction n40 with
          | zero =>
            intro v40_1 bv40_1 hm40 f H locs ls g hG40_W_a0_ hG40_V_q0_ hG40_p_a0_ hI40 hl
            exact absurd hm40 (by have h9_v40_1 := bv40_1; unfold bd at h9_v40_1; omega)
          | succ n40 ih40 =>
            intro v40_1 bv40_1 hm40 f H locs ls g hG40_W_a0_ hG40_V_q0_ hG40_p_a0_ hI40 hl
            refine lv_iload_n hx hb dX14_keepRow_40 rfl (lv_at hl 0 rfl) ?_
            refine lv_bipush (v := 30) hx hb dX14_keepRow_41 (by decide) ?_
            have kb_30 : bd 30 30 (30 : Int32) := ⟨by decide, by decide⟩
            refine lv_icmp_ge (tgt := 64) hx hb dX14_keepRow_43 (by decide) (fun c_5 => ?_) (fun c_5 => ?_)
            · have fc_5 := le_f c_5
              have b_6 : bd 30 30 v40_1 := leR fc_5 kb_30 bv40_1 (by decide)
              refine lv_aload_n hx hb dX14_keepRow_64 rfl (lv_at hl 1 rfl) ?_
              refine lv_aload_n hx hb dX14_keepRow_65 rfl (lv_at hl 1 rfl) ?_
              refine g_getk (C := RX14) (T := TX14) (N := 67) hx hb hts (mc_ inX14) hown hK g rfl 51 (by decide) rfl (hts _ (List.mem_cons_of_mem _ t_2197)) (fun _ h9 => h9) 1 rfl dX14_keepRow_66 ?_
              have hc3_7 := cp3.to (n := 30) hI40 (by have h9 := b_6; unfold bd at h9; omega)
              have go_ := g
              refine g_put (C := RX14) (T := TX14) (N := 67) hx hb hts (mc_ inX14) tyX14 tyX14_ok nmX14 hown hK g ma0_ ka0_ (by decide) rfl 65 (by decide) (hts _ (List.mem_cons_of_mem _ t_2211)) (fun _ h9 => h9) rfl rfl (okV_i br_) rfl rfl (by decide) (Or.inr (Or.inl (by decide))) (fx' := [(14, 1, a0_, .ref q0_), (14, 51, a0_, .int r_), (14, 52, a0_, .int k_)]) rfl dX14_keepRow_69 (fun f H locs hM_8 g => ?_)
              have hG_9 := isW.frame hM_8 go_.2.2.2.1 ma0_ ka0_ (by decide) (by decide) hG40_W_a0_
              have hG_10 := isV.frame hM_8 go_.2.2.2.1 mq0_ kq0_ (by decide) (by decide) hG40_V_q0_
              have hG_11 := cp2.frame hM_8 go_.2.2.2.1 ma0_ ka0_ (by decide) (by decide) hG40_p_a0_
              have hG_12 := cp3.frame hM_8 go_.2.2.2.1 ma0_ ka0_ (by decide) (by decide) hc3_7
              refine lv_aload_n hx hb dX14_keepRow_72 rfl (lv_at hl 1 rfl) ?_
              refine lv_aload_n hx hb dX14_keepRow_73 rfl (lv_at hl 1 rfl) ?_
              refine g_getk (C := RX14) (T := TX14) (N := 67) hx hb hts (mc_ inX14) hown hK g rfl 52 (by decide) rfl (hts _ (List.mem_cons_of_mem _ t_2198)) (fun _ h9 => h9) 3 rfl dX14_keepRow_74 ?_
              have go_ := g
              refine g_put (C := RX14) (T := TX14) (N := 67) hx hb hts (mc_ inX14) tyX14 tyX14_ok nmX14 hown hK g ma0_ ka0_ (by decide) rfl 66 (by decide) (hts _ (List.mem_cons_of_mem _ t_2212)) (fun _ h9 => h9) rfl rfl (okV_i bk_) rfl rfl (by decide) (Or.inr (Or.inl (by decide))) (fx' := [(14, 65, a0_, .int r_), (14, 1, a0_, .ref q0_), (14, 51, a0_, .int r_), (14, 52, a0_, .int k_)]) rfl dX14_keepRow_77 (fun f H locs hM_13 g => ?_)
              have hG_14 := isW.frame hM_13 go_.2.2.2.1 ma0_ ka0_ (by decide) (by decide) hG_9
              have hG_15 := isV.frame hM_13 go_.2.2.2.1 mq0_ kq0_ (by decide) (by decide) hG_10
              have hG_16 := cp2.frame hM_13 go_.2.2.2.1 ma0_ ka0_ (by decide) (by decide) hG_11
              have hG_17 := cp3.frame hM_13 go_.2.2.2.1 ma0_ ka0_ (by decide) (by decide) hG_12
              subst hQ
              exact W.vret hx hb hr (fun t ht hW => ⟨⟨_, rfl, ⟨⟨hG_16, hG_17⟩, (g.fcts [1, 0] rfl)⟩, q3_of g hK ht hW⟩, g.2.2.1.F ht⟩) g.2.2.1.2.2 dX14_keepRow_80
            · have fc_5 := nle_f c_5
              have b_18 : bd 0 29 v40_1 := ltL fc_5 bv40_1 kb_30 (by decide)
              refine lv_aload_n hx hb dX14_keepRow_46 rfl (lv_at hl 1 rfl) ?_
              refine g_getr (K := 232) (C := RX14) (T := TX14) (N := 67) hx hb hts (mc_ inX14) hown hK g ma0_ ka0_ (by decide) rfl 64 (by decide) rfl (hts _ (List.mem_cons_of_mem _ t_2210)) (fun _ h9 => h9) rfl dX14_keepRow_47 (fun a_19 ma_19 ka_19 g => ?_)
              refine lv_iload_n hx hb dX14_keepRow_50 rfl (lv_at hl 0 rfl) ?_
              refine lv_aload_n hx hb dX14_keepRow_51 rfl (lv_at hl 1 rfl) ?_
              refine g_getr (K := 224) (C := RX14) (T := TX14) (N := 67) hx hb hts (mc_ inX14) hown hK g ma0_ ka0_ (by decide) rfl 48 (by decide) rfl (hts _ (List.mem_cons_of_mem _ t_2194)) (fun _ h9 => h9) rfl dX14_keepRow_52 (fun a_20 ma_20 ka_20 g => ?_)
              refine lv_iload_n hx hb dX14_keepRow_55 rfl (lv_at hl 0 rfl) ?_
              refine g_iald hx hb hK g ma_20 ka_20 (by decide) rfl (in_bd b_18 (by decide)) dX14_keepRow_56 (fun x_21 bx_21 cx_21 => ?_)
              have vx_21 := hG40_W_a0_.at48 g 0 rfl cx_21
              have gk_22 := g
              have go_ := g
              refine g_iastX hx hb hK g ma_19 ka_19 (by decide) rfl (in_bd b_18 (by decide)) (bdT x_21) (by decide) dX14_keepRow_57 (fun f H locs hM_23 u_27 g => ?_)
              have hG_24 := isW.frame hM_23 go_.2.2.2.1 ma0_ ka0_ (by decide) (by decide) hG40_W_a0_
              have hG_25 := isV.frame hM_23 go_.2.2.2.1 mq0_ kq0_ (by decide) (by decide) hG40_V_q0_
              have hG_26 := cp2.frame hM_23 go_.2.2.2.1 ma0_ ka0_ (by decide) (by decide) hG40_p_a0_
              have kb_1 : bd 1 1 (1 : Int32) := ⟨by decide, by decide⟩
              obtain ⟨y_28, ey_28⟩ : ∃ z : Int32, z = v40_1 + 1 := ⟨_, rfl⟩
              refine lv_iinc (v := y_28) (lv' := [(1, .int y_28), (0, .ref a0_)]) hx hb dX14_keepRow_58 hl (k := 0) rfl (by rw [ey_28]; rfl) (by decide) rfl (fun ls hl => ?_)
              have ty_28 := add_bd ey_28 b_18 kb_1 (by decide)
              have b_29 : bd 1 30 y_28 := add_rg ty_28 b_18 kb_1 (by decide)
              refine lv_goto (tgt := 40) hx hb dX14_keepRow_61 (by decide) ?_
              have hl9 := lv_sub hl [0, 1] (by rfl : lv_pick [(1, .int y_28), (0, .ref a0_)] [0, 1] = [(1, .int y_28), (0, .ref a0_)])
              have g9 := g.sub (fx' := [(14, 1, a0_, .ref q0_), (14, 51, a0_, .int r_), (14, 52, a0_, .int k_)]) [2, 3, 4] rfl
              exact ih40  y_28 (bd_sub b_29 (by decide)) (by have h9_0 := b_29; unfold bd at h9_0; have h9_1 := bv40_1; unfold bd at h9_1; have h9_2 := kb_1; unfold bd at h9_2; have h9_3 := kb_10; unfold bd at h9_3; have h9_4 := kb_30; unfold bd at h9_4; omega) _ _ _ _ g9 hG_24 hG_25 hG_26 (cp3.step hI40 ka0_ (fx_at gk_22 (i := 1) rfl).2.2.2 ka_19 u_27 vx_21 b_18.1 (by have h9_0 := bk_; unfold bd at h9_0; have h9_1 := br_; unfold bd at h9_1; have h9_2 := b_3; unfold bd at h9_2; have h9_3 := b_18; unfold bd at h9_3; have h9_4 := b_29; unfold bd at h9_4; have h8_0 := kb_1; unfold bd at h8_0; have h8_1 := kb_10; unfold bd at h8_1; have h8_2 := kb_30; unfold bd at h8_2; omega)) hl9
        have kb_0 : bd 0 0 (0 : Int32) := ⟨by decide, by decide⟩
        have hl9 := lv_sub hl [0, 1] (by rfl : lv_pick [(1, .int 0), (0, .ref a0_)] [0, 1] = [(1, .int 0), (0, .ref a0_)])
        have g9 := g.sub (fx' := [(14, 1, a0_, .ref q0_), (14, 51, a0_, .int r_), (14, 52, a0_, .int k_)]) [0, 1, 2] rfl
        exact loop_4 (63) 0 (bd_sub kb_0 (by decide)) (by have h9_0 := kb_0; unfold bd at h9_0; have h9_1 := kb_10; unfold bd at h9_1; omega) _ _ _ _ g9 hG2_W_a0_ hG2_V_q0_ (cp2.to hI2 (by have h9 := b_3; unfold bd at h9; omega)) cp3.z hl9
      · have fc_2 := nle_f c_2
        have b_30 : bd 0 9 v2_1 := ltL fc_2 bv2_1 kb_10 (by decide)
        refine lv_aload_n hx hb dX14_keepRow_8 rfl (lv_at hl 1 rfl) ?_
        refine g_getr (K := 230) (C := RX14) (T := TX14) (N := 67) hx hb hts (mc_ inX14) hown hK g ma0_ ka0_ (by decide) rfl 62 (by decide) rfl (hts _ (List.mem_cons_of_mem _ t_2208)) (fun _ h9 => h9) rfl dX14_keepRow_9 (fun a_31 ma_31 ka_31 g => ?_)
        refine lv_iload_n hx hb dX14_keepRow_12 rfl (lv_at hl 0 rfl) ?_
        refine lv_aload_n hx hb dX14_keepRow_13 rfl (lv_at hl 1 rfl) ?_
        refine g_getr (K := 222) (C := RX14) (T := TX14) (N := 67) hx hb hts (mc_ inX14) hown hK g ma0_ ka0_ (by decide) rfl 46 (by decide) rfl (hts _ (List.mem_cons_of_mem _ t_2192)) (fun _ h9 => h9) rfl dX14_keepRow_14 (fun a_32 ma_32 ka_32 g => ?_)
        refine lv_iload_n hx hb dX14_keepRow_17 rfl (lv_at hl 0 rfl) ?_
        refine g_iald hx hb hK g ma_32 ka_32 (by decide) rfl (in_bd b_30 (by decide)) dX14_keepRow_18 (fun x_33 bx_33 cx_33 => ?_)
        have vx_33 := hG2_W_a0_.at46 g 0 rfl cx_33
        have gk_34 := g
        have go_ := g
        refine g_iastX hx hb hK g ma_31 ka_31 (by decide) rfl (in_bd b_30 (by decide)) bx_33 (by decide) dX14_keepRow_19 (fun f H locs hM_35 u_38 g => ?_)
        have hG_36 := isW.frame hM_35 go_.2.2.2.1 ma0_ ka0_ (by decide) (by decide) hG2_W_a0_
        have hG_37 := isV.frame hM_35 go_.2.2.2.1 mq0_ kq0_ (by decide) (by decide) hG2_V_q0_
        refine lv_aload_n hx hb dX14_keepRow_20 rfl (lv_at hl 1 rfl) ?_
        refine g_getr (K := 231) (C := RX14) (T := TX14) (N := 67) hx hb hts (mc_ inX14) hown hK g ma0_ ka0_ (by decide) rfl 63 (by decide) rfl (hts _ (List.mem_cons_of_mem _ t_2209)) (fun _ h9 => h9) rfl dX14_keepRow_21 (fun a_39 ma_39 ka_39 g => ?_)
        refine lv_iload_n hx hb dX14_keepRow_24 rfl (lv_at hl 0 rfl) ?_
        refine lv_aload_n hx hb dX14_keepRow_25 rfl (lv_at hl 1 rfl) ?_
        refine g_getr (K := 223) (C := RX14) (T := TX14) (N := 67) hx hb hts (mc_ inX14) hown hK g ma0_ ka0_ (by decide) rfl 47 (by decide) rfl (hts _ (List.mem_cons_of_mem _ t_2193)) (fun _ h9 => h9) rfl dX14_keepRow_26 (fun a_40 ma_40 ka_40 g => ?_)
        refine lv_iload_n hx hb dX14_keepRow_29 rfl (lv_at hl 0 rfl) ?_
        refine g_iald hx hb hK g ma_40 ka_40 (by decide) rfl (in_bd b_30 (by decide)) dX14_keepRow_30 (fun x_41 bx_41 cx_41 => ?_)
        have vx_41 := hG_36.at47 g 0 rfl cx_41
        have gk_42 := g
        have go_ := g
        refine g_iastX hx hb hK g ma_39 ka_39 (by decide) rfl (in_bd b_30 (by decide)) bx_41 (by decide) dX14_keepRow_31 (fun f H locs hM_43 u_46 g => ?_)
        have hG_44 := isW.frame hM_43 go_.2.2.2.1 ma0_ ka0_ (by decide) (by decide) hG_36
        have hG_45 := isV.frame hM_43 go_.2.2.2.1 mq0_ kq0_ (by decide) (by decide) hG_37
        have kb_1 : bd 1 1 (1 : Int32) := ⟨by decide, by decide⟩
        obtain ⟨y_47, ey_47⟩ : ∃ z : Int32, z = v2_1 + 1 := ⟨_, rfl⟩
        refine lv_iinc (v := y_47) (lv' := [(1, .int y_47), (0, .ref a0_)]) hx hb dX14_keepRow_32 hl (k := 0) rfl (by rw [ey_47]; rfl) (by decide) rfl (fun ls hl => ?_)
        have ty_47 := add_bd ey_47 b_30 kb_1 (by decide)
        have b_48 : bd 1 10 y_47 := add_rg ty_47 b_30 kb_1 (by decide)
        refine lv_goto (tgt := 2) hx hb dX14_keepRow_35 (by decide) ?_
        have hl9 := lv_sub hl [0, 1] (by rfl : lv_pick [(1, .int y_47), (0, .ref a0_)] [0, 1] = [(1, .int y_47), (0, .ref a0_)])
        have g9 := g.sub (fx' := [(14, 1, a0_, .ref q0_), (14, 51, a0_, .int r_), (14, 52, a0_, .int k_)]) [4, 5, 6] rfl
        exact ih2  y_47 (bd_sub b_48 (by decide)) (by have h9_0 := b_48; unfold bd at h9_0; have h9_1 := bv2_1; unfold bd at h9_1; have h9_2 := kb_1; unfold bd at h9_2; have h9_3 := kb_10; unfold bd at h9_3; omega) _ _ _ _ g9 hG_44 hG_45 (cp2.step hI2 ka0_ (fx_at gk_34 (i := 1) rfl).2.2.2 (fx_at gk_42 (i := 1) rfl).2.2.2 ka_31 ka_39 u_38 u_46 vx_33 vx_41 b_30.1 (by have h9_0 := bk_; unfold bd at h9_0; have h9_1 := br_; unfold bd at h9_1; have h9_2 := b_30; unfold bd at h9_2; have h9_3 := bx_33; unfold bd at h9_3; have h9_4 := bx_41; unfold bd at h9_4; have h9_5 := b_48; unfold bd at h9_5; have h8_0 := kb_1; unfold bd at h8_0; have h8_1 := kb_10; unfold bd at h8_1; omega)) hl9
  have kb_0 : bd 0 0 (0 : Int32) := ⟨by decide, by decide⟩
  have hl9 := lv_sub hl [0, 1] (by rfl : lv_pick [(1, .int 0), (0, .ref a0_)] [0, 1] = [(1, .int 0), (0, .ref a0_)])
  have g9 := g.sub (fx' := [(14, 1, a0_, .ref q0_), (14, 51, a0_, .int r_), (14, 52, a0_, .int k_)]) [0, 1, 2] rfl
  exact loop_1 (23) 0 (bd_sub kb_0 (by decide)) (by have h9_0 := kb_0; unfold bd at h9_0; omega) _ _ _ _ g9 hGWa0_ hGVq0_ cp2.z hl9
set_option maxHeartbeats 4000000 in
set_option maxRecDepth 100000 in
theorem r_X14_valueOf_4 (l : Launch) (dC : Nat → ClassId) (dI : Nat → Nat → Nat) (L : List Nat) (kd : Nat → Nat) (tys : List (ClassId × FieldType)) (f0 : Nat → va_E) (sz : Nat) (hWT : WT L kd tys f0) (a0_ : Nat) (ma0_ : a0_ ∈ L) (ka0_ : kd a0_ = 14) (x1_ : Int32) (bx1_ : bd 0 109 x1_) (x2_ : Int32) (bx2_ : bd 0 0 x2_) (x3_ : Int32) (bx3_ : bd 0 0 x3_) (y0_ : Int32) (by0_ : bd 1 4 y0_) (y1_ : Int32) (by1_ : bd 1 3 y1_) (hfx : Fs L kd f0 [(14, 51, a0_, .int y0_), (14, 52, a0_, .int y1_)]) : Met l yX14_valueOf (.code yX14_valueOf cX14_valueOf 6 (some .int) :: lw_g) ({ frames := 0, cells := 0, slots := 0, locals := 0 }) (va_Pc [.ref a0_, .int x1_, .int x2_, .int x3_] (P3 (dC, dI) L tys f0 sz)) (va_Qi (fun (r : Int32) (f : Nat → va_E) => (True)) (Q3 (dC, dI) L kd tys [] [] f0 sz) (pA L sz)) 0 0 (pA L sz) := by
  refine Met.ofW (cc := cX14_valueOf) (maxL := 6) (ret := (some .int)) (by decide) rfl ?_
  intro p e s m args below meth c s₁ B hml hv
  obtain ⟨rfl, hsz, hP, hK, hD0⟩ := hv
  have hx := B.exec
  have hb := B.bytes
  have hr := B.returns
  have hts := atoms_spec (ws := (.code yX14_valueOf cX14_valueOf 6 (some .int) :: lw_g)) B.pre
  have hown : s.vm.findClass RX14 = some m.cls := findClass_of_methodNamed B.named
  have hlocks := B.notSynchronized
  subst hsz
  have g : G3 (dC, dI) L kd tys s f0 [] [] f0 s.heap [] [(14, 51, a0_, .int y0_), (14, 52, a0_, .int y1_)] := G3.start hP hD0 hWT hfx
  have hl := lv_entry ([.ref a0_, .int x1_, .int x2_, .int x3_]) (n := 6) (Nat.le_of_ble_eq_true rfl)
  rw [lg_entry_eq]
  generalize (lg_sl ([.ref a0_, .int x1_, .int x2_, .int x3_]) ++ List.replicate (6 - (lg_sl ([.ref a0_, .int x1_, .int x2_, .int x3_])).length) Slot.unset).toArray = ls at hl ⊢
  have hl : lv_has ls 6 [(0, .ref a0_), (1, .int x1_), (2, .int x2_), (3, .int x3_)] := hl
  refine W_q (fun Q hQ => ?_)
  refine lv_aload_n hx hb dX14_valueOf_0 rfl (lv_at hl 0 rfl) ?_
  refine g_getr (K := 12) (C := RX14) (T := TX14) (N := 67) hx hb hts (mc_ inX14) hown hK g ma0_ ka0_ (by decide) rfl 1 (by decide) rfl (hts _ (List.mem_cons_of_mem _ t_2147)) (fun _ h9 => h9) rfl dX14_valueOf_1 (fun a_1 ma_1 ka_1 g => ?_)
  refine g_getr (K := 176) (C := RX12) (T := TX12) (N := 60) hx hb hts (mc_ inX12) hown hK g ma_1 ka_1 (by decide) rfl 20 (by decide) rfl (hts _ (List.mem_cons_of_mem _ t_1946)) (fun _ h9 => h9) rfl dX14_valueOf_4 (fun a_2 ma_2 ka_2 g => ?_)
  refine lv_iconst (v := 3) hx hb dX14_valueOf_7 (by decide) ?_
  refine lv_iload_n hx hb dX14_valueOf_8 rfl (lv_at hl 1 rfl) ?_
  refine lv_imul hx hb dX14_valueOf_9 ?_
  refine lv_topi (fun y_3 ey_3 => ?_)
  have ty_3 := cmul_bd ey_3 (c := 3) (by decide) bx1_ (by decide)
  have b_4 : bd 0 327 y_3 := mulc_rg ty_3 bx1_ (by decide)
  refine lv_iload_n hx hb dX14_valueOf_10 rfl (lv_at hl 2 rfl) ?_
  refine lv_iadd hx hb dX14_valueOf_11 ?_
  refine lv_topi (fun y_5 ey_5 => ?_)
  have ty_5 := add_bd ey_5 b_4 bx2_ (by decide)
  have b_6 : bd 0 327 y_5 := add_rg ty_5 b_4 bx2_ (by decide)
  refine g_iald hx hb hK g ma_2 ka_2 (by decide) rfl (in_bd b_6 (by decide)) dX14_valueOf_12 (fun x_7 bx_7 cx_7 => ?_)
  refine lv_istore (lv' := [(4, .int x_7), (0, .ref a0_), (1, .int x1_), (2, .int x2_), (3, .int x3_)]) hx hb dX14_valueOf_13 hl (by decide) rfl (fun ls hl => ?_)
  refine lv_aload_n hx hb dX14_valueOf_15 rfl (lv_at hl 1 rfl) ?_
  refine g_getk (C := RX14) (T := TX14) (N := 67) hx hb hts (mc_ inX14) hown hK g rfl 1 (by decide) rfl (hts _ (List.mem_cons_of_mem _ t_2147)) (fun _ h9 => h9) 1 rfl dX14_valueOf_16 ?_
  refine g_getr (K := 177) (C := RX12) (T := TX12) (N := 60) hx hb hts (mc_ inX12) hown hK g ma_1 ka_1 (by decide) rfl 21 (by decide) rfl (hts _ (List.mem_cons_of_mem _ t_1948)) (fun _ h9 => h9) rfl dX14_valueOf_19 (fun a_8 ma_8 ka_8 g => ?_)
  refine lv_iconst (v := 3) hx hb dX14_valueOf_22 (by decide) ?_
  refine lv_iload_n hx hb dX14_valueOf_23 rfl (lv_at hl 2 rfl) ?_
  refine lv_imul hx hb dX14_valueOf_24 ?_
  refine lv_topi (fun y_9 ey_9 => ?_)
  obtain rfl : y_3 = y_9 := ey_3.trans ey_9.symm
  refine lv_iload_n hx hb dX14_valueOf_25 rfl (lv_at hl 3 rfl) ?_
  refine lv_iadd hx hb dX14_valueOf_26 ?_
  refine lv_topi (fun y_10 ey_10 => ?_)
  obtain rfl : y_5 = y_10 := ey_5.trans ey_10.symm
  refine g_iald hx hb hK g ma_8 ka_8 (by decide) rfl (in_bd b_6 (by decide)) dX14_valueOf_27 (fun x_11 bx_11 cx_11 => ?_)
  refine lv_istore (lv' := [(5, .int x_11), (4, .int x_7), (0, .ref a0_), (1, .int x1_), (2, .int x2_), (3, .int x3_)]) hx hb dX14_valueOf_28 hl (by decide) rfl (fun ls hl => ?_)
  refine lv_iload_n hx hb dX14_valueOf_30 rfl (lv_at hl 5 rfl) ?_
  have kb_0 : bd 0 0 (0 : Int32) := ⟨by decide, by decide⟩
  refine lv_if_ne (tgt := 37) hx hb dX14_valueOf_31 (by decide) (fun c_12 => ?_) (fun c_12 => ?_)
  · have fc_12 := neq_f c_12
    have b_13 : bd 1 (-1) x3_ := neX fc_12 bx3_ kb_0 (by decide)
    exact bd_no b_13 (by decide)
  · have fc_12 := eq_f c_12
    refine lv_iload hx hb dX14_valueOf_34 (lv_at hl 1 rfl) ?_
    subst hQ
    exact W.iret (v := x_7) hx hb hr (fun t ht hW => ⟨⟨_, _, rfl, trivial, q3_of g hK ht hW⟩, g.2.2.1.F ht⟩) g.2.2.1.2.2 dX14_valueOf_36
set_option maxHeartbeats 4000000 in
set_option maxRecDepth 100000 in
theorem r_X14_valueOf_5 (l : Launch) (dC : Nat → ClassId) (dI : Nat → Nat → Nat) (L : List Nat) (kd : Nat → Nat) (tys : List (ClassId × FieldType)) (f0 : Nat → va_E) (sz : Nat) (hWT : WT L kd tys f0) (a0_ : Nat) (ma0_ : a0_ ∈ L) (ka0_ : kd a0_ = 14) (x1_ : Int32) (bx1_ : bd 0 109 x1_) (x2_ : Int32) (bx2_ : bd 1 1 x2_) (x3_ : Int32) (bx3_ : bd 0 0 x3_) (y0_ : Int32) (by0_ : bd 1 4 y0_) (y1_ : Int32) (by1_ : bd 1 3 y1_) (hfx : Fs L kd f0 [(14, 51, a0_, .int y0_), (14, 52, a0_, .int y1_)]) : Met l yX14_valueOf (.code yX14_valueOf cX14_valueOf 6 (some .int) :: lw_g) ({ frames := 0, cells := 0, slots := 0, locals := 0 }) (va_Pc [.ref a0_, .int x1_, .int x2_, .int x3_] (P3 (dC, dI) L tys f0 sz)) (va_Qi (fun (r : Int32) (f : Nat → va_E) => (True)) (Q3 (dC, dI) L kd tys [] [] f0 sz) (pA L sz)) 0 0 (pA L sz) := by
  refine Met.ofW (cc := cX14_valueOf) (maxL := 6) (ret := (some .int)) (by decide) rfl ?_
  intro p e s m args below meth c s₁ B hml hv
  obtain ⟨rfl, hsz, hP, hK, hD0⟩ := hv
  have hx := B.exec
  have hb := B.bytes
  have hr := B.returns
  have hts := atoms_spec (ws := (.code yX14_valueOf cX14_valueOf 6 (some .int) :: lw_g)) B.pre
  have hown : s.vm.findClass RX14 = some m.cls := findClass_of_methodNamed B.named
  have hlocks := B.notSynchronized
  subst hsz
  have g : G3 (dC, dI) L kd tys s f0 [] [] f0 s.heap [] [(14, 51, a0_, .int y0_), (14, 52, a0_, .int y1_)] := G3.start hP hD0 hWT hfx
  have hl := lv_entry ([.ref a0_, .int x1_, .int x2_, .int x3_]) (n := 6) (Nat.le_of_ble_eq_true rfl)
  rw [lg_entry_eq]
  generalize (lg_sl ([.ref a0_, .int x1_, .int x2_, .int x3_]) ++ List.replicate (6 - (lg_sl ([.ref a0_, .int x1_, .int x2_, .int x3_])).length) Slot.unset).toArray = ls at hl ⊢
  have hl : lv_has ls 6 [(0, .ref a0_), (1, .int x1_), (2, .int x2_), (3, .int x3_)] := hl
  refine W_q (fun Q hQ => ?_)
  refine lv_aload_n hx hb dX14_valueOf_0 rfl (lv_at hl 0 rfl) ?_
  refine g_getr (K := 12) (C := RX14) (T := TX14) (N := 67) hx hb hts (mc_ inX14) hown hK g ma0_ ka0_ (by decide) rfl 1 (by decide) rfl (hts _ (List.mem_cons_of_mem _ t_2147)) (fun _ h9 => h9) rfl dX14_valueOf_1 (fun a_1 ma_1 ka_1 g => ?_)
  refine g_getr (K := 176) (C := RX12) (T := TX12) (N := 60) hx hb hts (mc_ inX12) hown hK g ma_1 ka_1 (by decide) rfl 20 (by decide) rfl (hts _ (List.mem_cons_of_mem _ t_1946)) (fun _ h9 => h9) rfl dX14_valueOf_4 (fun a_2 ma_2 ka_2 g => ?_)
  refine lv_iconst (v := 3) hx hb dX14_valueOf_7 (by decide) ?_
  refine lv_iload_n hx hb dX14_valueOf_8 rfl (lv_at hl 1 rfl) ?_
  refine lv_imul hx hb dX14_valueOf_9 ?_
  refine lv_topi (fun y_3 ey_3 => ?_)
  have ty_3 := cmul_bd ey_3 (c := 3) (by decide) bx1_ (by decide)
  have b_4 : bd 0 327 y_3 := mulc_rg ty_3 bx1_ (by decide)
  refine lv_iload_n hx hb dX14_valueOf_10 rfl (lv_at hl 2 rfl) ?_
  refine lv_iadd hx hb dX14_valueOf_11 ?_
  refine lv_topi (fun y_5 ey_5 => ?_)
  have ty_5 := add_bd ey_5 b_4 bx2_ (by decide)
  have b_6 : bd 1 328 y_5 := add_rg ty_5 b_4 bx2_ (by decide)
  refine g_iald hx hb hK g ma_2 ka_2 (by decide) rfl (in_bd b_6 (by decide)) dX14_valueOf_12 (fun x_7 bx_7 cx_7 => ?_)
  refine lv_istore (lv' := [(4, .int x_7), (0, .ref a0_), (1, .int x1_), (2, .int x2_), (3, .int x3_)]) hx hb dX14_valueOf_13 hl (by decide) rfl (fun ls hl => ?_)
  refine lv_aload_n hx hb dX14_valueOf_15 rfl (lv_at hl 1 rfl) ?_
  refine g_getk (C := RX14) (T := TX14) (N := 67) hx hb hts (mc_ inX14) hown hK g rfl 1 (by decide) rfl (hts _ (List.mem_cons_of_mem _ t_2147)) (fun _ h9 => h9) 1 rfl dX14_valueOf_16 ?_
  refine g_getr (K := 177) (C := RX12) (T := TX12) (N := 60) hx hb hts (mc_ inX12) hown hK g ma_1 ka_1 (by decide) rfl 21 (by decide) rfl (hts _ (List.mem_cons_of_mem _ t_1948)) (fun _ h9 => h9) rfl dX14_valueOf_19 (fun a_8 ma_8 ka_8 g => ?_)
  refine lv_iconst (v := 3) hx hb dX14_valueOf_22 (by decide) ?_
  refine lv_iload_n hx hb dX14_valueOf_23 rfl (lv_at hl 2 rfl) ?_
  refine lv_imul hx hb dX14_valueOf_24 ?_
  refine lv_topi (fun y_9 ey_9 => ?_)
  obtain rfl : y_3 = y_9 := ey_3.trans ey_9.symm
  refine lv_iload_n hx hb dX14_valueOf_25 rfl (lv_at hl 3 rfl) ?_
  refine lv_iadd hx hb dX14_valueOf_26 ?_
  refine lv_topi (fun y_10 ey_10 => ?_)
  obtain rfl : y_5 = y_10 := ey_5.trans ey_10.symm
  refine g_iald hx hb hK g ma_8 ka_8 (by decide) rfl (in_bd b_6 (by decide)) dX14_valueOf_27 (fun x_11 bx_11 cx_11 => ?_)
  refine lv_istore (lv' := [(5, .int x_11), (4, .int x_7), (0, .ref a0_), (1, .int x1_), (2, .int x2_), (3, .int x3_)]) hx hb dX14_valueOf_28 hl (by decide) rfl (fun ls hl => ?_)
  refine lv_iload_n hx hb dX14_valueOf_30 rfl (lv_at hl 5 rfl) ?_
  have kb_0 : bd 0 0 (0 : Int32) := ⟨by decide, by decide⟩
  refine lv_if_ne (tgt := 37) hx hb dX14_valueOf_31 (by decide) (fun c_12 => ?_) (fun c_12 => ?_)
  · have fc_12 := neq_f c_12
    have b_13 : bd 1 (-1) x3_ := neX fc_12 bx3_ kb_0 (by decide)
    exact bd_no b_13 (by decide)
  · have fc_12 := eq_f c_12
    refine lv_iload hx hb dX14_valueOf_34 (lv_at hl 1 rfl) ?_
    subst hQ
    exact W.iret (v := x_7) hx hb hr (fun t ht hW => ⟨⟨_, _, rfl, trivial, q3_of g hK ht hW⟩, g.2.2.1.F ht⟩) g.2.2.1.2.2 dX14_valueOf_36
set_option maxHeartbeats 4000000 in
set_option maxRecDepth 100000 in
theorem r_X14_valueOf_6 (l : Launch) (dC : Nat → ClassId) (dI : Nat → Nat → Nat) (L : List Nat) (kd : Nat → Nat) (tys : List (ClassId × FieldType)) (f0 : Nat → va_E) (sz : Nat) (hWT : WT L kd tys f0) (a0_ : Nat) (ma0_ : a0_ ∈ L) (ka0_ : kd a0_ = 14) (x1_ : Int32) (bx1_ : bd 0 109 x1_) (x2_ : Int32) (bx2_ : bd 2 2 x2_) (x3_ : Int32) (bx3_ : bd 0 0 x3_) (y0_ : Int32) (by0_ : bd 1 4 y0_) (y1_ : Int32) (by1_ : bd 1 3 y1_) (hfx : Fs L kd f0 [(14, 51, a0_, .int y0_), (14, 52, a0_, .int y1_)]) : Met l yX14_valueOf (.code yX14_valueOf cX14_valueOf 6 (some .int) :: lw_g) ({ frames := 0, cells := 0, slots := 0, locals := 0 }) (va_Pc [.ref a0_, .int x1_, .int x2_, .int x3_] (P3 (dC, dI) L tys f0 sz)) (va_Qi (fun (r : Int32) (f : Nat → va_E) => (True)) (Q3 (dC, dI) L kd tys [] [] f0 sz) (pA L sz)) 0 0 (pA L sz) := by
  refine Met.ofW (cc := cX14_valueOf) (maxL := 6) (ret := (some .int)) (by decide) rfl ?_
  intro p e s m args below meth c s₁ B hml hv
  obtain ⟨rfl, hsz, hP, hK, hD0⟩ := hv
  have hx := B.exec
  have hb := B.bytes
  have hr := B.returns
  have hts := atoms_spec (ws := (.code yX14_valueOf cX14_valueOf 6 (some .int) :: lw_g)) B.pre
  have hown : s.vm.findClass RX14 = some m.cls := findClass_of_methodNamed B.named
  have hlocks := B.notSynchronized
  subst hsz
  have g : G3 (dC, dI) L kd tys s f0 [] [] f0 s.heap [] [(14, 51, a0_, .int y0_), (14, 52, a0_, .int y1_)] := G3.start hP hD0 hWT hfx
  have hl := lv_entry ([.ref a0_, .int x1_, .int x2_, .int x3_]) (n := 6) (Nat.le_of_ble_eq_true rfl)
  rw [lg_entry_eq]
  generalize (lg_sl ([.ref a0_, .int x1_, .int x2_, .int x3_]) ++ List.replicate (6 - (lg_sl ([.ref a0_, .int x1_, .int x2_, .int x3_])).length) Slot.unset).toArray = ls at hl ⊢
  have hl : lv_has ls 6 [(0, .ref a0_), (1, .int x1_), (2, .int x2_), (3, .int x3_)] := hl
  refine W_q (fun Q hQ => ?_)
  refine lv_aload_n hx hb dX14_valueOf_0 rfl (lv_at hl 0 rfl) ?_
  refine g_getr (K := 12) (C := RX14) (T := TX14) (N := 67) hx hb hts (mc_ inX14) hown hK g ma0_ ka0_ (by decide) rfl 1 (by decide) rfl (hts _ (List.mem_cons_of_mem _ t_2147)) (fun _ h9 => h9) rfl dX14_valueOf_1 (fun a_1 ma_1 ka_1 g => ?_)
  refine g_getr (K := 176) (C := RX12) (T := TX12) (N := 60) hx hb hts (mc_ inX12) hown hK g ma_1 ka_1 (by decide) rfl 20 (by decide) rfl (hts _ (List.mem_cons_of_mem _ t_1946)) (fun _ h9 => h9) rfl dX14_valueOf_4 (fun a_2 ma_2 ka_2 g => ?_)
  refine lv_iconst (v := 3) hx hb dX14_valueOf_7 (by decide) ?_
  refine lv_iload_n hx hb dX14_valueOf_8 rfl (lv_at hl 1 rfl) ?_
  refine lv_imul hx hb dX14_valueOf_9 ?_
  refine lv_topi (fun y_3 ey_3 => ?_)
  have ty_3 := cmul_bd ey_3 (c := 3) (by decide) bx1_ (by decide)
  have b_4 : bd 0 327 y_3 := mulc_rg ty_3 bx1_ (by decide)
  refine lv_iload_n hx hb dX14_valueOf_10 rfl (lv_at hl 2 rfl) ?_
  refine lv_iadd hx hb dX14_valueOf_11 ?_
  refine lv_topi (fun y_5 ey_5 => ?_)
  have ty_5 := add_bd ey_5 b_4 bx2_ (by decide)
  have b_6 : bd 2 329 y_5 := add_rg ty_5 b_4 bx2_ (by decide)
  refine g_iald hx hb hK g ma_2 ka_2 (by decide) rfl (in_bd b_6 (by decide)) dX14_valueOf_12 (fun x_7 bx_7 cx_7 => ?_)
  refine lv_istore (lv' := [(4, .int x_7), (0, .ref a0_), (1, .int x1_), (2, .int x2_), (3, .int x3_)]) hx hb dX14_valueOf_13 hl (by decide) rfl (fun ls hl => ?_)
  refine lv_aload_n hx hb dX14_valueOf_15 rfl (lv_at hl 1 rfl) ?_
  refine g_getk (C := RX14) (T := TX14) (N := 67) hx hb hts (mc_ inX14) hown hK g rfl 1 (by decide) rfl (hts _ (List.mem_cons_of_mem _ t_2147)) (fun _ h9 => h9) 1 rfl dX14_valueOf_16 ?_
  refine g_getr (K := 177) (C := RX12) (T := TX12) (N := 60) hx hb hts (mc_ inX12) hown hK g ma_1 ka_1 (by decide) rfl 21 (by decide) rfl (hts _ (List.mem_cons_of_mem _ t_1948)) (fun _ h9 => h9) rfl dX14_valueOf_19 (fun a_8 ma_8 ka_8 g => ?_)
  refine lv_iconst (v := 3) hx hb dX14_valueOf_22 (by decide) ?_
  refine lv_iload_n hx hb dX14_valueOf_23 rfl (lv_at hl 2 rfl) ?_
  refine lv_imul hx hb dX14_valueOf_24 ?_
  refine lv_topi (fun y_9 ey_9 => ?_)
  obtain rfl : y_3 = y_9 := ey_3.trans ey_9.symm
  refine lv_iload_n hx hb dX14_valueOf_25 rfl (lv_at hl 3 rfl) ?_
  refine lv_iadd hx hb dX14_valueOf_26 ?_
  refine lv_topi (fun y_10 ey_10 => ?_)
  obtain rfl : y_5 = y_10 := ey_5.trans ey_10.symm
  refine g_iald hx hb hK g ma_8 ka_8 (by decide) rfl (in_bd b_6 (by decide)) dX14_valueOf_27 (fun x_11 bx_11 cx_11 => ?_)
  refine lv_istore (lv' := [(5, .int x_11), (4, .int x_7), (0, .ref a0_), (1, .int x1_), (2, .int x2_), (3, .int x3_)]) hx hb dX14_valueOf_28 hl (by decide) rfl (fun ls hl => ?_)
  refine lv_iload_n hx hb dX14_valueOf_30 rfl (lv_at hl 5 rfl) ?_
  have kb_0 : bd 0 0 (0 : Int32) := ⟨by decide, by decide⟩
  refine lv_if_ne (tgt := 37) hx hb dX14_valueOf_31 (by decide) (fun c_12 => ?_) (fun c_12 => ?_)
  · have fc_12 := neq_f c_12
    have b_13 : bd 1 (-1) x3_ := neX fc_12 bx3_ kb_0 (by decide)
    exact bd_no b_13 (by decide)
  · have fc_12 := eq_f c_12
    refine lv_iload hx hb dX14_valueOf_34 (lv_at hl 1 rfl) ?_
    subst hQ
    exact W.iret (v := x_7) hx hb hr (fun t ht hW => ⟨⟨_, _, rfl, trivial, q3_of g hK ht hW⟩, g.2.2.1.F ht⟩) g.2.2.1.2.2 dX14_valueOf_36
set_option maxHeartbeats 4000000 in
set_option maxRecDepth 100000 in
theorem r_X14_valueOf_8 (l : Launch) (dC : Nat → ClassId) (dI : Nat → Nat → Nat) (L : List Nat) (kd : Nat → Nat) (tys : List (ClassId × FieldType)) (f0 : Nat → va_E) (sz : Nat) (hWT : WT L kd tys f0) (a0_ : Nat) (ma0_ : a0_ ∈ L) (ka0_ : kd a0_ = 14) (x1_ : Int32) (bx1_ : bd 0 109 x1_) (x2_ : Int32) (bx2_ : bd 0 0 x2_) (x3_ : Int32) (bx3_ : bd 0 2 x3_) (y0_ : Int32) (by0_ : bd 1 4 y0_) (y1_ : Int32) (by1_ : bd 1 3 y1_) (hfx : Fs L kd f0 [(14, 51, a0_, .int y0_), (14, 52, a0_, .int y1_)]) : Met l yX14_valueOf (.code yX14_valueOf cX14_valueOf 6 (some .int) :: lw_g) ({ frames := 0, cells := 0, slots := 0, locals := 0 }) (va_Pc [.ref a0_, .int x1_, .int x2_, .int x3_] (P3 (dC, dI) L tys f0 sz)) (va_Qi (fun (r : Int32) (f : Nat → va_E) => (True)) (Q3 (dC, dI) L kd tys [] [] f0 sz) (pA L sz)) 0 0 (pA L sz) := by
  refine Met.ofW (cc := cX14_valueOf) (maxL := 6) (ret := (some .int)) (by decide) rfl ?_
  intro p e s m args below meth c s₁ B hml hv
  obtain ⟨rfl, hsz, hP, hK, hD0⟩ := hv
  have hx := B.exec
  have hb := B.bytes
  have hr := B.returns
  have hts := atoms_spec (ws := (.code yX14_valueOf cX14_valueOf 6 (some .int) :: lw_g)) B.pre
  have hown : s.vm.findClass RX14 = some m.cls := findClass_of_methodNamed B.named
  have hlocks := B.notSynchronized
  subst hsz
  have g : G3 (dC, dI) L kd tys s f0 [] [] f0 s.heap [] [(14, 51, a0_, .int y0_), (14, 52, a0_, .int y1_)] := G3.start hP hD0 hWT hfx
  have hl := lv_entry ([.ref a0_, .int x1_, .int x2_, .int x3_]) (n := 6) (Nat.le_of_ble_eq_true rfl)
  rw [lg_entry_eq]
  generalize (lg_sl ([.ref a0_, .int x1_, .int x2_, .int x3_]) ++ List.replicate (6 - (lg_sl ([.ref a0_, .int x1_, .int x2_, .int x3_])).length) Slot.unset).toArray = ls at hl ⊢
  have hl : lv_has ls 6 [(0, .ref a0_), (1, .int x1_), (2, .int x2_), (3, .int x3_)] := hl
  refine W_q (fun Q hQ => ?_)
  refine lv_aload_n hx hb dX14_valueOf_0 rfl (lv_at hl 0 rfl) ?_
  refine g_getr (K := 12) (C := RX14) (T := TX14) (N := 67) hx hb hts (mc_ inX14) hown hK g ma0_ ka0_ (by decide) rfl 1 (by decide) rfl (hts _ (List.mem_cons_of_mem _ t_2147)) (fun _ h9 => h9) rfl dX14_valueOf_1 (fun a_1 ma_1 ka_1 g => ?_)
  refine g_getr (K := 176) (C := RX12) (T := TX12) (N := 60) hx hb hts (mc_ inX12) hown hK g ma_1 ka_1 (by decide) rfl 20 (by decide) rfl (hts _ (List.mem_cons_of_mem _ t_1946)) (fun _ h9 => h9) rfl dX14_valueOf_4 (fun a_2 ma_2 ka_2 g => ?_)
  refine lv_iconst (v := 3) hx hb dX14_valueOf_7 (by decide) ?_
  refine lv_iload_n hx hb dX14_valueOf_8 rfl (lv_at hl 1 rfl) ?_
  refine lv_imul hx hb dX14_valueOf_9 ?_
  refine lv_topi (fun y_3 ey_3 => ?_)
  have ty_3 := cmul_bd ey_3 (c := 3) (by decide) bx1_ (by decide)
  have b_4 : bd 0 327 y_3 := mulc_rg ty_3 bx1_ (by decide)
  refine lv_iload_n hx hb dX14_valueOf_10 rfl (lv_at hl 2 rfl) ?_
  refine lv_iadd hx hb dX14_valueOf_11 ?_
  refine lv_topi (fun y_5 ey_5 => ?_)
  have ty_5 := add_bd ey_5 b_4 bx2_ (by decide)
  have b_6 : bd 0 327 y_5 := add_rg ty_5 b_4 bx2_ (by decide)
  refine g_iald hx hb hK g ma_2 ka_2 (by decide) rfl (in_bd b_6 (by decide)) dX14_valueOf_12 (fun x_7 bx_7 cx_7 => ?_)
  refine lv_istore (lv' := [(4, .int x_7), (0, .ref a0_), (1, .int x1_), (2, .int x2_), (3, .int x3_)]) hx hb dX14_valueOf_13 hl (by decide) rfl (fun ls hl => ?_)
  refine lv_aload_n hx hb dX14_valueOf_15 rfl (lv_at hl 1 rfl) ?_
  refine g_getk (C := RX14) (T := TX14) (N := 67) hx hb hts (mc_ inX14) hown hK g rfl 1 (by decide) rfl (hts _ (List.mem_cons_of_mem _ t_2147)) (fun _ h9 => h9) 1 rfl dX14_valueOf_16 ?_
  refine g_getr (K := 177) (C := RX12) (T := TX12) (N := 60) hx hb hts (mc_ inX12) hown hK g ma_1 ka_1 (by decide) rfl 21 (by decide) rfl (hts _ (List.mem_cons_of_mem _ t_1948)) (fun _ h9 => h9) rfl dX14_valueOf_19 (fun a_8 ma_8 ka_8 g => ?_)
  refine lv_iconst (v := 3) hx hb dX14_valueOf_22 (by decide) ?_
  refine lv_iload_n hx hb dX14_valueOf_23 rfl (lv_at hl 2 rfl) ?_
  refine lv_imul hx hb dX14_valueOf_24 ?_
  refine lv_topi (fun y_9 ey_9 => ?_)
  obtain rfl : y_3 = y_9 := ey_3.trans ey_9.symm
  refine lv_iload_n hx hb dX14_valueOf_25 rfl (lv_at hl 3 rfl) ?_
  refine lv_iadd hx hb dX14_valueOf_26 ?_
  refine lv_topi (fun y_10 ey_10 => ?_)
  obtain rfl : y_5 = y_10 := ey_5.trans ey_10.symm
  refine g_iald hx hb hK g ma_8 ka_8 (by decide) rfl (in_bd b_6 (by decide)) dX14_valueOf_27 (fun x_11 bx_11 cx_11 => ?_)
  refine lv_istore (lv' := [(5, .int x_11), (4, .int x_7), (0, .ref a0_), (1, .int x1_), (2, .int x2_), (3, .int x3_)]) hx hb dX14_valueOf_28 hl (by decide) rfl (fun ls hl => ?_)
  refine lv_iload_n hx hb dX14_valueOf_30 rfl (lv_at hl 5 rfl) ?_
  have kb_0 : bd 0 0 (0 : Int32) := ⟨by decide, by decide⟩
  refine lv_if_ne (tgt := 37) hx hb dX14_valueOf_31 (by decide) (fun c_12 => ?_) (fun c_12 => ?_)
  · have fc_12 := neq_f c_12
    have b_13 : bd 1 2 x3_ := neX fc_12 bx3_ kb_0 (by decide)
    refine lv_iload_n hx hb dX14_valueOf_37 rfl (lv_at hl 5 rfl) ?_
    refine lv_iconst (v := 1) hx hb dX14_valueOf_38 (by decide) ?_
    have kb_1 : bd 1 1 (1 : Int32) := ⟨by decide, by decide⟩
    refine lv_icmp_ne (tgt := 56) hx hb dX14_valueOf_39 (by decide) (fun c_14 => ?_) (fun c_14 => ?_)
    · have fc_14 := neq_f c_14
      have b_15 : bd 2 2 x3_ := neX fc_14 b_13 kb_1 (by decide)
      refine lv_iload hx hb dX14_valueOf_56 (lv_at hl 0 rfl) ?_
      subst hQ
      exact W.iret (v := x_11) hx hb hr (fun t ht hW => ⟨⟨_, _, rfl, trivial, q3_of g hK ht hW⟩, g.2.2.1.F ht⟩) g.2.2.1.2.2 dX14_valueOf_58
    · have fc_14 := eq_f c_14
      have b_16 : bd 1 1 x3_ := eqX fc_14 b_13 kb_1 (by decide)
      refine lv_iload hx hb dX14_valueOf_42 (lv_at hl 1 rfl) ?_
      refine lv_if_ge (tgt := 56) hx hb dX14_valueOf_44 (by decide) (fun c_17 => ?_) (fun c_17 => ?_)
      · have fc_17 := le_f c_17
        have b_18 : bd 0 2147483647 x_7 := leR fc_17 kb_0 (bdT x_7) (by decide)
        refine lv_iload hx hb dX14_valueOf_56 (lv_at hl 0 rfl) ?_
        subst hQ
        exact W.iret (v := x_11) hx hb hr (fun t ht hW => ⟨⟨_, _, rfl, trivial, q3_of g hK ht hW⟩, g.2.2.1.F ht⟩) g.2.2.1.2.2 dX14_valueOf_58
      · have fc_17 := nle_f c_17
        have b_19 : bd (-2147483648) (-1) x_7 := ltL fc_17 (bdT x_7) kb_0 (by decide)
        refine lv_iload hx hb dX14_valueOf_47 (lv_at hl 0 rfl) ?_
        refine lv_if_le (tgt := 56) hx hb dX14_valueOf_49 (by decide) (fun c_20 => ?_) (fun c_20 => ?_)
        · have fc_20 := le_f c_20
          have b_21 : bd (-2147483648) 0 x_11 := leL fc_20 (bdT x_11) kb_0 (by decide)
          refine lv_iload hx hb dX14_valueOf_56 (lv_at hl 0 rfl) ?_
          subst hQ
          exact W.iret (v := x_11) hx hb hr (fun t ht hW => ⟨⟨_, _, rfl, trivial, q3_of g hK ht hW⟩, g.2.2.1.F ht⟩) g.2.2.1.2.2 dX14_valueOf_58
        · have fc_20 := nle_f c_20
          have b_22 : bd 1 2147483647 x_11 := ltR fc_20 kb_0 (bdT x_11) (by decide)
          refine lv_iconst (v := 0) hx hb dX14_valueOf_52 (by decide) ?_
          refine lv_goto (tgt := 58) hx hb dX14_valueOf_53 (by decide) ?_
          subst hQ
          exact W.iret (v := 0) hx hb hr (fun t ht hW => ⟨⟨_, _, rfl, trivial, q3_of g hK ht hW⟩, g.2.2.1.F ht⟩) g.2.2.1.2.2 dX14_valueOf_58
  · have fc_12 := eq_f c_12
    have b_23 : bd 0 0 x3_ := eqX fc_12 bx3_ kb_0 (by decide)
    refine lv_iload hx hb dX14_valueOf_34 (lv_at hl 1 rfl) ?_
    subst hQ
    exact W.iret (v := x_7) hx hb hr (fun t ht hW => ⟨⟨_, _, rfl, trivial, q3_of g hK ht hW⟩, g.2.2.1.F ht⟩) g.2.2.1.2.2 dX14_valueOf_36
set_option maxHeartbeats 4000000 in
set_option maxRecDepth 100000 in
theorem r_X14_valueOf_10 (l : Launch) (dC : Nat → ClassId) (dI : Nat → Nat → Nat) (L : List Nat) (kd : Nat → Nat) (tys : List (ClassId × FieldType)) (f0 : Nat → va_E) (sz : Nat) (hWT : WT L kd tys f0) (a0_ : Nat) (ma0_ : a0_ ∈ L) (ka0_ : kd a0_ = 14) (x1_ : Int32) (bx1_ : bd 0 109 x1_) (x2_ : Int32) (bx2_ : bd 1 1 x2_) (x3_ : Int32) (bx3_ : bd 0 2 x3_) (y0_ : Int32) (by0_ : bd 1 4 y0_) (y1_ : Int32) (by1_ : bd 1 3 y1_) (hfx : Fs L kd f0 [(14, 51, a0_, .int y0_), (14, 52, a0_, .int y1_)]) : Met l yX14_valueOf (.code yX14_valueOf cX14_valueOf 6 (some .int) :: lw_g) ({ frames := 0, cells := 0, slots := 0, locals := 0 }) (va_Pc [.ref a0_, .int x1_, .int x2_, .int x3_] (P3 (dC, dI) L tys f0 sz)) (va_Qi (fun (r : Int32) (f : Nat → va_E) => (True)) (Q3 (dC, dI) L kd tys [] [] f0 sz) (pA L sz)) 0 0 (pA L sz) := by
  refine Met.ofW (cc := cX14_valueOf) (maxL := 6) (ret := (some .int)) (by decide) rfl ?_
  intro p e s m args below meth c s₁ B hml hv
  obtain ⟨rfl, hsz, hP, hK, hD0⟩ := hv
  have hx := B.exec
  have hb := B.bytes
  have hr := B.returns
  have hts := atoms_spec (ws := (.code yX14_valueOf cX14_valueOf 6 (some .int) :: lw_g)) B.pre
  have hown : s.vm.findClass RX14 = some m.cls := findClass_of_methodNamed B.named
  have hlocks := B.notSynchronized
  subst hsz
  have g : G3 (dC, dI) L kd tys s f0 [] [] f0 s.heap [] [(14, 51, a0_, .int y0_), (14, 52, a0_, .int y1_)] := G3.start hP hD0 hWT hfx
  have hl := lv_entry ([.ref a0_, .int x1_, .int x2_, .int x3_]) (n := 6) (Nat.le_of_ble_eq_true rfl)
  rw [lg_entry_eq]
  generalize (lg_sl ([.ref a0_, .int x1_, .int x2_, .int x3_]) ++ List.replicate (6 - (lg_sl ([.ref a0_, .int x1_, .int x2_, .int x3_])).length) Slot.unset).toArray = ls at hl ⊢
  have hl : lv_has ls 6 [(0, .ref a0_), (1, .int x1_), (2, .int x2_), (3, .int x3_)] := hl
  refine W_q (fun Q hQ => ?_)
  refine lv_aload_n hx hb dX14_valueOf_0 rfl (lv_at hl 0 rfl) ?_
  refine g_getr (K := 12) (C := RX14) (T := TX14) (N := 67) hx hb hts (mc_ inX14) hown hK g ma0_ ka0_ (by decide) rfl 1 (by decide) rfl (hts _ (List.mem_cons_of_mem _ t_2147)) (fun _ h9 => h9) rfl dX14_valueOf_1 (fun a_1 ma_1 ka_1 g => ?_)
  refine g_getr (K := 176) (C := RX12) (T := TX12) (N := 60) hx hb hts (mc_ inX12) hown hK g ma_1 ka_1 (by decide) rfl 20 (by decide) rfl (hts _ (List.mem_cons_of_mem _ t_1946)) (fun _ h9 => h9) rfl dX14_valueOf_4 (fun a_2 ma_2 ka_2 g => ?_)
  refine lv_iconst (v := 3) hx hb dX14_valueOf_7 (by decide) ?_
  refine lv_iload_n hx hb dX14_valueOf_8 rfl (lv_at hl 1 rfl) ?_
  refine lv_imul hx hb dX14_valueOf_9 ?_
  refine lv_topi (fun y_3 ey_3 => ?_)
  have ty_3 := cmul_bd ey_3 (c := 3) (by decide) bx1_ (by decide)
  have b_4 : bd 0 327 y_3 := mulc_rg ty_3 bx1_ (by decide)
  refine lv_iload_n hx hb dX14_valueOf_10 rfl (lv_at hl 2 rfl) ?_
  refine lv_iadd hx hb dX14_valueOf_11 ?_
  refine lv_topi (fun y_5 ey_5 => ?_)
  have ty_5 := add_bd ey_5 b_4 bx2_ (by decide)
  have b_6 : bd 1 328 y_5 := add_rg ty_5 b_4 bx2_ (by decide)
  refine g_iald hx hb hK g ma_2 ka_2 (by decide) rfl (in_bd b_6 (by decide)) dX14_valueOf_12 (fun x_7 bx_7 cx_7 => ?_)
  refine lv_istore (lv' := [(4, .int x_7), (0, .ref a0_), (1, .int x1_), (2, .int x2_), (3, .int x3_)]) hx hb dX14_valueOf_13 hl (by decide) rfl (fun ls hl => ?_)
  refine lv_aload_n hx hb dX14_valueOf_15 rfl (lv_at hl 1 rfl) ?_
  refine g_getk (C := RX14) (T := TX14) (N := 67) hx hb hts (mc_ inX14) hown hK g rfl 1 (by decide) rfl (hts _ (List.mem_cons_of_mem _ t_2147)) (fun _ h9 => h9) 1 rfl dX14_valueOf_16 ?_
  refine g_getr (K := 177) (C := RX12) (T := TX12) (N := 60) hx hb hts (mc_ inX12) hown hK g ma_1 ka_1 (by decide) rfl 21 (by decide) rfl (hts _ (List.mem_cons_of_mem _ t_1948)) (fun _ h9 => h9) rfl dX14_valueOf_19 (fun a_8 ma_8 ka_8 g => ?_)
  refine lv_iconst (v := 3) hx hb dX14_valueOf_22 (by decide) ?_
  refine lv_iload_n hx hb dX14_valueOf_23 rfl (lv_at hl 2 rfl) ?_
  refine lv_imul hx hb dX14_valueOf_24 ?_
  refine lv_topi (fun y_9 ey_9 => ?_)
  obtain rfl : y_3 = y_9 := ey_3.trans ey_9.symm
  refine lv_iload_n hx hb dX14_valueOf_25 rfl (lv_at hl 3 rfl) ?_
  refine lv_iadd hx hb dX14_valueOf_26 ?_
  refine lv_topi (fun y_10 ey_10 => ?_)
  obtain rfl : y_5 = y_10 := ey_5.trans ey_10.symm
  refine g_iald hx hb hK g ma_8 ka_8 (by decide) rfl (in_bd b_6 (by decide)) dX14_valueOf_27 (fun x_11 bx_11 cx_11 => ?_)
  refine lv_istore (lv' := [(5, .int x_11), (4, .int x_7), (0, .ref a0_), (1, .int x1_), (2, .int x2_), (3, .int x3_)]) hx hb dX14_valueOf_28 hl (by decide) rfl (fun ls hl => ?_)
  refine lv_iload_n hx hb dX14_valueOf_30 rfl (lv_at hl 5 rfl) ?_
  have kb_0 : bd 0 0 (0 : Int32) := ⟨by decide, by decide⟩
  refine lv_if_ne (tgt := 37) hx hb dX14_valueOf_31 (by decide) (fun c_12 => ?_) (fun c_12 => ?_)
  · have fc_12 := neq_f c_12
    have b_13 : bd 1 2 x3_ := neX fc_12 bx3_ kb_0 (by decide)
    refine lv_iload_n hx hb dX14_valueOf_37 rfl (lv_at hl 5 rfl) ?_
    refine lv_iconst (v := 1) hx hb dX14_valueOf_38 (by decide) ?_
    have kb_1 : bd 1 1 (1 : Int32) := ⟨by decide, by decide⟩
    refine lv_icmp_ne (tgt := 56) hx hb dX14_valueOf_39 (by decide) (fun c_14 => ?_) (fun c_14 => ?_)
    · have fc_14 := neq_f c_14
      have b_15 : bd 2 2 x3_ := neX fc_14 b_13 kb_1 (by decide)
      refine lv_iload hx hb dX14_valueOf_56 (lv_at hl 0 rfl) ?_
      subst hQ
      exact W.iret (v := x_11) hx hb hr (fun t ht hW => ⟨⟨_, _, rfl, trivial, q3_of g hK ht hW⟩, g.2.2.1.F ht⟩) g.2.2.1.2.2 dX14_valueOf_58
    · have fc_14 := eq_f c_14
      have b_16 : bd 1 1 x3_ := eqX fc_14 b_13 kb_1 (by decide)
      refine lv_iload hx hb dX14_valueOf_42 (lv_at hl 1 rfl) ?_
      refine lv_if_ge (tgt := 56) hx hb dX14_valueOf_44 (by decide) (fun c_17 => ?_) (fun c_17 => ?_)
      · have fc_17 := le_f c_17
        have b_18 : bd 0 2147483647 x_7 := leR fc_17 kb_0 (bdT x_7) (by decide)
        refine lv_iload hx hb dX14_valueOf_56 (lv_at hl 0 rfl) ?_
        subst hQ
        exact W.iret (v := x_11) hx hb hr (fun t ht hW => ⟨⟨_, _, rfl, trivial, q3_of g hK ht hW⟩, g.2.2.1.F ht⟩) g.2.2.1.2.2 dX14_valueOf_58
      · have fc_17 := nle_f c_17
        have b_19 : bd (-2147483648) (-1) x_7 := ltL fc_17 (bdT x_7) kb_0 (by decide)
        refine lv_iload hx hb dX14_valueOf_47 (lv_at hl 0 rfl) ?_
        refine lv_if_le (tgt := 56) hx hb dX14_valueOf_49 (by decide) (fun c_20 => ?_) (fun c_20 => ?_)
        · have fc_20 := le_f c_20
          have b_21 : bd (-2147483648) 0 x_11 := leL fc_20 (bdT x_11) kb_0 (by decide)
          refine lv_iload hx hb dX14_valueOf_56 (lv_at hl 0 rfl) ?_
          subst hQ
          exact W.iret (v := x_11) hx hb hr (fun t ht hW => ⟨⟨_, _, rfl, trivial, q3_of g hK ht hW⟩, g.2.2.1.F ht⟩) g.2.2.1.2.2 dX14_valueOf_58
        · have fc_20 := nle_f c_20
          have b_22 : bd 1 2147483647 x_11 := ltR fc_20 kb_0 (bdT x_11) (by decide)
          refine lv_iconst (v := 0) hx hb dX14_valueOf_52 (by decide) ?_
          refine lv_goto (tgt := 58) hx hb dX14_valueOf_53 (by decide) ?_
          subst hQ
          exact W.iret (v := 0) hx hb hr (fun t ht hW => ⟨⟨_, _, rfl, trivial, q3_of g hK ht hW⟩, g.2.2.1.F ht⟩) g.2.2.1.2.2 dX14_valueOf_58
  · have fc_12 := eq_f c_12
    have b_23 : bd 0 0 x3_ := eqX fc_12 bx3_ kb_0 (by decide)
    refine lv_iload hx hb dX14_valueOf_34 (lv_at hl 1 rfl) ?_
    subst hQ
    exact W.iret (v := x_7) hx hb hr (fun t ht hW => ⟨⟨_, _, rfl, trivial, q3_of g hK ht hW⟩, g.2.2.1.F ht⟩) g.2.2.1.2.2 dX14_valueOf_36
set_option maxHeartbeats 4000000 in
set_option maxRecDepth 100000 in
theorem r_X14_valueOf_12 (l : Launch) (dC : Nat → ClassId) (dI : Nat → Nat → Nat) (L : List Nat) (kd : Nat → Nat) (tys : List (ClassId × FieldType)) (f0 : Nat → va_E) (sz : Nat) (hWT : WT L kd tys f0) (a0_ : Nat) (ma0_ : a0_ ∈ L) (ka0_ : kd a0_ = 14) (x1_ : Int32) (bx1_ : bd 0 109 x1_) (x2_ : Int32) (bx2_ : bd 0 0 x2_) (x3_ : Int32) (bx3_ : bd 0 8 x3_) (y0_ : Int32) (by0_ : bd 1 4 y0_) (y1_ : Int32) (by1_ : bd 1 3 y1_) (hfx : Fs L kd f0 [(14, 51, a0_, .int y0_), (14, 52, a0_, .int y1_)]) : Met l yX14_valueOf (.code yX14_valueOf cX14_valueOf 6 (some .int) :: lw_g) ({ frames := 0, cells := 0, slots := 0, locals := 0 }) (va_Pc [.ref a0_, .int x1_, .int x2_, .int x3_] (P3 (dC, dI) L tys f0 sz)) (va_Qi (fun (r : Int32) (f : Nat → va_E) => (True)) (Q3 (dC, dI) L kd tys [] [] f0 sz) (pA L sz)) 0 0 (pA L sz) := by
  refine Met.ofW (cc := cX14_valueOf) (maxL := 6) (ret := (some .int)) (by decide) rfl ?_
  intro p e s m args below meth c s₁ B hml hv
  obtain ⟨rfl, hsz, hP, hK, hD0⟩ := hv
  have hx := B.exec
  have hb := B.bytes
  have hr := B.returns
  have hts := atoms_spec (ws := (.code yX14_valueOf cX14_valueOf 6 (some .int) :: lw_g)) B.pre
  have hown : s.vm.findClass RX14 = some m.cls := findClass_of_methodNamed B.named
  have hlocks := B.notSynchronized
  subst hsz
  have g : G3 (dC, dI) L kd tys s f0 [] [] f0 s.heap [] [(14, 51, a0_, .int y0_), (14, 52, a0_, .int y1_)] := G3.start hP hD0 hWT hfx
  have hl := lv_entry ([.ref a0_, .int x1_, .int x2_, .int x3_]) (n := 6) (Nat.le_of_ble_eq_true rfl)
  rw [lg_entry_eq]
  generalize (lg_sl ([.ref a0_, .int x1_, .int x2_, .int x3_]) ++ List.replicate (6 - (lg_sl ([.ref a0_, .int x1_, .int x2_, .int x3_])).length) Slot.unset).toArray = ls at hl ⊢
  have hl : lv_has ls 6 [(0, .ref a0_), (1, .int x1_), (2, .int x2_), (3, .int x3_)] := hl
  refine W_q (fun Q hQ => ?_)
  refine lv_aload_n hx hb dX14_valueOf_0 rfl (lv_at hl 0 rfl) ?_
  refine g_getr (K := 12) (C := RX14) (T := TX14) (N := 67) hx hb hts (mc_ inX14) hown hK g ma0_ ka0_ (by decide) rfl 1 (by decide) rfl (hts _ (List.mem_cons_of_mem _ t_2147)) (fun _ h9 => h9) rfl dX14_valueOf_1 (fun a_1 ma_1 ka_1 g => ?_)
  refine g_getr (K := 176) (C := RX12) (T := TX12) (N := 60) hx hb hts (mc_ inX12) hown hK g ma_1 ka_1 (by decide) rfl 20 (by decide) rfl (hts _ (List.mem_cons_of_mem _ t_1946)) (fun _ h9 => h9) rfl dX14_valueOf_4 (fun a_2 ma_2 ka_2 g => ?_)
  refine lv_iconst (v := 3) hx hb dX14_valueOf_7 (by decide) ?_
  refine lv_iload_n hx hb dX14_valueOf_8 rfl (lv_at hl 1 rfl) ?_
  refine lv_imul hx hb dX14_valueOf_9 ?_
  refine lv_topi (fun y_3 ey_3 => ?_)
  have ty_3 := cmul_bd ey_3 (c := 3) (by decide) bx1_ (by decide)
  have b_4 : bd 0 327 y_3 := mulc_rg ty_3 bx1_ (by decide)
  refine lv_iload_n hx hb dX14_valueOf_10 rfl (lv_at hl 2 rfl) ?_
  refine lv_iadd hx hb dX14_valueOf_11 ?_
  refine lv_topi (fun y_5 ey_5 => ?_)
  have ty_5 := add_bd ey_5 b_4 bx2_ (by decide)
  have b_6 : bd 0 327 y_5 := add_rg ty_5 b_4 bx2_ (by decide)
  refine g_iald hx hb hK g ma_2 ka_2 (by decide) rfl (in_bd b_6 (by decide)) dX14_valueOf_12 (fun x_7 bx_7 cx_7 => ?_)
  refine lv_istore (lv' := [(4, .int x_7), (0, .ref a0_), (1, .int x1_), (2, .int x2_), (3, .int x3_)]) hx hb dX14_valueOf_13 hl (by decide) rfl (fun ls hl => ?_)
  refine lv_aload_n hx hb dX14_valueOf_15 rfl (lv_at hl 1 rfl) ?_
  refine g_getk (C := RX14) (T := TX14) (N := 67) hx hb hts (mc_ inX14) hown hK g rfl 1 (by decide) rfl (hts _ (List.mem_cons_of_mem _ t_2147)) (fun _ h9 => h9) 1 rfl dX14_valueOf_16 ?_
  refine g_getr (K := 177) (C := RX12) (T := TX12) (N := 60) hx hb hts (mc_ inX12) hown hK g ma_1 ka_1 (by decide) rfl 21 (by decide) rfl (hts _ (List.mem_cons_of_mem _ t_1948)) (fun _ h9 => h9) rfl dX14_valueOf_19 (fun a_8 ma_8 ka_8 g => ?_)
  refine lv_iconst (v := 3) hx hb dX14_valueOf_22 (by decide) ?_
  refine lv_iload_n hx hb dX14_valueOf_23 rfl (lv_at hl 2 rfl) ?_
  refine lv_imul hx hb dX14_valueOf_24 ?_
  refine lv_topi (fun y_9 ey_9 => ?_)
  obtain rfl : y_3 = y_9 := ey_3.trans ey_9.symm
  refine lv_iload_n hx hb dX14_valueOf_25 rfl (lv_at hl 3 rfl) ?_
  refine lv_iadd hx hb dX14_valueOf_26 ?_
  refine lv_topi (fun y_10 ey_10 => ?_)
  obtain rfl : y_5 = y_10 := ey_5.trans ey_10.symm
  refine g_iald hx hb hK g ma_8 ka_8 (by decide) rfl (in_bd b_6 (by decide)) dX14_valueOf_27 (fun x_11 bx_11 cx_11 => ?_)
  refine lv_istore (lv' := [(5, .int x_11), (4, .int x_7), (0, .ref a0_), (1, .int x1_), (2, .int x2_), (3, .int x3_)]) hx hb dX14_valueOf_28 hl (by decide) rfl (fun ls hl => ?_)
  refine lv_iload_n hx hb dX14_valueOf_30 rfl (lv_at hl 5 rfl) ?_
  have kb_0 : bd 0 0 (0 : Int32) := ⟨by decide, by decide⟩
  refine lv_if_ne (tgt := 37) hx hb dX14_valueOf_31 (by decide) (fun c_12 => ?_) (fun c_12 => ?_)
  · have fc_12 := neq_f c_12
    have b_13 : bd 1 8 x3_ := neX fc_12 bx3_ kb_0 (by decide)
    refine lv_iload_n hx hb dX14_valueOf_37 rfl (lv_at hl 5 rfl) ?_
    refine lv_iconst (v := 1) hx hb dX14_valueOf_38 (by decide) ?_
    have kb_1 : bd 1 1 (1 : Int32) := ⟨by decide, by decide⟩
    refine lv_icmp_ne (tgt := 56) hx hb dX14_valueOf_39 (by decide) (fun c_14 => ?_) (fun c_14 => ?_)
    · have fc_14 := neq_f c_14
      have b_15 : bd 2 8 x3_ := neX fc_14 b_13 kb_1 (by decide)
      refine lv_iload hx hb dX14_valueOf_56 (lv_at hl 0 rfl) ?_
      subst hQ
      exact W.iret (v := x_11) hx hb hr (fun t ht hW => ⟨⟨_, _, rfl, trivial, q3_of g hK ht hW⟩, g.2.2.1.F ht⟩) g.2.2.1.2.2 dX14_valueOf_58
    · have fc_14 := eq_f c_14
      have b_16 : bd 1 1 x3_ := eqX fc_14 b_13 kb_1 (by decide)
      refine lv_iload hx hb dX14_valueOf_42 (lv_at hl 1 rfl) ?_
      refine lv_if_ge (tgt := 56) hx hb dX14_valueOf_44 (by decide) (fun c_17 => ?_) (fun c_17 => ?_)
      · have fc_17 := le_f c_17
        have b_18 : bd 0 2147483647 x_7 := leR fc_17 kb_0 (bdT x_7) (by decide)
        refine lv_iload hx hb dX14_valueOf_56 (lv_at hl 0 rfl) ?_
        subst hQ
        exact W.iret (v := x_11) hx hb hr (fun t ht hW => ⟨⟨_, _, rfl, trivial, q3_of g hK ht hW⟩, g.2.2.1.F ht⟩) g.2.2.1.2.2 dX14_valueOf_58
      · have fc_17 := nle_f c_17
        have b_19 : bd (-2147483648) (-1) x_7 := ltL fc_17 (bdT x_7) kb_0 (by decide)
        refine lv_iload hx hb dX14_valueOf_47 (lv_at hl 0 rfl) ?_
        refine lv_if_le (tgt := 56) hx hb dX14_valueOf_49 (by decide) (fun c_20 => ?_) (fun c_20 => ?_)
        · have fc_20 := le_f c_20
          have b_21 : bd (-2147483648) 0 x_11 := leL fc_20 (bdT x_11) kb_0 (by decide)
          refine lv_iload hx hb dX14_valueOf_56 (lv_at hl 0 rfl) ?_
          subst hQ
          exact W.iret (v := x_11) hx hb hr (fun t ht hW => ⟨⟨_, _, rfl, trivial, q3_of g hK ht hW⟩, g.2.2.1.F ht⟩) g.2.2.1.2.2 dX14_valueOf_58
        · have fc_20 := nle_f c_20
          have b_22 : bd 1 2147483647 x_11 := ltR fc_20 kb_0 (bdT x_11) (by decide)
          refine lv_iconst (v := 0) hx hb dX14_valueOf_52 (by decide) ?_
          refine lv_goto (tgt := 58) hx hb dX14_valueOf_53 (by decide) ?_
          subst hQ
          exact W.iret (v := 0) hx hb hr (fun t ht hW => ⟨⟨_, _, rfl, trivial, q3_of g hK ht hW⟩, g.2.2.1.F ht⟩) g.2.2.1.2.2 dX14_valueOf_58
  · have fc_12 := eq_f c_12
    have b_23 : bd 0 0 x3_ := eqX fc_12 bx3_ kb_0 (by decide)
    refine lv_iload hx hb dX14_valueOf_34 (lv_at hl 1 rfl) ?_
    subst hQ
    exact W.iret (v := x_7) hx hb hr (fun t ht hW => ⟨⟨_, _, rfl, trivial, q3_of g hK ht hW⟩, g.2.2.1.F ht⟩) g.2.2.1.2.2 dX14_valueOf_36
set_option maxHeartbeats 4000000 in
set_option maxRecDepth 100000 in
theorem r_X14_valueOf_14 (l : Launch) (dC : Nat → ClassId) (dI : Nat → Nat → Nat) (L : List Nat) (kd : Nat → Nat) (tys : List (ClassId × FieldType)) (f0 : Nat → va_E) (sz : Nat) (hWT : WT L kd tys f0) (a0_ : Nat) (ma0_ : a0_ ∈ L) (ka0_ : kd a0_ = 14) (x1_ : Int32) (bx1_ : bd 0 109 x1_) (x2_ : Int32) (bx2_ : bd 2 2 x2_) (x3_ : Int32) (bx3_ : bd 0 2 x3_) (y0_ : Int32) (by0_ : bd 1 4 y0_) (y1_ : Int32) (by1_ : bd 1 3 y1_) (hfx : Fs L kd f0 [(14, 51, a0_, .int y0_), (14, 52, a0_, .int y1_)]) : Met l yX14_valueOf (.code yX14_valueOf cX14_valueOf 6 (some .int) :: lw_g) ({ frames := 0, cells := 0, slots := 0, locals := 0 }) (va_Pc [.ref a0_, .int x1_, .int x2_, .int x3_] (P3 (dC, dI) L tys f0 sz)) (va_Qi (fun (r : Int32) (f : Nat → va_E) => (True)) (Q3 (dC, dI) L kd tys [] [] f0 sz) (pA L sz)) 0 0 (pA L sz) := by
  refine Met.ofW (cc := cX14_valueOf) (maxL := 6) (ret := (some .int)) (by decide) rfl ?_
  intro p e s m args below meth c s₁ B hml hv
  obtain ⟨rfl, hsz, hP, hK, hD0⟩ := hv
  have hx := B.exec
  have hb := B.bytes
  have hr := B.returns
  have hts := atoms_spec (ws := (.code yX14_valueOf cX14_valueOf 6 (some .int) :: lw_g)) B.pre
  have hown : s.vm.findClass RX14 = some m.cls := findClass_of_methodNamed B.named
  have hlocks := B.notSynchronized
  subst hsz
  have g : G3 (dC, dI) L kd tys s f0 [] [] f0 s.heap [] [(14, 51, a0_, .int y0_), (14, 52, a0_, .int y1_)] := G3.start hP hD0 hWT hfx
  have hl := lv_entry ([.ref a0_, .int x1_, .int x2_, .int x3_]) (n := 6) (Nat.le_of_ble_eq_true rfl)
  rw [lg_entry_eq]
  generalize (lg_sl ([.ref a0_, .int x1_, .int x2_, .int x3_]) ++ List.replicate (6 - (lg_sl ([.ref a0_, .int x1_, .int x2_, .int x3_])).length) Slot.unset).toArray = ls at hl ⊢
  have hl : lv_has ls 6 [(0, .ref a0_), (1, .int x1_), (2, .int x2_), (3, .int x3_)] := hl
  refine W_q (fun Q hQ => ?_)
  refine lv_aload_n hx hb dX14_valueOf_0 rfl (lv_at hl 0 rfl) ?_
  refine g_getr (K := 12) (C := RX14) (T := TX14) (N := 67) hx hb hts (mc_ inX14) hown hK g ma0_ ka0_ (by decide) rfl 1 (by decide) rfl (hts _ (List.mem_cons_of_mem _ t_2147)) (fun _ h9 => h9) rfl dX14_valueOf_1 (fun a_1 ma_1 ka_1 g => ?_)
  refine g_getr (K := 176) (C := RX12) (T := TX12) (N := 60) hx hb hts (mc_ inX12) hown hK g ma_1 ka_1 (by decide) rfl 20 (by decide) rfl (hts _ (List.mem_cons_of_mem _ t_1946)) (fun _ h9 => h9) rfl dX14_valueOf_4 (fun a_2 ma_2 ka_2 g => ?_)
  refine lv_iconst (v := 3) hx hb dX14_valueOf_7 (by decide) ?_
  refine lv_iload_n hx hb dX14_valueOf_8 rfl (lv_at hl 1 rfl) ?_
  refine lv_imul hx hb dX14_valueOf_9 ?_
  refine lv_topi (fun y_3 ey_3 => ?_)
  have ty_3 := cmul_bd ey_3 (c := 3) (by decide) bx1_ (by decide)
  have b_4 : bd 0 327 y_3 := mulc_rg ty_3 bx1_ (by decide)
  refine lv_iload_n hx hb dX14_valueOf_10 rfl (lv_at hl 2 rfl) ?_
  refine lv_iadd hx hb dX14_valueOf_11 ?_
  refine lv_topi (fun y_5 ey_5 => ?_)
  have ty_5 := add_bd ey_5 b_4 bx2_ (by decide)
  have b_6 : bd 2 329 y_5 := add_rg ty_5 b_4 bx2_ (by decide)
  refine g_iald hx hb hK g ma_2 ka_2 (by decide) rfl (in_bd b_6 (by decide)) dX14_valueOf_12 (fun x_7 bx_7 cx_7 => ?_)
  refine lv_istore (lv' := [(4, .int x_7), (0, .ref a0_), (1, .int x1_), (2, .int x2_), (3, .int x3_)]) hx hb dX14_valueOf_13 hl (by decide) rfl (fun ls hl => ?_)
  refine lv_aload_n hx hb dX14_valueOf_15 rfl (lv_at hl 1 rfl) ?_
  refine g_getk (C := RX14) (T := TX14) (N := 67) hx hb hts (mc_ inX14) hown hK g rfl 1 (by decide) rfl (hts _ (List.mem_cons_of_mem _ t_2147)) (fun _ h9 => h9) 1 rfl dX14_valueOf_16 ?_
  refine g_getr (K := 177) (C := RX12) (T := TX12) (N := 60) hx hb hts (mc_ inX12) hown hK g ma_1 ka_1 (by decide) rfl 21 (by decide) rfl (hts _ (List.mem_cons_of_mem _ t_1948)) (fun _ h9 => h9) rfl dX14_valueOf_19 (fun a_8 ma_8 ka_8 g => ?_)
  refine lv_iconst (v := 3) hx hb dX14_valueOf_22 (by decide) ?_
  refine lv_iload_n hx hb dX14_valueOf_23 rfl (lv_at hl 2 rfl) ?_
  refine lv_imul hx hb dX14_valueOf_24 ?_
  refine lv_topi (fun y_9 ey_9 => ?_)
  obtain rfl : y_3 = y_9 := ey_3.trans ey_9.symm
  refine lv_iload_n hx hb dX14_valueOf_25 rfl (lv_at hl 3 rfl) ?_
  refine lv_iadd hx hb dX14_valueOf_26 ?_
  refine lv_topi (fun y_10 ey_10 => ?_)
  obtain rfl : y_5 = y_10 := ey_5.trans ey_10.symm
  refine g_iald hx hb hK g ma_8 ka_8 (by decide) rfl (in_bd b_6 (by decide)) dX14_valueOf_27 (fun x_11 bx_11 cx_11 => ?_)
  refine lv_istore (lv' := [(5, .int x_11), (4, .int x_7), (0, .ref a0_), (1, .int x1_), (2, .int x2_), (3, .int x3_)]) hx hb dX14_valueOf_28 hl (by decide) rfl (fun ls hl => ?_)
  refine lv_iload_n hx hb dX14_valueOf_30 rfl (lv_at hl 5 rfl) ?_
  have kb_0 : bd 0 0 (0 : Int32) := ⟨by decide, by decide⟩
  refine lv_if_ne (tgt := 37) hx hb dX14_valueOf_31 (by decide) (fun c_12 => ?_) (fun c_12 => ?_)
  · have fc_12 := neq_f c_12
    have b_13 : bd 1 2 x3_ := neX fc_12 bx3_ kb_0 (by decide)
    refine lv_iload_n hx hb dX14_valueOf_37 rfl (lv_at hl 5 rfl) ?_
    refine lv_iconst (v := 1) hx hb dX14_valueOf_38 (by decide) ?_
    have kb_1 : bd 1 1 (1 : Int32) := ⟨by decide, by decide⟩
    refine lv_icmp_ne (tgt := 56) hx hb dX14_valueOf_39 (by decide) (fun c_14 => ?_) (fun c_14 => ?_)
    · have fc_14 := neq_f c_14
      have b_15 : bd 2 2 x3_ := neX fc_14 b_13 kb_1 (by decide)
      refine lv_iload hx hb dX14_valueOf_56 (lv_at hl 0 rfl) ?_
      subst hQ
      exact W.iret (v := x_11) hx hb hr (fun t ht hW => ⟨⟨_, _, rfl, trivial, q3_of g hK ht hW⟩, g.2.2.1.F ht⟩) g.2.2.1.2.2 dX14_valueOf_58
    · have fc_14 := eq_f c_14
      have b_16 : bd 1 1 x3_ := eqX fc_14 b_13 kb_1 (by decide)
      refine lv_iload hx hb dX14_valueOf_42 (lv_at hl 1 rfl) ?_
      refine lv_if_ge (tgt := 56) hx hb dX14_valueOf_44 (by decide) (fun c_17 => ?_) (fun c_17 => ?_)
      · have fc_17 := le_f c_17
        have b_18 : bd 0 2147483647 x_7 := leR fc_17 kb_0 (bdT x_7) (by decide)
        refine lv_iload hx hb dX14_valueOf_56 (lv_at hl 0 rfl) ?_
        subst hQ
        exact W.iret (v := x_11) hx hb hr (fun t ht hW => ⟨⟨_, _, rfl, trivial, q3_of g hK ht hW⟩, g.2.2.1.F ht⟩) g.2.2.1.2.2 dX14_valueOf_58
      · have fc_17 := nle_f c_17
        have b_19 : bd (-2147483648) (-1) x_7 := ltL fc_17 (bdT x_7) kb_0 (by decide)
        refine lv_iload hx hb dX14_valueOf_47 (lv_at hl 0 rfl) ?_
        refine lv_if_le (tgt := 56) hx hb dX14_valueOf_49 (by decide) (fun c_20 => ?_) (fun c_20 => ?_)
        · have fc_20 := le_f c_20
          have b_21 : bd (-2147483648) 0 x_11 := leL fc_20 (bdT x_11) kb_0 (by decide)
          refine lv_iload hx hb dX14_valueOf_56 (lv_at hl 0 rfl) ?_
          subst hQ
          exact W.iret (v := x_11) hx hb hr (fun t ht hW => ⟨⟨_, _, rfl, trivial, q3_of g hK ht hW⟩, g.2.2.1.F ht⟩) g.2.2.1.2.2 dX14_valueOf_58
        · have fc_20 := nle_f c_20
          have b_22 : bd 1 2147483647 x_11 := ltR fc_20 kb_0 (bdT x_11) (by decide)
          refine lv_iconst (v := 0) hx hb dX14_valueOf_52 (by decide) ?_
          refine lv_goto (tgt := 58) hx hb dX14_valueOf_53 (by decide) ?_
          subst hQ
          exact W.iret (v := 0) hx hb hr (fun t ht hW => ⟨⟨_, _, rfl, trivial, q3_of g hK ht hW⟩, g.2.2.1.F ht⟩) g.2.2.1.2.2 dX14_valueOf_58
  · have fc_12 := eq_f c_12
    have b_23 : bd 0 0 x3_ := eqX fc_12 bx3_ kb_0 (by decide)
    refine lv_iload hx hb dX14_valueOf_34 (lv_at hl 1 rfl) ?_
    subst hQ
    exact W.iret (v := x_7) hx hb hr (fun t ht hW => ⟨⟨_, _, rfl, trivial, q3_of g hK ht hW⟩, g.2.2.1.F ht⟩) g.2.2.1.2.2 dX14_valueOf_36
set_option maxHeartbeats 4000000 in
set_option maxRecDepth 100000 in
theorem r_X14_valueOf_16 (l : Launch) (dC : Nat → ClassId) (dI : Nat → Nat → Nat) (L : List Nat) (kd : Nat → Nat) (tys : List (ClassId × FieldType)) (f0 : Nat → va_E) (sz : Nat) (hWT : WT L kd tys f0) (a0_ : Nat) (ma0_ : a0_ ∈ L) (ka0_ : kd a0_ = 14) (x1_ : Int32) (bx1_ : bd 0 109 x1_) (x2_ : Int32) (bx2_ : bd 0 0 x2_) (x3_ : Int32) (bx3_ : bd 0 26 x3_) (y0_ : Int32) (by0_ : bd 1 4 y0_) (y1_ : Int32) (by1_ : bd 1 3 y1_) (hfx : Fs L kd f0 [(14, 51, a0_, .int y0_), (14, 52, a0_, .int y1_)]) : Met l yX14_valueOf (.code yX14_valueOf cX14_valueOf 6 (some .int) :: lw_g) ({ frames := 0, cells := 0, slots := 0, locals := 0 }) (va_Pc [.ref a0_, .int x1_, .int x2_, .int x3_] (P3 (dC, dI) L tys f0 sz)) (va_Qi (fun (r : Int32) (f : Nat → va_E) => (True)) (Q3 (dC, dI) L kd tys [] [] f0 sz) (pA L sz)) 0 0 (pA L sz) := by
  refine Met.ofW (cc := cX14_valueOf) (maxL := 6) (ret := (some .int)) (by decide) rfl ?_
  intro p e s m args below meth c s₁ B hml hv
  obtain ⟨rfl, hsz, hP, hK, hD0⟩ := hv
  have hx := B.exec
  have hb := B.bytes
  have hr := B.returns
  have hts := atoms_spec (ws := (.code yX14_valueOf cX14_valueOf 6 (some .int) :: lw_g)) B.pre
  have hown : s.vm.findClass RX14 = some m.cls := findClass_of_methodNamed B.named
  have hlocks := B.notSynchronized
  subst hsz
  have g : G3 (dC, dI) L kd tys s f0 [] [] f0 s.heap [] [(14, 51, a0_, .int y0_), (14, 52, a0_, .int y1_)] := G3.start hP hD0 hWT hfx
  have hl := lv_entry ([.ref a0_, .int x1_, .int x2_, .int x3_]) (n := 6) (Nat.le_of_ble_eq_true rfl)
  rw [lg_entry_eq]
  generalize (lg_sl ([.ref a0_, .int x1_, .int x2_, .int x3_]) ++ List.replicate (6 - (lg_sl ([.ref a0_, .int x1_, .int x2_, .int x3_])).length) Slot.unset).toArray = ls at hl ⊢
  have hl : lv_has ls 6 [(0, .ref a0_), (1, .int x1_), (2, .int x2_), (3, .int x3_)] := hl
  refine W_q (fun Q hQ => ?_)
  refine lv_aload_n hx hb dX14_valueOf_0 rfl (lv_at hl 0 rfl) ?_
  refine g_getr (K := 12) (C := RX14) (T := TX14) (N := 67) hx hb hts (mc_ inX14) hown hK g ma0_ ka0_ (by decide) rfl 1 (by decide) rfl (hts _ (List.mem_cons_of_mem _ t_2147)) (fun _ h9 => h9) rfl dX14_valueOf_1 (fun a_1 ma_1 ka_1 g => ?_)
  refine g_getr (K := 176) (C := RX12) (T := TX12) (N := 60) hx hb hts (mc_ inX12) hown hK g ma_1 ka_1 (by decide) rfl 20 (by decide) rfl (hts _ (List.mem_cons_of_mem _ t_1946)) (fun _ h9 => h9) rfl dX14_valueOf_4 (fun a_2 ma_2 ka_2 g => ?_)
  refine lv_iconst (v := 3) hx hb dX14_valueOf_7 (by decide) ?_
  refine lv_iload_n hx hb dX14_valueOf_8 rfl (lv_at hl 1 rfl) ?_
  refine lv_imul hx hb dX14_valueOf_9 ?_
  refine lv_topi (fun y_3 ey_3 => ?_)
  have ty_3 := cmul_bd ey_3 (c := 3) (by decide) bx1_ (by decide)
  have b_4 : bd 0 327 y_3 := mulc_rg ty_3 bx1_ (by decide)
  refine lv_iload_n hx hb dX14_valueOf_10 rfl (lv_at hl 2 rfl) ?_
  refine lv_iadd hx hb dX14_valueOf_11 ?_
  refine lv_topi (fun y_5 ey_5 => ?_)
  have ty_5 := add_bd ey_5 b_4 bx2_ (by decide)
  have b_6 : bd 0 327 y_5 := add_rg ty_5 b_4 bx2_ (by decide)
  refine g_iald hx hb hK g ma_2 ka_2 (by decide) rfl (in_bd b_6 (by decide)) dX14_valueOf_12 (fun x_7 bx_7 cx_7 => ?_)
  refine lv_istore (lv' := [(4, .int x_7), (0, .ref a0_), (1, .int x1_), (2, .int x2_), (3, .int x3_)]) hx hb dX14_valueOf_13 hl (by decide) rfl (fun ls hl => ?_)
  refine lv_aload_n hx hb dX14_valueOf_15 rfl (lv_at hl 1 rfl) ?_
  refine g_getk (C := RX14) (T := TX14) (N := 67) hx hb hts (mc_ inX14) hown hK g rfl 1 (by decide) rfl (hts _ (List.mem_cons_of_mem _ t_2147)) (fun _ h9 => h9) 1 rfl dX14_valueOf_16 ?_
  refine g_getr (K := 177) (C := RX12) (T := TX12) (N := 60) hx hb hts (mc_ inX12) hown hK g ma_1 ka_1 (by decide) rfl 21 (by decide) rfl (hts _ (List.mem_cons_of_mem _ t_1948)) (fun _ h9 => h9) rfl dX14_valueOf_19 (fun a_8 ma_8 ka_8 g => ?_)
  refine lv_iconst (v := 3) hx hb dX14_valueOf_22 (by decide) ?_
  refine lv_iload_n hx hb dX14_valueOf_23 rfl (lv_at hl 2 rfl) ?_
  refine lv_imul hx hb dX14_valueOf_24 ?_
  refine lv_topi (fun y_9 ey_9 => ?_)
  obtain rfl : y_3 = y_9 := ey_3.trans ey_9.symm
  refine lv_iload_n hx hb dX14_valueOf_25 rfl (lv_at hl 3 rfl) ?_
  refine lv_iadd hx hb dX14_valueOf_26 ?_
  refine lv_topi (fun y_10 ey_10 => ?_)
  obtain rfl : y_5 = y_10 := ey_5.trans ey_10.symm
  refine g_iald hx hb hK g ma_8 ka_8 (by decide) rfl (in_bd b_6 (by decide)) dX14_valueOf_27 (fun x_11 bx_11 cx_11 => ?_)
  refine lv_istore (lv' := [(5, .int x_11), (4, .int x_7), (0, .ref a0_), (1, .int x1_), (2, .int x2_), (3, .int x3_)]) hx hb dX14_valueOf_28 hl (by decide) rfl (fun ls hl => ?_)
  refine lv_iload_n hx hb dX14_valueOf_30 rfl (lv_at hl 5 rfl) ?_
  have kb_0 : bd 0 0 (0 : Int32) := ⟨by decide, by decide⟩
  refine lv_if_ne (tgt := 37) hx hb dX14_valueOf_31 (by decide) (fun c_12 => ?_) (fun c_12 => ?_)
  · have fc_12 := neq_f c_12
    have b_13 : bd 1 26 x3_ := neX fc_12 bx3_ kb_0 (by decide)
    refine lv_iload_n hx hb dX14_valueOf_37 rfl (lv_at hl 5 rfl) ?_
    refine lv_iconst (v := 1) hx hb dX14_valueOf_38 (by decide) ?_
    have kb_1 : bd 1 1 (1 : Int32) := ⟨by decide, by decide⟩
    refine lv_icmp_ne (tgt := 56) hx hb dX14_valueOf_39 (by decide) (fun c_14 => ?_) (fun c_14 => ?_)
    · have fc_14 := neq_f c_14
      have b_15 : bd 2 26 x3_ := neX fc_14 b_13 kb_1 (by decide)
      refine lv_iload hx hb dX14_valueOf_56 (lv_at hl 0 rfl) ?_
      subst hQ
      exact W.iret (v := x_11) hx hb hr (fun t ht hW => ⟨⟨_, _, rfl, trivial, q3_of g hK ht hW⟩, g.2.2.1.F ht⟩) g.2.2.1.2.2 dX14_valueOf_58
    · have fc_14 := eq_f c_14
      have b_16 : bd 1 1 x3_ := eqX fc_14 b_13 kb_1 (by decide)
      refine lv_iload hx hb dX14_valueOf_42 (lv_at hl 1 rfl) ?_
      refine lv_if_ge (tgt := 56) hx hb dX14_valueOf_44 (by decide) (fun c_17 => ?_) (fun c_17 => ?_)
      · have fc_17 := le_f c_17
        have b_18 : bd 0 2147483647 x_7 := leR fc_17 kb_0 (bdT x_7) (by decide)
        refine lv_iload hx hb dX14_valueOf_56 (lv_at hl 0 rfl) ?_
        subst hQ
        exact W.iret (v := x_11) hx hb hr (fun t ht hW => ⟨⟨_, _, rfl, trivial, q3_of g hK ht hW⟩, g.2.2.1.F ht⟩) g.2.2.1.2.2 dX14_valueOf_58
      · have fc_17 := nle_f c_17
        have b_19 : bd (-2147483648) (-1) x_7 := ltL fc_17 (bdT x_7) kb_0 (by decide)
        refine lv_iload hx hb dX14_valueOf_47 (lv_at hl 0 rfl) ?_
        refine lv_if_le (tgt := 56) hx hb dX14_valueOf_49 (by decide) (fun c_20 => ?_) (fun c_20 => ?_)
        · have fc_20 := le_f c_20
          have b_21 : bd (-2147483648) 0 x_11 := leL fc_20 (bdT x_11) kb_0 (by decide)
          refine lv_iload hx hb dX14_valueOf_56 (lv_at hl 0 rfl) ?_
          subst hQ
          exact W.iret (v := x_11) hx hb hr (fun t ht hW => ⟨⟨_, _, rfl, trivial, q3_of g hK ht hW⟩, g.2.2.1.F ht⟩) g.2.2.1.2.2 dX14_valueOf_58
        · have fc_20 := nle_f c_20
          have b_22 : bd 1 2147483647 x_11 := ltR fc_20 kb_0 (bdT x_11) (by decide)
          refine lv_iconst (v := 0) hx hb dX14_valueOf_52 (by decide) ?_
          refine lv_goto (tgt := 58) hx hb dX14_valueOf_53 (by decide) ?_
          subst hQ
          exact W.iret (v := 0) hx hb hr (fun t ht hW => ⟨⟨_, _, rfl, trivial, q3_of g hK ht hW⟩, g.2.2.1.F ht⟩) g.2.2.1.2.2 dX14_valueOf_58
  · have fc_12 := eq_f c_12
    have b_23 : bd 0 0 x3_ := eqX fc_12 bx3_ kb_0 (by decide)
    refine lv_iload hx hb dX14_valueOf_34 (lv_at hl 1 rfl) ?_
    subst hQ
    exact W.iret (v := x_7) hx hb hr (fun t ht hW => ⟨⟨_, _, rfl, trivial, q3_of g hK ht hW⟩, g.2.2.1.F ht⟩) g.2.2.1.2.2 dX14_valueOf_36
set_option maxHeartbeats 4000000 in
set_option maxRecDepth 100000 in
theorem r_X14_values_4 (l : Launch) (dC : Nat → ClassId) (dI : Nat → Nat → Nat) (L : List Nat) (kd : Nat → Nat) (tys : List (ClassId × FieldType)) (f0 : Nat → va_E) (sz : Nat) (hWT : WT L kd tys f0) (a0_ : Nat) (ma0_ : a0_ ∈ L) (ka0_ : kd a0_ = 14) (x1_ : Int32) (bx1_ : bd 0 109 x1_) (x2_ : Int32) (bx2_ : bd 0 0 x2_) (y0_ : Int32) (by0_ : bd 1 4 y0_) (hfx : Fs L kd f0 [(14, 51, a0_, .int y0_)]) : Met l yX14_values (.code yX14_values cX14_values 5 (some .int) :: lw_g) ({ frames := 0, cells := 0, slots := 0, locals := 0 }) (va_Pc [.ref a0_, .int x1_, .int x2_] (P3 (dC, dI) L tys f0 sz)) (va_Qi (fun (r : Int32) (f : Nat → va_E) => (bd 1 3 r ∧ True)) (Q3 (dC, dI) L kd tys [] [] f0 sz) (pA L sz)) 0 0 (pA L sz) := by
  refine Met.ofW (cc := cX14_values) (maxL := 5) (ret := (some .int)) (by decide) rfl ?_
  intro p e s m args below meth c s₁ B hml hv
  obtain ⟨rfl, hsz, hP, hK, hD0⟩ := hv
  have hx := B.exec
  have hb := B.bytes
  have hr := B.returns
  have hts := atoms_spec (ws := (.code yX14_values cX14_values 5 (some .int) :: lw_g)) B.pre
  have hown : s.vm.findClass RX14 = some m.cls := findClass_of_methodNamed B.named
  have hlocks := B.notSynchronized
  subst hsz
  have g : G3 (dC, dI) L kd tys s f0 [] [] f0 s.heap [] [(14, 51, a0_, .int y0_)] := G3.start hP hD0 hWT hfx
  have hl := lv_entry ([.ref a0_, .int x1_, .int x2_]) (n := 5) (Nat.le_of_ble_eq_true rfl)
  rw [lg_entry_eq]
  generalize (lg_sl ([.ref a0_, .int x1_, .int x2_]) ++ List.replicate (5 - (lg_sl ([.ref a0_, .int x1_, .int x2_])).length) Slot.unset).toArray = ls at hl ⊢
  have hl : lv_has ls 5 [(0, .ref a0_), (1, .int x1_), (2, .int x2_)] := hl
  refine W_q (fun Q hQ => ?_)
  refine lv_aload_n hx hb dX14_values_0 rfl (lv_at hl 0 rfl) ?_
  refine g_getr (K := 12) (C := RX14) (T := TX14) (N := 67) hx hb hts (mc_ inX14) hown hK g ma0_ ka0_ (by decide) rfl 1 (by decide) rfl (hts _ (List.mem_cons_of_mem _ t_2147)) (fun _ h9 => h9) rfl dX14_values_1 (fun a_1 ma_1 ka_1 g => ?_)
  refine g_getr (K := 176) (C := RX12) (T := TX12) (N := 60) hx hb hts (mc_ inX12) hown hK g ma_1 ka_1 (by decide) rfl 20 (by decide) rfl (hts _ (List.mem_cons_of_mem _ t_1946)) (fun _ h9 => h9) rfl dX14_values_4 (fun a_2 ma_2 ka_2 g => ?_)
  refine lv_iconst (v := 3) hx hb dX14_values_7 (by decide) ?_
  refine lv_iload_n hx hb dX14_values_8 rfl (lv_at hl 1 rfl) ?_
  refine lv_imul hx hb dX14_values_9 ?_
  refine lv_topi (fun y_3 ey_3 => ?_)
  have ty_3 := cmul_bd ey_3 (c := 3) (by decide) bx1_ (by decide)
  have b_4 : bd 0 327 y_3 := mulc_rg ty_3 bx1_ (by decide)
  refine lv_iload_n hx hb dX14_values_10 rfl (lv_at hl 2 rfl) ?_
  refine lv_iadd hx hb dX14_values_11 ?_
  refine lv_topi (fun y_5 ey_5 => ?_)
  have ty_5 := add_bd ey_5 b_4 bx2_ (by decide)
  have b_6 : bd 0 327 y_5 := add_rg ty_5 b_4 bx2_ (by decide)
  refine g_iald hx hb hK g ma_2 ka_2 (by decide) rfl (in_bd b_6 (by decide)) dX14_values_12 (fun x_7 bx_7 cx_7 => ?_)
  refine lv_istore_n (lv' := [(3, .int x_7), (0, .ref a0_), (1, .int x1_), (2, .int x2_)]) hx hb dX14_values_13 rfl hl (by decide) rfl (fun ls hl => ?_)
  refine lv_aload_n hx hb dX14_values_14 rfl (lv_at hl 1 rfl) ?_
  refine g_getk (C := RX14) (T := TX14) (N := 67) hx hb hts (mc_ inX14) hown hK g rfl 1 (by decide) rfl (hts _ (List.mem_cons_of_mem _ t_2147)) (fun _ h9 => h9) 1 rfl dX14_values_15 ?_
  refine g_getr (K := 177) (C := RX12) (T := TX12) (N := 60) hx hb hts (mc_ inX12) hown hK g ma_1 ka_1 (by decide) rfl 21 (by decide) rfl (hts _ (List.mem_cons_of_mem _ t_1948)) (fun _ h9 => h9) rfl dX14_values_18 (fun a_8 ma_8 ka_8 g => ?_)
  refine lv_iconst (v := 3) hx hb dX14_values_21 (by decide) ?_
  refine lv_iload_n hx hb dX14_values_22 rfl (lv_at hl 2 rfl) ?_
  refine lv_imul hx hb dX14_values_23 ?_
  refine lv_topi (fun y_9 ey_9 => ?_)
  obtain rfl : y_3 = y_9 := ey_3.trans ey_9.symm
  refine lv_iload_n hx hb dX14_values_24 rfl (lv_at hl 3 rfl) ?_
  refine lv_iadd hx hb dX14_values_25 ?_
  refine lv_topi (fun y_10 ey_10 => ?_)
  obtain rfl : y_5 = y_10 := ey_5.trans ey_10.symm
  refine g_iald hx hb hK g ma_8 ka_8 (by decide) rfl (in_bd b_6 (by decide)) dX14_values_26 (fun x_11 bx_11 cx_11 => ?_)
  refine lv_istore (lv' := [(4, .int x_11), (3, .int x_7), (0, .ref a0_), (1, .int x1_), (2, .int x2_)]) hx hb dX14_values_27 hl (by decide) rfl (fun ls hl => ?_)
  refine lv_iconst (v := 1) hx hb dX14_values_29 (by decide) ?_
  refine lv_iload_n hx hb dX14_values_30 rfl (lv_at hl 1 rfl) ?_
  have kb_0 : bd 0 0 (0 : Int32) := ⟨by decide, by decide⟩
  refine lv_if_ge (tgt := 43) hx hb dX14_values_31 (by decide) (fun c_12 => ?_) (fun c_12 => ?_)
  · have fc_12 := le_f c_12
    have b_13 : bd 0 2147483647 x_7 := leR fc_12 kb_0 (bdT x_7) (by decide)
    refine lv_iconst (v := 0) hx hb dX14_values_43 (by decide) ?_
    have kb_1 : bd 1 1 (1 : Int32) := ⟨by decide, by decide⟩
    refine lv_iadd hx hb dX14_values_44 ?_
    refine lv_topi (fun y_14 ey_14 => ?_)
    obtain rfl : y_14 = 1 := ey_14.trans (by decide)
    refine lv_iload hx hb dX14_values_45 (lv_at hl 0 rfl) ?_
    refine lv_iload_n hx hb dX14_values_47 rfl (lv_at hl 1 rfl) ?_
    refine lv_icmp_le (tgt := 55) hx hb dX14_values_48 (by decide) (fun c_15 => ?_) (fun c_15 => ?_)
    · have fc_15 := le_f c_15
      refine lv_iconst (v := 0) hx hb dX14_values_55 (by decide) ?_
      refine lv_iadd hx hb dX14_values_56 ?_
      refine lv_topi (fun y_16 ey_16 => ?_)
      obtain rfl : y_16 = 1 := ey_16.trans (by decide)
      subst hQ
      exact W.iret (v := 1) hx hb hr (fun t ht hW => ⟨⟨_, _, rfl, ⟨(bd_sub kb_1 (by decide)), trivial⟩, q3_of g hK ht hW⟩, g.2.2.1.F ht⟩) g.2.2.1.2.2 dX14_values_57
    · have fc_15 := nle_f c_15
      have b_17 : bd 0 2147483646 x_7 := ltL fc_15 b_13 (bdT x_11) (by decide)
      have b_18 : bd 1 2147483647 x_11 := ltR fc_15 b_13 (bdT x_11) (by decide)
      refine lv_iconst (v := 1) hx hb dX14_values_51 (by decide) ?_
      refine lv_goto (tgt := 56) hx hb dX14_values_52 (by decide) ?_
      refine lv_iadd hx hb dX14_values_56 ?_
      refine lv_topi (fun y_19 ey_19 => ?_)
      obtain rfl : y_19 = 2 := ey_19.trans (by decide)
      have kb_2 : bd 2 2 (2 : Int32) := ⟨by decide, by decide⟩
      subst hQ
      exact W.iret (v := 2) hx hb hr (fun t ht hW => ⟨⟨_, _, rfl, ⟨(bd_sub kb_2 (by decide)), trivial⟩, q3_of g hK ht hW⟩, g.2.2.1.F ht⟩) g.2.2.1.2.2 dX14_values_57
  · have fc_12 := nle_f c_12
    have b_20 : bd (-2147483648) (-1) x_7 := ltL fc_12 (bdT x_7) kb_0 (by decide)
    refine lv_iload hx hb dX14_values_34 (lv_at hl 0 rfl) ?_
    refine lv_if_le (tgt := 43) hx hb dX14_values_36 (by decide) (fun c_21 => ?_) (fun c_21 => ?_)
    · have fc_21 := le_f c_21
      have b_22 : bd (-2147483648) 0 x_11 := leL fc_21 (bdT x_11) kb_0 (by decide)
      refine lv_iconst (v := 0) hx hb dX14_values_43 (by decide) ?_
      have kb_1 : bd 1 1 (1 : Int32) := ⟨by decide, by decide⟩
      refine lv_iadd hx hb dX14_values_44 ?_
      refine lv_topi (fun y_23 ey_23 => ?_)
      obtain rfl : y_23 = 1 := ey_23.trans (by decide)
      refine lv_iload hx hb dX14_values_45 (lv_at hl 0 rfl) ?_
      refine lv_iload_n hx hb dX14_values_47 rfl (lv_at hl 1 rfl) ?_
      refine lv_icmp_le (tgt := 55) hx hb dX14_values_48 (by decide) (fun c_24 => ?_) (fun c_24 => ?_)
      · have fc_24 := le_f c_24
        have b_25 : bd (-2147483648) (-1) x_11 := leL fc_24 b_22 b_20 (by decide)
        refine lv_iconst (v := 0) hx hb dX14_values_55 (by decide) ?_
        refine lv_iadd hx hb dX14_values_56 ?_
        refine lv_topi (fun y_26 ey_26 => ?_)
        obtain rfl : y_26 = 1 := ey_26.trans (by decide)
        subst hQ
        exact W.iret (v := 1) hx hb hr (fun t ht hW => ⟨⟨_, _, rfl, ⟨(bd_sub kb_1 (by decide)), trivial⟩, q3_of g hK ht hW⟩, g.2.2.1.F ht⟩) g.2.2.1.2.2 dX14_values_57
      · have fc_24 := nle_f c_24
        have b_27 : bd (-2147483647) 0 x_11 := ltR fc_24 b_20 b_22 (by decide)
        refine lv_iconst (v := 1) hx hb dX14_values_51 (by decide) ?_
        refine lv_goto (tgt := 56) hx hb dX14_values_52 (by decide) ?_
        refine lv_iadd hx hb dX14_values_56 ?_
        refine lv_topi (fun y_28 ey_28 => ?_)
        obtain rfl : y_28 = 2 := ey_28.trans (by decide)
        have kb_2 : bd 2 2 (2 : Int32) := ⟨by decide, by decide⟩
        subst hQ
        exact W.iret (v := 2) hx hb hr (fun t ht hW => ⟨⟨_, _, rfl, ⟨(bd_sub kb_2 (by decide)), trivial⟩, q3_of g hK ht hW⟩, g.2.2.1.F ht⟩) g.2.2.1.2.2 dX14_values_57
    · have fc_21 := nle_f c_21
      have b_29 : bd 1 2147483647 x_11 := ltR fc_21 kb_0 (bdT x_11) (by decide)
      refine lv_iconst (v := 1) hx hb dX14_values_39 (by decide) ?_
      refine lv_goto (tgt := 44) hx hb dX14_values_40 (by decide) ?_
      have kb_1 : bd 1 1 (1 : Int32) := ⟨by decide, by decide⟩
      refine lv_iadd hx hb dX14_values_44 ?_
      refine lv_topi (fun y_30 ey_30 => ?_)
      obtain rfl : y_30 = 2 := ey_30.trans (by decide)
      refine lv_iload hx hb dX14_values_45 (lv_at hl 0 rfl) ?_
      refine lv_iload_n hx hb dX14_values_47 rfl (lv_at hl 1 rfl) ?_
      refine lv_icmp_le (tgt := 55) hx hb dX14_values_48 (by decide) (fun c_31 => ?_) (fun c_31 => ?_)
      · have fc_31 := le_f c_31
        have b_32 : bd 1 (-1) x_11 := leL fc_31 b_29 b_20 (by decide)
        exact bd_no b_32 (by decide)
      · have fc_31 := nle_f c_31
        refine lv_iconst (v := 1) hx hb dX14_values_51 (by decide) ?_
        refine lv_goto (tgt := 56) hx hb dX14_values_52 (by decide) ?_
        have kb_2 : bd 2 2 (2 : Int32) := ⟨by decide, by decide⟩
        refine lv_iadd hx hb dX14_values_56 ?_
        refine lv_topi (fun y_33 ey_33 => ?_)
        obtain rfl : y_33 = 3 := ey_33.trans (by decide)
        have kb_3 : bd 3 3 (3 : Int32) := ⟨by decide, by decide⟩
        subst hQ
        exact W.iret (v := 3) hx hb hr (fun t ht hW => ⟨⟨_, _, rfl, ⟨(bd_sub kb_3 (by decide)), trivial⟩, q3_of g hK ht hW⟩, g.2.2.1.F ht⟩) g.2.2.1.2.2 dX14_values_57
set_option maxHeartbeats 4000000 in
set_option maxRecDepth 100000 in
theorem r_X14_values_5 (l : Launch) (dC : Nat → ClassId) (dI : Nat → Nat → Nat) (L : List Nat) (kd : Nat → Nat) (tys : List (ClassId × FieldType)) (f0 : Nat → va_E) (sz : Nat) (hWT : WT L kd tys f0) (a0_ : Nat) (ma0_ : a0_ ∈ L) (ka0_ : kd a0_ = 14) (x1_ : Int32) (bx1_ : bd 0 109 x1_) (x2_ : Int32) (bx2_ : bd 1 1 x2_) (y0_ : Int32) (by0_ : bd 1 4 y0_) (hfx : Fs L kd f0 [(14, 51, a0_, .int y0_)]) : Met l yX14_values (.code yX14_values cX14_values 5 (some .int) :: lw_g) ({ frames := 0, cells := 0, slots := 0, locals := 0 }) (va_Pc [.ref a0_, .int x1_, .int x2_] (P3 (dC, dI) L tys f0 sz)) (va_Qi (fun (r : Int32) (f : Nat → va_E) => (bd 1 3 r ∧ True)) (Q3 (dC, dI) L kd tys [] [] f0 sz) (pA L sz)) 0 0 (pA L sz) := by
  refine Met.ofW (cc := cX14_values) (maxL := 5) (ret := (some .int)) (by decide) rfl ?_
  intro p e s m args below meth c s₁ B hml hv
  obtain ⟨rfl, hsz, hP, hK, hD0⟩ := hv
  have hx := B.exec
  have hb := B.bytes
  have hr := B.returns
  have hts := atoms_spec (ws := (.code yX14_values cX14_values 5 (some .int) :: lw_g)) B.pre
  have hown : s.vm.findClass RX14 = some m.cls := findClass_of_methodNamed B.named
  have hlocks := B.notSynchronized
  subst hsz
  have g : G3 (dC, dI) L kd tys s f0 [] [] f0 s.heap [] [(14, 51, a0_, .int y0_)] := G3.start hP hD0 hWT hfx
  have hl := lv_entry ([.ref a0_, .int x1_, .int x2_]) (n := 5) (Nat.le_of_ble_eq_true rfl)
  rw [lg_entry_eq]
  generalize (lg_sl ([.ref a0_, .int x1_, .int x2_]) ++ List.replicate (5 - (lg_sl ([.ref a0_, .int x1_, .int x2_])).length) Slot.unset).toArray = ls at hl ⊢
  have hl : lv_has ls 5 [(0, .ref a0_), (1, .int x1_), (2, .int x2_)] := hl
  refine W_q (fun Q hQ => ?_)
  refine lv_aload_n hx hb dX14_values_0 rfl (lv_at hl 0 rfl) ?_
  refine g_getr (K := 12) (C := RX14) (T := TX14) (N := 67) hx hb hts (mc_ inX14) hown hK g ma0_ ka0_ (by decide) rfl 1 (by decide) rfl (hts _ (List.mem_cons_of_mem _ t_2147)) (fun _ h9 => h9) rfl dX14_values_1 (fun a_1 ma_1 ka_1 g => ?_)
  refine g_getr (K := 176) (C := RX12) (T := TX12) (N := 60) hx hb hts (mc_ inX12) hown hK g ma_1 ka_1 (by decide) rfl 20 (by decide) rfl (hts _ (List.mem_cons_of_mem _ t_1946)) (fun _ h9 => h9) rfl dX14_values_4 (fun a_2 ma_2 ka_2 g => ?_)
  refine lv_iconst (v := 3) hx hb dX14_values_7 (by decide) ?_
  refine lv_iload_n hx hb dX14_values_8 rfl (lv_at hl 1 rfl) ?_
  refine lv_imul hx hb dX14_values_9 ?_
  refine lv_topi (fun y_3 ey_3 => ?_)
  have ty_3 := cmul_bd ey_3 (c := 3) (by decide) bx1_ (by decide)
  have b_4 : bd 0 327 y_3 := mulc_rg ty_3 bx1_ (by decide)
  refine lv_iload_n hx hb dX14_values_10 rfl (lv_at hl 2 rfl) ?_
  refine lv_iadd hx hb dX14_values_11 ?_
  refine lv_topi (fun y_5 ey_5 => ?_)
  have ty_5 := add_bd ey_5 b_4 bx2_ (by decide)
  have b_6 : bd 1 328 y_5 := add_rg ty_5 b_4 bx2_ (by decide)
  refine g_iald hx hb hK g ma_2 ka_2 (by decide) rfl (in_bd b_6 (by decide)) dX14_values_12 (fun x_7 bx_7 cx_7 => ?_)
  refine lv_istore_n (lv' := [(3, .int x_7), (0, .ref a0_), (1, .int x1_), (2, .int x2_)]) hx hb dX14_values_13 rfl hl (by decide) rfl (fun ls hl => ?_)
  refine lv_aload_n hx hb dX14_values_14 rfl (lv_at hl 1 rfl) ?_
  refine g_getk (C := RX14) (T := TX14) (N := 67) hx hb hts (mc_ inX14) hown hK g rfl 1 (by decide) rfl (hts _ (List.mem_cons_of_mem _ t_2147)) (fun _ h9 => h9) 1 rfl dX14_values_15 ?_
  refine g_getr (K := 177) (C := RX12) (T := TX12) (N := 60) hx hb hts (mc_ inX12) hown hK g ma_1 ka_1 (by decide) rfl 21 (by decide) rfl (hts _ (List.mem_cons_of_mem _ t_1948)) (fun _ h9 => h9) rfl dX14_values_18 (fun a_8 ma_8 ka_8 g => ?_)
  refine lv_iconst (v := 3) hx hb dX14_values_21 (by decide) ?_
  refine lv_iload_n hx hb dX14_values_22 rfl (lv_at hl 2 rfl) ?_
  refine lv_imul hx hb dX14_values_23 ?_
  refine lv_topi (fun y_9 ey_9 => ?_)
  obtain rfl : y_3 = y_9 := ey_3.trans ey_9.symm
  refine lv_iload_n hx hb dX14_values_24 rfl (lv_at hl 3 rfl) ?_
  refine lv_iadd hx hb dX14_values_25 ?_
  refine lv_topi (fun y_10 ey_10 => ?_)
  obtain rfl : y_5 = y_10 := ey_5.trans ey_10.symm
  refine g_iald hx hb hK g ma_8 ka_8 (by decide) rfl (in_bd b_6 (by decide)) dX14_values_26 (fun x_11 bx_11 cx_11 => ?_)
  refine lv_istore (lv' := [(4, .int x_11), (3, .int x_7), (0, .ref a0_), (1, .int x1_), (2, .int x2_)]) hx hb dX14_values_27 hl (by decide) rfl (fun ls hl => ?_)
  refine lv_iconst (v := 1) hx hb dX14_values_29 (by decide) ?_
  refine lv_iload_n hx hb dX14_values_30 rfl (lv_at hl 1 rfl) ?_
  have kb_0 : bd 0 0 (0 : Int32) := ⟨by decide, by decide⟩
  refine lv_if_ge (tgt := 43) hx hb dX14_values_31 (by decide) (fun c_12 => ?_) (fun c_12 => ?_)
  · have fc_12 := le_f c_12
    have b_13 : bd 0 2147483647 x_7 := leR fc_12 kb_0 (bdT x_7) (by decide)
    refine lv_iconst (v := 0) hx hb dX14_values_43 (by decide) ?_
    have kb_1 : bd 1 1 (1 : Int32) := ⟨by decide, by decide⟩
    refine lv_iadd hx hb dX14_values_44 ?_
    refine lv_topi (fun y_14 ey_14 => ?_)
    obtain rfl : y_14 = 1 := ey_14.trans (by decide)
    refine lv_iload hx hb dX14_values_45 (lv_at hl 0 rfl) ?_
    refine lv_iload_n hx hb dX14_values_47 rfl (lv_at hl 1 rfl) ?_
    refine lv_icmp_le (tgt := 55) hx hb dX14_values_48 (by decide) (fun c_15 => ?_) (fun c_15 => ?_)
    · have fc_15 := le_f c_15
      refine lv_iconst (v := 0) hx hb dX14_values_55 (by decide) ?_
      refine lv_iadd hx hb dX14_values_56 ?_
      refine lv_topi (fun y_16 ey_16 => ?_)
      obtain rfl : y_16 = 1 := ey_16.trans (by decide)
      subst hQ
      exact W.iret (v := 1) hx hb hr (fun t ht hW => ⟨⟨_, _, rfl, ⟨(bd_sub kb_1 (by decide)), trivial⟩, q3_of g hK ht hW⟩, g.2.2.1.F ht⟩) g.2.2.1.2.2 dX14_values_57
    · have fc_15 := nle_f c_15
      have b_17 : bd 0 2147483646 x_7 := ltL fc_15 b_13 (bdT x_11) (by decide)
      have b_18 : bd 1 2147483647 x_11 := ltR fc_15 b_13 (bdT x_11) (by decide)
      refine lv_iconst (v := 1) hx hb dX14_values_51 (by decide) ?_
      refine lv_goto (tgt := 56) hx hb dX14_values_52 (by decide) ?_
      refine lv_iadd hx hb dX14_values_56 ?_
      refine lv_topi (fun y_19 ey_19 => ?_)
      obtain rfl : y_19 = 2 := ey_19.trans (by decide)
      have kb_2 : bd 2 2 (2 : Int32) := ⟨by decide, by decide⟩
      subst hQ
      exact W.iret (v := 2) hx hb hr (fun t ht hW => ⟨⟨_, _, rfl, ⟨(bd_sub kb_2 (by decide)), trivial⟩, q3_of g hK ht hW⟩, g.2.2.1.F ht⟩) g.2.2.1.2.2 dX14_values_57
  · have fc_12 := nle_f c_12
    have b_20 : bd (-2147483648) (-1) x_7 := ltL fc_12 (bdT x_7) kb_0 (by decide)
    refine lv_iload hx hb dX14_values_34 (lv_at hl 0 rfl) ?_
    refine lv_if_le (tgt := 43) hx hb dX14_values_36 (by decide) (fun c_21 => ?_) (fun c_21 => ?_)
    · have fc_21 := le_f c_21
      have b_22 : bd (-2147483648) 0 x_11 := leL fc_21 (bdT x_11) kb_0 (by decide)
      refine lv_iconst (v := 0) hx hb dX14_values_43 (by decide) ?_
      have kb_1 : bd 1 1 (1 : Int32) := ⟨by decide, by decide⟩
      refine lv_iadd hx hb dX14_values_44 ?_
      refine lv_topi (fun y_23 ey_23 => ?_)
      obtain rfl : y_23 = 1 := ey_23.trans (by decide)
      refine lv_iload hx hb dX14_values_45 (lv_at hl 0 rfl) ?_
      refine lv_iload_n hx hb dX14_values_47 rfl (lv_at hl 1 rfl) ?_
      refine lv_icmp_le (tgt := 55) hx hb dX14_values_48 (by decide) (fun c_24 => ?_) (fun c_24 => ?_)
      · have fc_24 := le_f c_24
        have b_25 : bd (-2147483648) (-1) x_11 := leL fc_24 b_22 b_20 (by decide)
        refine lv_iconst (v := 0) hx hb dX14_values_55 (by decide) ?_
        refine lv_iadd hx hb dX14_values_56 ?_
        refine lv_topi (fun y_26 ey_26 => ?_)
        obtain rfl : y_26 = 1 := ey_26.trans (by decide)
        subst hQ
        exact W.iret (v := 1) hx hb hr (fun t ht hW => ⟨⟨_, _, rfl, ⟨(bd_sub kb_1 (by decide)), trivial⟩, q3_of g hK ht hW⟩, g.2.2.1.F ht⟩) g.2.2.1.2.2 dX14_values_57
      · have fc_24 := nle_f c_24
        have b_27 : bd (-2147483647) 0 x_11 := ltR fc_24 b_20 b_22 (by decide)
        refine lv_iconst (v := 1) hx hb dX14_values_51 (by decide) ?_
        refine lv_goto (tgt := 56) hx hb dX14_values_52 (by decide) ?_
        refine lv_iadd hx hb dX14_values_56 ?_
        refine lv_topi (fun y_28 ey_28 => ?_)
        obtain rfl : y_28 = 2 := ey_28.trans (by decide)
        have kb_2 : bd 2 2 (2 : Int32) := ⟨by decide, by decide⟩
        subst hQ
        exact W.iret (v := 2) hx hb hr (fun t ht hW => ⟨⟨_, _, rfl, ⟨(bd_sub kb_2 (by decide)), trivial⟩, q3_of g hK ht hW⟩, g.2.2.1.F ht⟩) g.2.2.1.2.2 dX14_values_57
    · have fc_21 := nle_f c_21
      have b_29 : bd 1 2147483647 x_11 := ltR fc_21 kb_0 (bdT x_11) (by decide)
      refine lv_iconst (v := 1) hx hb dX14_values_39 (by decide) ?_
      refine lv_goto (tgt := 44) hx hb dX14_values_40 (by decide) ?_
      have kb_1 : bd 1 1 (1 : Int32) := ⟨by decide, by decide⟩
      refine lv_iadd hx hb dX14_values_44 ?_
      refine lv_topi (fun y_30 ey_30 => ?_)
      obtain rfl : y_30 = 2 := ey_30.trans (by decide)
      refine lv_iload hx hb dX14_values_45 (lv_at hl 0 rfl) ?_
      refine lv_iload_n hx hb dX14_values_47 rfl (lv_at hl 1 rfl) ?_
      refine lv_icmp_le (tgt := 55) hx hb dX14_values_48 (by decide) (fun c_31 => ?_) (fun c_31 => ?_)
      · have fc_31 := le_f c_31
        have b_32 : bd 1 (-1) x_11 := leL fc_31 b_29 b_20 (by decide)
        exact bd_no b_32 (by decide)
      · have fc_31 := nle_f c_31
        refine lv_iconst (v := 1) hx hb dX14_values_51 (by decide) ?_
        refine lv_goto (tgt := 56) hx hb dX14_values_52 (by decide) ?_
        have kb_2 : bd 2 2 (2 : Int32) := ⟨by decide, by decide⟩
        refine lv_iadd hx hb dX14_values_56 ?_
        refine lv_topi (fun y_33 ey_33 => ?_)
        obtain rfl : y_33 = 3 := ey_33.trans (by decide)
        have kb_3 : bd 3 3 (3 : Int32) := ⟨by decide, by decide⟩
        subst hQ
        exact W.iret (v := 3) hx hb hr (fun t ht hW => ⟨⟨_, _, rfl, ⟨(bd_sub kb_3 (by decide)), trivial⟩, q3_of g hK ht hW⟩, g.2.2.1.F ht⟩) g.2.2.1.2.2 dX14_values_57
set_option maxHeartbeats 4000000 in
set_option maxRecDepth 100000 in
theorem r_X14_values_6 (l : Launch) (dC : Nat → ClassId) (dI : Nat → Nat → Nat) (L : List Nat) (kd : Nat → Nat) (tys : List (ClassId × FieldType)) (f0 : Nat → va_E) (sz : Nat) (hWT : WT L kd tys f0) (a0_ : Nat) (ma0_ : a0_ ∈ L) (ka0_ : kd a0_ = 14) (x1_ : Int32) (bx1_ : bd 0 109 x1_) (x2_ : Int32) (bx2_ : bd 2 2 x2_) (y0_ : Int32) (by0_ : bd 1 4 y0_) (hfx : Fs L kd f0 [(14, 51, a0_, .int y0_)]) : Met l yX14_values (.code yX14_values cX14_values 5 (some .int) :: lw_g) ({ frames := 0, cells := 0, slots := 0, locals := 0 }) (va_Pc [.ref a0_, .int x1_, .int x2_] (P3 (dC, dI) L tys f0 sz)) (va_Qi (fun (r : Int32) (f : Nat → va_E) => (bd 1 3 r ∧ True)) (Q3 (dC, dI) L kd tys [] [] f0 sz) (pA L sz)) 0 0 (pA L sz) := by
  refine Met.ofW (cc := cX14_values) (maxL := 5) (ret := (some .int)) (by decide) rfl ?_
  intro p e s m args below meth c s₁ B hml hv
  obtain ⟨rfl, hsz, hP, hK, hD0⟩ := hv
  have hx := B.exec
  have hb := B.bytes
  have hr := B.returns
  have hts := atoms_spec (ws := (.code yX14_values cX14_values 5 (some .int) :: lw_g)) B.pre
  have hown : s.vm.findClass RX14 = some m.cls := findClass_of_methodNamed B.named
  have hlocks := B.notSynchronized
  subst hsz
  have g : G3 (dC, dI) L kd tys s f0 [] [] f0 s.heap [] [(14, 51, a0_, .int y0_)] := G3.start hP hD0 hWT hfx
  have hl := lv_entry ([.ref a0_, .int x1_, .int x2_]) (n := 5) (Nat.le_of_ble_eq_true rfl)
  rw [lg_entry_eq]
  generalize (lg_sl ([.ref a0_, .int x1_, .int x2_]) ++ List.replicate (5 - (lg_sl ([.ref a0_, .int x1_, .int x2_])).length) Slot.unset).toArray = ls at hl ⊢
  have hl : lv_has ls 5 [(0, .ref a0_), (1, .int x1_), (2, .int x2_)] := hl
  refine W_q (fun Q hQ => ?_)
  refine lv_aload_n hx hb dX14_values_0 rfl (lv_at hl 0 rfl) ?_
  refine g_getr (K := 12) (C := RX14) (T := TX14) (N := 67) hx hb hts (mc_ inX14) hown hK g ma0_ ka0_ (by decide) rfl 1 (by decide) rfl (hts _ (List.mem_cons_of_mem _ t_2147)) (fun _ h9 => h9) rfl dX14_values_1 (fun a_1 ma_1 ka_1 g => ?_)
  refine g_getr (K := 176) (C := RX12) (T := TX12) (N := 60) hx hb hts (mc_ inX12) hown hK g ma_1 ka_1 (by decide) rfl 20 (by decide) rfl (hts _ (List.mem_cons_of_mem _ t_1946)) (fun _ h9 => h9) rfl dX14_values_4 (fun a_2 ma_2 ka_2 g => ?_)
  refine lv_iconst (v := 3) hx hb dX14_values_7 (by decide) ?_
  refine lv_iload_n hx hb dX14_values_8 rfl (lv_at hl 1 rfl) ?_
  refine lv_imul hx hb dX14_values_9 ?_
  refine lv_topi (fun y_3 ey_3 => ?_)
  have ty_3 := cmul_bd ey_3 (c := 3) (by decide) bx1_ (by decide)
  have b_4 : bd 0 327 y_3 := mulc_rg ty_3 bx1_ (by decide)
  refine lv_iload_n hx hb dX14_values_10 rfl (lv_at hl 2 rfl) ?_
  refine lv_iadd hx hb dX14_values_11 ?_
  refine lv_topi (fun y_5 ey_5 => ?_)
  have ty_5 := add_bd ey_5 b_4 bx2_ (by decide)
  have b_6 : bd 2 329 y_5 := add_rg ty_5 b_4 bx2_ (by decide)
  refine g_iald hx hb hK g ma_2 ka_2 (by decide) rfl (in_bd b_6 (by decide)) dX14_values_12 (fun x_7 bx_7 cx_7 => ?_)
  refine lv_istore_n (lv' := [(3, .int x_7), (0, .ref a0_), (1, .int x1_), (2, .int x2_)]) hx hb dX14_values_13 rfl hl (by decide) rfl (fun ls hl => ?_)
  refine lv_aload_n hx hb dX14_values_14 rfl (lv_at hl 1 rfl) ?_
  refine g_getk (C := RX14) (T := TX14) (N := 67) hx hb hts (mc_ inX14) hown hK g rfl 1 (by decide) rfl (hts _ (List.mem_cons_of_mem _ t_2147)) (fun _ h9 => h9) 1 rfl dX14_values_15 ?_
  refine g_getr (K := 177) (C := RX12) (T := TX12) (N := 60) hx hb hts (mc_ inX12) hown hK g ma_1 ka_1 (by decide) rfl 21 (by decide) rfl (hts _ (List.mem_cons_of_mem _ t_1948)) (fun _ h9 => h9) rfl dX14_values_18 (fun a_8 ma_8 ka_8 g => ?_)
  refine lv_iconst (v := 3) hx hb dX14_values_21 (by decide) ?_
  refine lv_iload_n hx hb dX14_values_22 rfl (lv_at hl 2 rfl) ?_
  refine lv_imul hx hb dX14_values_23 ?_
  refine lv_topi (fun y_9 ey_9 => ?_)
  obtain rfl : y_3 = y_9 := ey_3.trans ey_9.symm
  refine lv_iload_n hx hb dX14_values_24 rfl (lv_at hl 3 rfl) ?_
  refine lv_iadd hx hb dX14_values_25 ?_
  refine lv_topi (fun y_10 ey_10 => ?_)
  obtain rfl : y_5 = y_10 := ey_5.trans ey_10.symm
  refine g_iald hx hb hK g ma_8 ka_8 (by decide) rfl (in_bd b_6 (by decide)) dX14_values_26 (fun x_11 bx_11 cx_11 => ?_)
  refine lv_istore (lv' := [(4, .int x_11), (3, .int x_7), (0, .ref a0_), (1, .int x1_), (2, .int x2_)]) hx hb dX14_values_27 hl (by decide) rfl (fun ls hl => ?_)
  refine lv_iconst (v := 1) hx hb dX14_values_29 (by decide) ?_
  refine lv_iload_n hx hb dX14_values_30 rfl (lv_at hl 1 rfl) ?_
  have kb_0 : bd 0 0 (0 : Int32) := ⟨by decide, by decide⟩
  refine lv_if_ge (tgt := 43) hx hb dX14_values_31 (by decide) (fun c_12 => ?_) (fun c_12 => ?_)
  · have fc_12 := le_f c_12
    have b_13 : bd 0 2147483647 x_7 := leR fc_12 kb_0 (bdT x_7) (by decide)
    refine lv_iconst (v := 0) hx hb dX14_values_43 (by decide) ?_
    have kb_1 : bd 1 1 (1 : Int32) := ⟨by decide, by decide⟩
    refine lv_iadd hx hb dX14_values_44 ?_
    refine lv_topi (fun y_14 ey_14 => ?_)
    obtain rfl : y_14 = 1 := ey_14.trans (by decide)
    refine lv_iload hx hb dX14_values_45 (lv_at hl 0 rfl) ?_
    refine lv_iload_n hx hb dX14_values_47 rfl (lv_at hl 1 rfl) ?_
    refine lv_icmp_le (tgt := 55) hx hb dX14_values_48 (by decide) (fun c_15 => ?_) (fun c_15 => ?_)
    · have fc_15 := le_f c_15
      refine lv_iconst (v := 0) hx hb dX14_values_55 (by decide) ?_
      refine lv_iadd hx hb dX14_values_56 ?_
      refine lv_topi (fun y_16 ey_16 => ?_)
      obtain rfl : y_16 = 1 := ey_16.trans (by decide)
      subst hQ
      exact W.iret (v := 1) hx hb hr (fun t ht hW => ⟨⟨_, _, rfl, ⟨(bd_sub kb_1 (by decide)), trivial⟩, q3_of g hK ht hW⟩, g.2.2.1.F ht⟩) g.2.2.1.2.2 dX14_values_57
    · have fc_15 := nle_f c_15
      have b_17 : bd 0 2147483646 x_7 := ltL fc_15 b_13 (bdT x_11) (by decide)
      have b_18 : bd 1 2147483647 x_11 := ltR fc_15 b_13 (bdT x_11) (by decide)
      refine lv_iconst (v := 1) hx hb dX14_values_51 (by decide) ?_
      refine lv_goto (tgt := 56) hx hb dX14_values_52 (by decide) ?_
      refine lv_iadd hx hb dX14_values_56 ?_
      refine lv_topi (fun y_19 ey_19 => ?_)
      obtain rfl : y_19 = 2 := ey_19.trans (by decide)
      have kb_2 : bd 2 2 (2 : Int32) := ⟨by decide, by decide⟩
      subst hQ
      exact W.iret (v := 2) hx hb hr (fun t ht hW => ⟨⟨_, _, rfl, ⟨(bd_sub kb_2 (by decide)), trivial⟩, q3_of g hK ht hW⟩, g.2.2.1.F ht⟩) g.2.2.1.2.2 dX14_values_57
  · have fc_12 := nle_f c_12
    have b_20 : bd (-2147483648) (-1) x_7 := ltL fc_12 (bdT x_7) kb_0 (by decide)
    refine lv_iload hx hb dX14_values_34 (lv_at hl 0 rfl) ?_
    refine lv_if_le (tgt := 43) hx hb dX14_values_36 (by decide) (fun c_21 => ?_) (fun c_21 => ?_)
    · have fc_21 := le_f c_21
      have b_22 : bd (-2147483648) 0 x_11 := leL fc_21 (bdT x_11) kb_0 (by decide)
      refine lv_iconst (v := 0) hx hb dX14_values_43 (by decide) ?_
      have kb_1 : bd 1 1 (1 : Int32) := ⟨by decide, by decide⟩
      refine lv_iadd hx hb dX14_values_44 ?_
      refine lv_topi (fun y_23 ey_23 => ?_)
      obtain rfl : y_23 = 1 := ey_23.trans (by decide)
      refine lv_iload hx hb dX14_values_45 (lv_at hl 0 rfl) ?_
      refine lv_iload_n hx hb dX14_values_47 rfl (lv_at hl 1 rfl) ?_
      refine lv_icmp_le (tgt := 55) hx hb dX14_values_48 (by decide) (fun c_24 => ?_) (fun c_24 => ?_)
      · have fc_24 := le_f c_24
        have b_25 : bd (-2147483648) (-1) x_11 := leL fc_24 b_22 b_20 (by decide)
        refine lv_iconst (v := 0) hx hb dX14_values_55 (by decide) ?_
        refine lv_iadd hx hb dX14_values_56 ?_
        refine lv_topi (fun y_26 ey_26 => ?_)
        obtain rfl : y_26 = 1 := ey_26.trans (by decide)
        subst hQ
        exact W.iret (v := 1) hx hb hr (fun t ht hW => ⟨⟨_, _, rfl, ⟨(bd_sub kb_1 (by decide)), trivial⟩, q3_of g hK ht hW⟩, g.2.2.1.F ht⟩) g.2.2.1.2.2 dX14_values_57
      · have fc_24 := nle_f c_24
        have b_27 : bd (-2147483647) 0 x_11 := ltR fc_24 b_20 b_22 (by decide)
        refine lv_iconst (v := 1) hx hb dX14_values_51 (by decide) ?_
        refine lv_goto (tgt := 56) hx hb dX14_values_52 (by decide) ?_
        refine lv_iadd hx hb dX14_values_56 ?_
        refine lv_topi (fun y_28 ey_28 => ?_)
        obtain rfl : y_28 = 2 := ey_28.trans (by decide)
        have kb_2 : bd 2 2 (2 : Int32) := ⟨by decide, by decide⟩
        subst hQ
        exact W.iret (v := 2) hx hb hr (fun t ht hW => ⟨⟨_, _, rfl, ⟨(bd_sub kb_2 (by decide)), trivial⟩, q3_of g hK ht hW⟩, g.2.2.1.F ht⟩) g.2.2.1.2.2 dX14_values_57
    · have fc_21 := nle_f c_21
      have b_29 : bd 1 2147483647 x_11 := ltR fc_21 kb_0 (bdT x_11) (by decide)
      refine lv_iconst (v := 1) hx hb dX14_values_39 (by decide) ?_
      refine lv_goto (tgt := 44) hx hb dX14_values_40 (by decide) ?_
      have kb_1 : bd 1 1 (1 : Int32) := ⟨by decide, by decide⟩
      refine lv_iadd hx hb dX14_values_44 ?_
      refine lv_topi (fun y_30 ey_30 => ?_)
      obtain rfl : y_30 = 2 := ey_30.trans (by decide)
      refine lv_iload hx hb dX14_values_45 (lv_at hl 0 rfl) ?_
      refine lv_iload_n hx hb dX14_values_47 rfl (lv_at hl 1 rfl) ?_
      refine lv_icmp_le (tgt := 55) hx hb dX14_values_48 (by decide) (fun c_31 => ?_) (fun c_31 => ?_)
      · have fc_31 := le_f c_31
        have b_32 : bd 1 (-1) x_11 := leL fc_31 b_29 b_20 (by decide)
        exact bd_no b_32 (by decide)
      · have fc_31 := nle_f c_31
        refine lv_iconst (v := 1) hx hb dX14_values_51 (by decide) ?_
        refine lv_goto (tgt := 56) hx hb dX14_values_52 (by decide) ?_
        have kb_2 : bd 2 2 (2 : Int32) := ⟨by decide, by decide⟩
        refine lv_iadd hx hb dX14_values_56 ?_
        refine lv_topi (fun y_33 ey_33 => ?_)
        obtain rfl : y_33 = 3 := ey_33.trans (by decide)
        have kb_3 : bd 3 3 (3 : Int32) := ⟨by decide, by decide⟩
        subst hQ
        exact W.iret (v := 3) hx hb hr (fun t ht hW => ⟨⟨_, _, rfl, ⟨(bd_sub kb_3 (by decide)), trivial⟩, q3_of g hK ht hW⟩, g.2.2.1.F ht⟩) g.2.2.1.2.2 dX14_values_57
