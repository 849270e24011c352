set_option maxHeartbeats 4000000 in
set_option maxRecDepth 100000 in
theorem whole_start {p : Program} {e : Env} {s : State} {m : MethodId} {below : List Frame} {meth : Method} {c : Code} (l : Launch) {b L : Nat} {xs : Nat → Int32} (hL : L ≤ 6) (C0 : lw_At p s m meth c b L xs) : W p l e room_1 s m #[Value.ref b] below meth c s.heap [] 0 0 (lw_Z below #[Value.ref b] s) (entryFrame m ([Value.ref b] : List Value).toArray 4) := by
  obtain ⟨hx, hb, hr, hml, hown, hts, hX, hbl, hlocks, hgv⟩ := id C0
  obtain ⟨A, hAd⟩ : ∃ A : Nat → Prop, A = fun q : Nat => s.heap.size ≤ q := ⟨_, rfl⟩
  have hA : ∀ q : Nat, s.heap.size ≤ q → A q := fun q h => by rw [hAd]; exact h
  have hfg : ∀ q : Nat, A q → s.heap.size ≤ q := fun q h => by rw [hAd] at h; exact h
  have hnA : ∀ a : Nat, a < s.heap.size → ¬ A a := fun a h z => Nat.lt_irrefl _ (Nat.lt_of_lt_of_le h (hfg a z))
  have hbA : ¬ A b := hnA b hbl
  obtain ⟨dC, dI, hKc⟩ := law_known hts
  obtain ⟨adK, adV, hAm⟩ := law_amb hts hgv hnA
  have hCa : va_Nw (.castable RX13 RX13) s := va_Nw.of rfl (hts _ (List.mem_of_getElem? (i := 1838) (by decide +kernel)))
  have hS : va_S A s.heap s.heap [] := va_S.rf
  have hK : va_K (dC, dI) vwCl [] s := ⟨hKc, fun k q h => by simp at h⟩
  have hP : va_P (dC, dI) vwCl [] s.heap := fun k q h => by simp at h
  have hD : va_D A [] := ⟨fun i j p q h => by simp at h, fun k q h => by simp at h⟩
  have hl := lv_entry ([.ref b]) (n := 4) (Nat.le_of_ble_eq_true rfl)
  rw [lg_entry_eq]
  generalize (lg_sl ([.ref b]) ++ List.replicate (4 - (lg_sl ([.ref b])).length) Slot.unset).toArray = ls at hl ⊢
  have hl : lv_has ls 4 [(0, .ref b)] := hl
  refine va_new (ci := 11) (fs := [.null, .int 0, .null, .null, .null, .null, .int 0, .int 0]) (C := RX11) (T := TX11) (N := 8) hx hb hts (mcL_ inX11) tyX11 tyX11_ok hown (hts _ (gt_ _ t_207)) (hts _ (gt_ _ t_208)) (hts _ (gt_ _ t_182)) hK hP hD hS hA rfl dfX11 (Nat.le_of_ble_eq_true rfl) (Nat.le_of_ble_eq_true rfl) dL_law_0 (fun q_1 H hP hD hS => ?_)
  have hP : va_P (dC, dI) vwCl [(q_1, .inr (11, [.null, .int 0, .null, .null, .null, .null, .int 0, .int 0]))] H := hP
  have hD : va_D A [(q_1, .inr (11, [.null, .int 0, .null, .null, .null, .null, .int 0, .int 0]))] := hD
  refine W.widen (k := 1) (n := 8) (Nat.le_of_ble_eq_true rfl) (Nat.le_of_ble_eq_true rfl) ?_
  refine lv_dup hx hb dL_law_3 rfl ?_
  have hPc := hP.sub (ws' := [(q_1, .inr (11, [.null, .int 0, .null, .null, .null, .null, .int 0, .int 0]))]) [0] rfl
  have hDc := hD.sub (ws' := [(q_1, .inr (11, [.null, .int 0, .null, .null, .null, .null, .int 0, .int 0]))]) [0] (by decide) rfl
  have hKc := hK.sub (tys' := []) [] rfl
  have hFc := va_free (wc := [(q_1, .inr (11, [.null, .int 0, .null, .null, .null, .null, .int 0, .int 0]))]) hD hS hA [0] rfl
  refine va_callv (va_runI (As := []) (rest := [.ref q_1]) ⟨hx, hb, hml, hown, hts⟩ (c_X11_init l dC dI adK adV q_1 H.size) (cwI 0 hts (gIL_ t_211) rfl rfl rfl (hts _ (gt_ _ t_182)) (hts _ (gt_ _ t_209)) (hts _ (gt_ _ t_210)) rfl (by decide +kernel) ⟨(Nat.le_of_ble_eq_true rfl), (Nat.le_of_ble_eq_true rfl)⟩) ⟨fun a U g mk q => by obtain ⟨q0, q1, qP, qK, qD, qM⟩ := q; exact ⟨q0, q1, qP, va_K.moved (u := U) (U := U.calling g mk a) (Vm.Alike.refl U.vm) qK, qD, am_.same (U := U.calling g mk a) rfl qM⟩, fun U hU hW => ⟨rfl, by rw [hU], by rw [hU]; exact hPc, va_K.moved hW.alike hKc, hDc.weaken (fun _ _ _ _ => trivial), by rw [hU]; exact ((hAm.kept hS.2.1).narrow hFc).warm hW⟩⟩ rfl rfl hl.1 rfl (lv_room (Nat.le_of_ble_eq_true rfl)) dL_law_4 ⟨(Nat.le_of_ble_eq_true rfl), (Nat.le_of_ble_eq_true rfl)⟩) hS (fun q _ h => hFc q h) hFc (fun u_ t H1 locs ht hvm hw hB hz1 hk1 hS => ?_)
  obtain ⟨q_3, q_4, q_5, q_6, q_7, k_8, q_9, q_10, q_11, q_12, q_13, q_14, q_15, q_16, q_17, q_18, q_19, q_20, k_21, k_22, k_23, k_24, f_25, q_26, q_27, q_28, q_29, q_30, q_31, q_32, q_33, q_34, q_35, q_36, q_37, q_38, q_39, k_40, f_41, k_42, f_43, q_44, q_45, q_46, q_47, q_48, q_49, q_50, q_51, q_52, q_53, q_54, q_55, k_56, f_57, k_58, f_59, q_60, q_61, q_62, q_63, q_64, q_65, q_66, q_67, q_68, q_69, q_70, q_71, q_72, q_73, q_74, q_75, hP1, hK1, hD1⟩ := hB
  rw [ht] at hP1
  have hK1 := va_K.moved hvm.symm hK1
  obtain ⟨hP, hD⟩ := va_join (wr := []) (w1 := [(q_1, .inr (11, [.ref q_3, .int 0, .ref q_4, .ref q_5, .ref q_6, .ref q_7, .int 0, .int (-1)])), (q_3, .inl (k_8, 4000, .inl (fun _ => 0))), (q_4, .inr (2, [.ref q_9, .ref q_10, .ref q_11, .null, .null, .null, .int 0, .ref q_12, .ref q_13, .ref q_14, .ref q_15, .int 0, .int 0, .int 0, .int 0, .int 0])), (q_9, .inr (8, [.ref q_16, .ref q_17, .ref q_18, .ref q_19, .ref q_20, .int 0, .int 0, .int 0, .int 0, .int (-1)])), (q_16, .inl (k_21, 1202, .inl (fun _ => 0))), (q_17, .inl (k_22, 1202, .inl (fun _ => 0))), (q_18, .inl (k_23, 1202, .inr (.inl (fun _ => 0)))), (q_19, .inl (k_24, 21, .inr (.inl f_25))), (q_10, .inr (5, [.null, .null, .int 0, .ref q_26, .int 0, .ref q_27, .int 0, .int 0, .int 0])), (q_6, .inr (7, [.ref q_28, .int 0, .ref q_29, .int 0, .ref q_30, .ref q_31, .int 0, .ref q_32, .ref q_33, .ref q_34, .ref q_35, .ref q_36, .ref q_37, .int 0, .ref q_38, .int 0, .ref q_39, .int 0, .int 0])), (q_28, .inl (k_40, 8, .inr (.inr (.inr (.inr f_41))))), (q_29, .inl (k_42, 96, .inr (.inr (.inr (.inr f_43))))), (q_7, .inr (7, [.ref q_44, .int 0, .ref q_45, .int 0, .ref q_46, .ref q_47, .int 0, .ref q_48, .ref q_49, .ref q_50, .ref q_51, .ref q_52, .ref q_53, .int 0, .ref q_54, .int 0, .ref q_55, .int 0, .int 0])), (q_44, .inl (k_56, 8, .inr (.inr (.inr (.inr f_57))))), (q_45, .inl (k_58, 96, .inr (.inr (.inr (.inr f_59))))), (q_5, .inr (10, [.ref q_6, .ref q_60, .ref q_61, .ref q_62, .ref q_63, .ref q_64, .int 0, .int 0, .int 0, .int 0])), (q_61, .inr (3, [.int 0, .ref q_65, .ref q_66, .ref q_67, .int 0, .ref q_68])), (q_63, .inr (4, [.int 0, .int (-1), .int (-1), .int (-1), .int (-1), .long 0, .int 0, .ref q_69, .ref q_70, .ref q_71, .ref q_72, .ref q_73, .ref q_74, .ref q_75, .int 0, .int 0, .int 0]))]) hP hD [0] [] rfl rfl (by decide) (by decide) hk1 hFc hP1 hD1
  have hK := (hK.sub (tys' := []) [] rfl).app hK1
  generalize H1 = H at hP hS ⊢
  have hP : va_P (dC, dI) vwCl [(q_1, .inr (11, [.ref q_3, .int 0, .ref q_4, .ref q_5, .ref q_6, .ref q_7, .int 0, .int (-1)])), (q_3, .inl (k_8, 4000, .inl (fun _ => 0))), (q_4, .inr (2, [.ref q_9, .ref q_10, .ref q_11, .null, .null, .null, .int 0, .ref q_12, .ref q_13, .ref q_14, .ref q_15, .int 0, .int 0, .int 0, .int 0, .int 0])), (q_9, .inr (8, [.ref q_16, .ref q_17, .ref q_18, .ref q_19, .ref q_20, .int 0, .int 0, .int 0, .int 0, .int (-1)])), (q_16, .inl (k_21, 1202, .inl (fun _ => 0))), (q_17, .inl (k_22, 1202, .inl (fun _ => 0))), (q_18, .inl (k_23, 1202, .inr (.inl (fun _ => 0)))), (q_19, .inl (k_24, 21, .inr (.inl f_25))), (q_10, .inr (5, [.null, .null, .int 0, .ref q_26, .int 0, .ref q_27, .int 0, .int 0, .int 0])), (q_6, .inr (7, [.ref q_28, .int 0, .ref q_29, .int 0, .ref q_30, .ref q_31, .int 0, .ref q_32, .ref q_33, .ref q_34, .ref q_35, .ref q_36, .ref q_37, .int 0, .ref q_38, .int 0, .ref q_39, .int 0, .int 0])), (q_28, .inl (k_40, 8, .inr (.inr (.inr (.inr f_41))))), (q_29, .inl (k_42, 96, .inr (.inr (.inr (.inr f_43))))), (q_7, .inr (7, [.ref q_44, .int 0, .ref q_45, .int 0, .ref q_46, .ref q_47, .int 0, .ref q_48, .ref q_49, .ref q_50, .ref q_51, .ref q_52, .ref q_53, .int 0, .ref q_54, .int 0, .ref q_55, .int 0, .int 0])), (q_44, .inl (k_56, 8, .inr (.inr (.inr (.inr f_57))))), (q_45, .inl (k_58, 96, .inr (.inr (.inr (.inr f_59))))), (q_5, .inr (10, [.ref q_6, .ref q_60, .ref q_61, .ref q_62, .ref q_63, .ref q_64, .int 0, .int 0, .int 0, .int 0])), (q_61, .inr (3, [.int 0, .ref q_65, .ref q_66, .ref q_67, .int 0, .ref q_68])), (q_63, .inr (4, [.int 0, .int (-1), .int (-1), .int (-1), .int (-1), .long 0, .int 0, .ref q_69, .ref q_70, .ref q_71, .ref q_72, .ref q_73, .ref q_74, .ref q_75, .int 0, .int 0, .int 0]))] H := hP
  have hD : va_D A [(q_1, .inr (11, [.ref q_3, .int 0, .ref q_4, .ref q_5, .ref q_6, .ref q_7, .int 0, .int (-1)])), (q_3, .inl (k_8, 4000, .inl (fun _ => 0))), (q_4, .inr (2, [.ref q_9, .ref q_10, .ref q_11, .null, .null, .null, .int 0, .ref q_12, .ref q_13, .ref q_14, .ref q_15, .int 0, .int 0, .int 0, .int 0, .int 0])), (q_9, .inr (8, [.ref q_16, .ref q_17, .ref q_18, .ref q_19, .ref q_20, .int 0, .int 0, .int 0, .int 0, .int (-1)])), (q_16, .inl (k_21, 1202, .inl (fun _ => 0))), (q_17, .inl (k_22, 1202, .inl (fun _ => 0))), (q_18, .inl (k_23, 1202, .inr (.inl (fun _ => 0)))), (q_19, .inl (k_24, 21, .inr (.inl f_25))), (q_10, .inr (5, [.null, .null, .int 0, .ref q_26, .int 0, .ref q_27, .int 0, .int 0, .int 0])), (q_6, .inr (7, [.ref q_28, .int 0, .ref q_29, .int 0, .ref q_30, .ref q_31, .int 0, .ref q_32, .ref q_33, .ref q_34, .ref q_35, .ref q_36, .ref q_37, .int 0, .ref q_38, .int 0, .ref q_39, .int 0, .int 0])), (q_28, .inl (k_40, 8, .inr (.inr (.inr (.inr f_41))))), (q_29, .inl (k_42, 96, .inr (.inr (.inr (.inr f_43))))), (q_7, .inr (7, [.ref q_44, .int 0, .ref q_45, .int 0, .ref q_46, .ref q_47, .int 0, .ref q_48, .ref q_49, .ref q_50, .ref q_51, .ref q_52, .ref q_53, .int 0, .ref q_54, .int 0, .ref q_55, .int 0, .int 0])), (q_44, .inl (k_56, 8, .inr (.inr (.inr (.inr f_57))))), (q_45, .inl (k_58, 96, .inr (.inr (.inr (.inr f_59))))), (q_5, .inr (10, [.ref q_6, .ref q_60, .ref q_61, .ref q_62, .ref q_63, .ref q_64, .int 0, .int 0, .int 0, .int 0])), (q_61, .inr (3, [.int 0, .ref q_65, .ref q_66, .ref q_67, .int 0, .ref q_68])), (q_63, .inr (4, [.int 0, .int (-1), .int (-1), .int (-1), .int (-1), .long 0, .int 0, .ref q_69, .ref q_70, .ref q_71, .ref q_72, .ref q_73, .ref q_74, .ref q_75, .int 0, .int 0, .int 0]))] := hD
  have hK : va_K (dC, dI) vwCl [(k_8, .byte), (k_21, .int), (k_22, .int), (k_23, .long), (k_24, .long), (k_40, .object RX9), (k_42, .object RX6), (k_56, .object RX9), (k_58, .object RX6)] s := hK
  refine W.widen (k := 784) (n := 31693) (Nat.le_of_ble_eq_true rfl) (Nat.le_of_ble_eq_true rfl) ?_
  refine lv_astore_n (lv' := [(1, .ref q_1), (0, .ref b)]) hx hb dL_law_7 rfl hl (by decide) rfl (fun ls hl => ?_)
  refine va_new (ci := 14) (fs := [.null, .null, .null, .null, .int 0, .int 0, .int 0, .int 0, .int 0, .int 0, .int 0, .long 0, .long 0, .long 0, .int 0, .int 0, .int 0, .int 0, .null, .null, .int 0, .int 0, .int 0, .int 0, .int 0, .int 0, .int 0, .null, .null, .null, .int 0, .int 0, .long 0, .long 0, .int 0, .int 0, .int 0, .int 0, .int 0, .long 0, .long 0, .null, .null, .null, .null, .int 0, .null, .null, .null, .null, .null, .int 0, .int 0, .int 0, .null, .int 0, .null, .null, .int 0, .int 0, .int 0, .int 0, .null, .null, .null, .int 0, .int 0]) (C := RX14) (T := TX14) (N := 67) hx hb hts (mcL_ inX14) tyX14 tyX14_ok hown (hts _ (gt_ _ t_1830)) (hts _ (gt_ _ t_1831)) (hts _ (gt_ _ t_198)) hK hP hD hS hA rfl dfX14 (Nat.le_of_ble_eq_true rfl) (Nat.le_of_ble_eq_true rfl) dL_law_8 (fun q_76 H hP hD hS => ?_)
  have hP : va_P (dC, dI) vwCl [(q_1, .inr (11, [.ref q_3, .int 0, .ref q_4, .ref q_5, .ref q_6, .ref q_7, .int 0, .int (-1)])), (q_3, .inl (k_8, 4000, .inl (fun _ => 0))), (q_4, .inr (2, [.ref q_9, .ref q_10, .ref q_11, .null, .null, .null, .int 0, .ref q_12, .ref q_13, .ref q_14, .ref q_15, .int 0, .int 0, .int 0, .int 0, .int 0])), (q_9, .inr (8, [.ref q_16, .ref q_17, .ref q_18, .ref q_19, .ref q_20, .int 0, .int 0, .int 0, .int 0, .int (-1)])), (q_16, .inl (k_21, 1202, .inl (fun _ => 0))), (q_17, .inl (k_22, 1202, .inl (fun _ => 0))), (q_18, .inl (k_23, 1202, .inr (.inl (fun _ => 0)))), (q_19, .inl (k_24, 21, .inr (.inl f_25))), (q_10, .inr (5, [.null, .null, .int 0, .ref q_26, .int 0, .ref q_27, .int 0, .int 0, .int 0])), (q_6, .inr (7, [.ref q_28, .int 0, .ref q_29, .int 0, .ref q_30, .ref q_31, .int 0, .ref q_32, .ref q_33, .ref q_34, .ref q_35, .ref q_36, .ref q_37, .int 0, .ref q_38, .int 0, .ref q_39, .int 0, .int 0])), (q_28, .inl (k_40, 8, .inr (.inr (.inr (.inr f_41))))), (q_29, .inl (k_42, 96, .inr (.inr (.inr (.inr f_43))))), (q_7, .inr (7, [.ref q_44, .int 0, .ref q_45, .int 0, .ref q_46, .ref q_47, .int 0, .ref q_48, .ref q_49, .ref q_50, .ref q_51, .ref q_52, .ref q_53, .int 0, .ref q_54, .int 0, .ref q_55, .int 0, .int 0])), (q_44, .inl (k_56, 8, .inr (.inr (.inr (.inr f_57))))), (q_45, .inl (k_58, 96, .inr (.inr (.inr (.inr f_59))))), (q_5, .inr (10, [.ref q_6, .ref q_60, .ref q_61, .ref q_62, .ref q_63, .ref q_64, .int 0, .int 0, .int 0, .int 0])), (q_61, .inr (3, [.int 0, .ref q_65, .ref q_66, .ref q_67, .int 0, .ref q_68])), (q_63, .inr (4, [.int 0, .int (-1), .int (-1), .int (-1), .int (-1), .long 0, .int 0, .ref q_69, .ref q_70, .ref q_71, .ref q_72, .ref q_73, .ref q_74, .ref q_75, .int 0, .int 0, .int 0])), (q_76, .inr (14, [.null, .null, .null, .null, .int 0, .int 0, .int 0, .int 0, .int 0, .int 0, .int 0, .long 0, .long 0, .long 0, .int 0, .int 0, .int 0, .int 0, .null, .null, .int 0, .int 0, .int 0, .int 0, .int 0, .int 0, .int 0, .null, .null, .null, .int 0, .int 0, .long 0, .long 0, .int 0, .int 0, .int 0, .int 0, .int 0, .long 0, .long 0, .null, .null, .null, .null, .int 0, .null, .null, .null, .null, .null, .int 0, .int 0, .int 0, .null, .int 0, .null, .null, .int 0, .int 0, .int 0, .int 0, .null, .null, .null, .int 0, .int 0]))] H := hP
  have hD : va_D A [(q_1, .inr (11, [.ref q_3, .int 0, .ref q_4, .ref q_5, .ref q_6, .ref q_7, .int 0, .int (-1)])), (q_3, .inl (k_8, 4000, .inl (fun _ => 0))), (q_4, .inr (2, [.ref q_9, .ref q_10, .ref q_11, .null, .null, .null, .int 0, .ref q_12, .ref q_13, .ref q_14, .ref q_15, .int 0, .int 0, .int 0, .int 0, .int 0])), (q_9, .inr (8, [.ref q_16, .ref q_17, .ref q_18, .ref q_19, .ref q_20, .int 0, .int 0, .int 0, .int 0, .int (-1)])), (q_16, .inl (k_21, 1202, .inl (fun _ => 0))), (q_17, .inl (k_22, 1202, .inl (fun _ => 0))), (q_18, .inl (k_23, 1202, .inr (.inl (fun _ => 0)))), (q_19, .inl (k_24, 21, .inr (.inl f_25))), (q_10, .inr (5, [.null, .null, .int 0, .ref q_26, .int 0, .ref q_27, .int 0, .int 0, .int 0])), (q_6, .inr (7, [.ref q_28, .int 0, .ref q_29, .int 0, .ref q_30, .ref q_31, .int 0, .ref q_32, .ref q_33, .ref q_34, .ref q_35, .ref q_36, .ref q_37, .int 0, .ref q_38, .int 0, .ref q_39, .int 0, .int 0])), (q_28, .inl (k_40, 8, .inr (.inr (.inr (.inr f_41))))), (q_29, .inl (k_42, 96, .inr (.inr (.inr (.inr f_43))))), (q_7, .inr (7, [.ref q_44, .int 0, .ref q_45, .int 0, .ref q_46, .ref q_47, .int 0, .ref q_48, .ref q_49, .ref q_50, .ref q_51, .ref q_52, .ref q_53, .int 0, .ref q_54, .int 0, .ref q_55, .int 0, .int 0])), (q_44, .inl (k_56, 8, .inr (.inr (.inr (.inr f_57))))), (q_45, .inl (k_58, 96, .inr (.inr (.inr (.inr f_59))))), (q_5, .inr (10, [.ref q_6, .ref q_60, .ref q_61, .ref q_62, .ref q_63, .ref q_64, .int 0, .int 0, .int 0, .int 0])), (q_61, .inr (3, [.int 0, .ref q_65, .ref q_66, .ref q_67, .int 0, .ref q_68])), (q_63, .inr (4, [.int 0, .int (-1), .int (-1), .int (-1), .int (-1), .long 0, .int 0, .ref q_69, .ref q_70, .ref q_71, .ref q_72, .ref q_73, .ref q_74, .ref q_75, .int 0, .int 0, .int 0])), (q_76, .inr (14, [.null, .null, .null, .null, .int 0, .int 0, .int 0, .int 0, .int 0, .int 0, .int 0, .long 0, .long 0, .long 0, .int 0, .int 0, .int 0, .int 0, .null, .null, .int 0, .int 0, .int 0, .int 0, .int 0, .int 0, .int 0, .null, .null, .null, .int 0, .int 0, .long 0, .long 0, .int 0, .int 0, .int 0, .int 0, .int 0, .long 0, .long 0, .null, .null, .null, .null, .int 0, .null, .null, .null, .null, .null, .int 0, .int 0, .int 0, .null, .int 0, .null, .null, .int 0, .int 0, .int 0, .int 0, .null, .null, .null, .int 0, .int 0]))] := hD
  refine W.widen (k := 785) (n := 31760) (Nat.le_of_ble_eq_true rfl) (Nat.le_of_ble_eq_true rfl) ?_
  refine lv_dup hx hb dL_law_11 rfl ?_
  have hPc := hP.sub (ws' := [(q_76, .inr (14, [.null, .null, .null, .null, .int 0, .int 0, .int 0, .int 0, .int 0, .int 0, .int 0, .long 0, .long 0, .long 0, .int 0, .int 0, .int 0, .int 0, .null, .null, .int 0, .int 0, .int 0, .int 0, .int 0, .int 0, .int 0, .null, .null, .null, .int 0, .int 0, .long 0, .long 0, .int 0, .int 0, .int 0, .int 0, .int 0, .long 0, .long 0, .null, .null, .null, .null, .int 0, .null, .null, .null, .null, .null, .int 0, .int 0, .int 0, .null, .int 0, .null, .null, .int 0, .int 0, .int 0, .int 0, .null, .null, .null, .int 0, .int 0]))]) [18] rfl
  have hDc := hD.sub (ws' := [(q_76, .inr (14, [.null, .null, .null, .null, .int 0, .int 0, .int 0, .int 0, .int 0, .int 0, .int 0, .long 0, .long 0, .long 0, .int 0, .int 0, .int 0, .int 0, .null, .null, .int 0, .int 0, .int 0, .int 0, .int 0, .int 0, .int 0, .null, .null, .null, .int 0, .int 0, .long 0, .long 0, .int 0, .int 0, .int 0, .int 0, .int 0, .long 0, .long 0, .null, .null, .null, .null, .int 0, .null, .null, .null, .null, .null, .int 0, .int 0, .int 0, .null, .int 0, .null, .null, .int 0, .int 0, .int 0, .int 0, .null, .null, .null, .int 0, .int 0]))]) [18] (by decide) rfl
  have hKc := hK.sub (tys' := []) [] rfl
  have hFc := va_free (wc := [(q_76, .inr (14, [.null, .null, .null, .null, .int 0, .int 0, .int 0, .int 0, .int 0, .int 0, .int 0, .long 0, .long 0, .long 0, .int 0, .int 0, .int 0, .int 0, .null, .null, .int 0, .int 0, .int 0, .int 0, .int 0, .int 0, .int 0, .null, .null, .null, .int 0, .int 0, .long 0, .long 0, .int 0, .int 0, .int 0, .int 0, .int 0, .long 0, .long 0, .null, .null, .null, .null, .int 0, .null, .null, .null, .null, .null, .int 0, .int 0, .int 0, .null, .int 0, .null, .null, .int 0, .int 0, .int 0, .int 0, .null, .null, .null, .int 0, .int 0]))]) hD hS hA [18] rfl
  refine va_callv (va_runI (As := []) (rest := [.ref q_76]) ⟨hx, hb, hml, hown, hts⟩ (c_X14_init l dC dI adK adV q_76 H.size) (cwI 0 hts (gIL_ t_1834) rfl rfl rfl (hts _ (gt_ _ t_198)) (hts _ (gt_ _ t_1832)) (hts _ (gt_ _ t_1833)) rfl (by decide +kernel) ⟨(Nat.le_of_ble_eq_true rfl), (Nat.le_of_ble_eq_true rfl)⟩) ⟨fun a U g mk q => by obtain ⟨q0, q1, qP, qK, qD, qM⟩ := q; exact ⟨q0, q1, qP, va_K.moved (u := U) (U := U.calling g mk a) (Vm.Alike.refl U.vm) qK, qD, am_.same (U := U.calling g mk a) rfl qM⟩, fun U hU hW => ⟨rfl, by rw [hU], by rw [hU]; exact hPc, va_K.moved hW.alike hKc, hDc.weaken (fun _ _ _ _ => trivial), by rw [hU]; exact ((hAm.kept hS.2.1).narrow hFc).warm hW⟩⟩ rfl rfl hl.1 rfl (lv_room (Nat.le_of_ble_eq_true rfl)) dL_law_12 ⟨(Nat.le_of_ble_eq_true rfl), (Nat.le_of_ble_eq_true rfl)⟩) hS (fun q _ h => hFc q h) hFc (fun u_ t H1 locs ht hvm hw hB hz1 hk1 hS => ?_)
  obtain ⟨q_78, q_79, q_80, q_81, q_82, q_83, q_84, q_85, q_86, q_87, q_88, q_89, q_90, q_91, q_92, q_93, q_94, q_95, q_96, q_97, q_98, q_99, q_100, q_101, q_102, q_103, q_104, q_105, q_106, q_107, q_108, q_109, q_110, q_111, q_112, q_113, q_114, q_115, q_116, q_117, q_118, q_119, q_120, q_121, q_122, q_123, q_124, q_125, q_126, q_127, q_128, q_129, q_130, q_131, q_132, q_133, q_134, q_135, q_136, q_137, q_138, q_139, q_140, q_141, q_142, q_143, q_144, q_145, q_146, q_147, q_148, q_149, q_150, q_151, q_152, q_153, q_154, q_155, q_156, q_157, q_158, q_159, q_160, q_161, q_162, q_163, q_164, q_165, q_166, q_167, q_168, q_169, q_170, q_171, q_172, q_173, q_174, q_175, q_176, q_177, q_178, q_179, q_180, q_181, q_182, q_183, q_184, q_185, q_186, q_187, q_188, q_189, q_190, q_191, q_192, q_193, q_194, q_195, q_196, q_197, q_198, q_199, q_200, q_201, q_202, q_203, q_204, q_205, q_206, q_207, q_208, q_209, q_210, q_211, k_212, k_213, k_214, hP1, hK1, hD1⟩ := hB
  rw [ht] at hP1
  have hK1 := va_K.moved hvm.symm hK1
  obtain ⟨hP, hD⟩ := va_join (wr := [(q_1, .inr (11, [.ref q_3, .int 0, .ref q_4, .ref q_5, .ref q_6, .ref q_7, .int 0, .int (-1)])), (q_3, .inl (k_8, 4000, .inl (fun _ => 0))), (q_4, .inr (2, [.ref q_9, .ref q_10, .ref q_11, .null, .null, .null, .int 0, .ref q_12, .ref q_13, .ref q_14, .ref q_15, .int 0, .int 0, .int 0, .int 0, .int 0])), (q_9, .inr (8, [.ref q_16, .ref q_17, .ref q_18, .ref q_19, .ref q_20, .int 0, .int 0, .int 0, .int 0, .int (-1)])), (q_16, .inl (k_21, 1202, .inl (fun _ => 0))), (q_17, .inl (k_22, 1202, .inl (fun _ => 0))), (q_18, .inl (k_23, 1202, .inr (.inl (fun _ => 0)))), (q_19, .inl (k_24, 21, .inr (.inl f_25))), (q_10, .inr (5, [.null, .null, .int 0, .ref q_26, .int 0, .ref q_27, .int 0, .int 0, .int 0])), (q_6, .inr (7, [.ref q_28, .int 0, .ref q_29, .int 0, .ref q_30, .ref q_31, .int 0, .ref q_32, .ref q_33, .ref q_34, .ref q_35, .ref q_36, .ref q_37, .int 0, .ref q_38, .int 0, .ref q_39, .int 0, .int 0])), (q_28, .inl (k_40, 8, .inr (.inr (.inr (.inr f_41))))), (q_29, .inl (k_42, 96, .inr (.inr (.inr (.inr f_43))))), (q_7, .inr (7, [.ref q_44, .int 0, .ref q_45, .int 0, .ref q_46, .ref q_47, .int 0, .ref q_48, .ref q_49, .ref q_50, .ref q_51, .ref q_52, .ref q_53, .int 0, .ref q_54, .int 0, .ref q_55, .int 0, .int 0])), (q_44, .inl (k_56, 8, .inr (.inr (.inr (.inr f_57))))), (q_45, .inl (k_58, 96, .inr (.inr (.inr (.inr f_59))))), (q_5, .inr (10, [.ref q_6, .ref q_60, .ref q_61, .ref q_62, .ref q_63, .ref q_64, .int 0, .int 0, .int 0, .int 0])), (q_61, .inr (3, [.int 0, .ref q_65, .ref q_66, .ref q_67, .int 0, .ref q_68])), (q_63, .inr (4, [.int 0, .int (-1), .int (-1), .int (-1), .int (-1), .long 0, .int 0, .ref q_69, .ref q_70, .ref q_71, .ref q_72, .ref q_73, .ref q_74, .ref q_75, .int 0, .int 0, .int 0]))]) (w1 := [(q_76, .inr (14, [.ref q_78, .ref q_79, .ref q_80, .ref q_81, .int 0, .int 0, .int 0, .int 0, .int 0, .int 0, .int 0, .long 0, .long 0, .long 0, .int 0, .int (-1), .int 0, .int 0, .ref q_82, .ref q_83, .int 0, .int 0, .int 0, .int 0, .int 0, .int 0, .int 0, .ref q_84, .ref q_85, .ref q_86, .int 0, .int 0, .long 0, .long 0, .int 0, .int 0, .int 0, .int 0, .int 0, .long 0, .long 0, .ref q_87, .ref q_88, .ref q_89, .ref q_90, .int 0, .ref q_91, .ref q_92, .ref q_93, .ref q_94, .ref q_95, .int 0, .int 0, .int 0, .ref q_96, .int 0, .ref q_97, .ref q_98, .int 0, .int 0, .int 0, .int 0, .ref q_99, .ref q_100, .ref q_101, .int 0, .int 0])), (q_78, .inr (13, [.null, .null, .null, .null, .null, .int 0])), (q_79, .inr (12, [.int 0, .ref q_102, .ref q_103, .ref q_104, .ref q_105, .ref q_106, .ref q_107, .ref q_108, .ref q_109, .ref q_110, .ref q_111, .ref q_112, .ref q_113, .ref q_114, .ref q_115, .ref q_116, .ref q_117, .ref q_118, .ref q_119, .ref q_120, .ref q_121, .ref q_122, .ref q_123, .ref q_124, .ref q_125, .ref q_126, .ref q_127, .int 0, .ref q_128, .ref q_129, .ref q_130, .ref q_131, .ref q_132, .ref q_133, .ref q_134, .ref q_135, .ref q_136, .ref q_137, .ref q_138, .ref q_139, .ref q_140, .ref q_141, .ref q_142, .ref q_143, .ref q_144, .ref q_145, .int 0, .ref q_146, .ref q_147, .ref q_148, .ref q_149, .ref q_150, .ref q_151, .ref q_152, .ref q_153, .ref q_154, .ref q_155, .int 0, .int 0, .ref q_156])), (q_80, .inr (12, [.int 0, .ref q_157, .ref q_158, .ref q_159, .ref q_160, .ref q_161, .ref q_162, .ref q_163, .ref q_164, .ref q_165, .ref q_166, .ref q_167, .ref q_168, .ref q_169, .ref q_170, .ref q_171, .ref q_172, .ref q_173, .ref q_174, .ref q_175, .ref q_176, .ref q_177, .ref q_178, .ref q_179, .ref q_180, .ref q_181, .ref q_182, .int 0, .ref q_183, .ref q_184, .ref q_185, .ref q_186, .ref q_187, .ref q_188, .ref q_189, .ref q_190, .ref q_191, .ref q_192, .ref q_193, .ref q_194, .ref q_195, .ref q_196, .ref q_197, .ref q_198, .ref q_199, .ref q_200, .int 0, .ref q_201, .ref q_202, .ref q_203, .ref q_204, .ref q_205, .ref q_206, .ref q_207, .ref q_208, .ref q_209, .ref q_210, .int 0, .int 0, .ref q_211])), (q_81, .inl (k_212, 4000, .inl (fun _ => 0))), (q_97, .inl (k_213, 4, .inl (upd (upd (upd (upd (fun _ => 0) 0 (-1)) 1 (-1)) 2 (-1)) 3 (-1)))), (q_98, .inl (k_214, 2, .inl (upd (upd (fun _ => 0) 0 (-1)) 1 (-1))))]) hP hD [18] [0, 1, 2, 3, 4, 5, 6, 7, 8, 9, 10, 11, 12, 13, 14, 15, 16, 17] rfl rfl (by decide) (by decide) hk1 hFc hP1 hD1
  have hK := (hK.sub (tys' := [(k_8, .byte), (k_21, .int), (k_22, .int), (k_23, .long), (k_24, .long), (k_40, .object RX9), (k_42, .object RX6), (k_56, .object RX9), (k_58, .object RX6)]) [0, 1, 2, 3, 4, 5, 6, 7, 8] rfl).app hK1
  generalize H1 = H at hP hS ⊢
  have hP : va_P (dC, dI) vwCl [(q_1, .inr (11, [.ref q_3, .int 0, .ref q_4, .ref q_5, .ref q_6, .ref q_7, .int 0, .int (-1)])), (q_3, .inl (k_8, 4000, .inl (fun _ => 0))), (q_4, .inr (2, [.ref q_9, .ref q_10, .ref q_11, .null, .null, .null, .int 0, .ref q_12, .ref q_13, .ref q_14, .ref q_15, .int 0, .int 0, .int 0, .int 0, .int 0])), (q_9, .inr (8, [.ref q_16, .ref q_17, .ref q_18, .ref q_19, .ref q_20, .int 0, .int 0, .int 0, .int 0, .int (-1)])), (q_16, .inl (k_21, 1202, .inl (fun _ => 0))), (q_17, .inl (k_22, 1202, .inl (fun _ => 0))), (q_18, .inl (k_23, 1202, .inr (.inl (fun _ => 0)))), (q_19, .inl (k_24, 21, .inr (.inl f_25))), (q_10, .inr (5, [.null, .null, .int 0, .ref q_26, .int 0, .ref q_27, .int 0, .int 0, .int 0])), (q_6, .inr (7, [.ref q_28, .int 0, .ref q_29, .int 0, .ref q_30, .ref q_31, .int 0, .ref q_32, .ref q_33, .ref q_34, .ref q_35, .ref q_36, .ref q_37, .int 0, .ref q_38, .int 0, .ref q_39, .int 0, .int 0])), (q_28, .inl (k_40, 8, .inr (.inr (.inr (.inr f_41))))), (q_29, .inl (k_42, 96, .inr (.inr (.inr (.inr f_43))))), (q_7, .inr (7, [.ref q_44, .int 0, .ref q_45, .int 0, .ref q_46, .ref q_47, .int 0, .ref q_48, .ref q_49, .ref q_50, .ref q_51, .ref q_52, .ref q_53, .int 0, .ref q_54, .int 0, .ref q_55, .int 0, .int 0])), (q_44, .inl (k_56, 8, .inr (.inr (.inr (.inr f_57))))), (q_45, .inl (k_58, 96, .inr (.inr (.inr (.inr f_59))))), (q_5, .inr (10, [.ref q_6, .ref q_60, .ref q_61, .ref q_62, .ref q_63, .ref q_64, .int 0, .int 0, .int 0, .int 0])), (q_61, .inr (3, [.int 0, .ref q_65, .ref q_66, .ref q_67, .int 0, .ref q_68])), (q_63, .inr (4, [.int 0, .int (-1), .int (-1), .int (-1), .int (-1), .long 0, .int 0, .ref q_69, .ref q_70, .ref q_71, .ref q_72, .ref q_73, .ref q_74, .ref q_75, .int 0, .int 0, .int 0])), (q_76, .inr (14, [.ref q_78, .ref q_79, .ref q_80, .ref q_81, .int 0, .int 0, .int 0, .int 0, .int 0, .int 0, .int 0, .long 0, .long 0, .long 0, .int 0, .int (-1), .int 0, .int 0, .ref q_82, .ref q_83, .int 0, .int 0, .int 0, .int 0, .int 0, .int 0, .int 0, .ref q_84, .ref q_85, .ref q_86, .int 0, .int 0, .long 0, .long 0, .int 0, .int 0, .int 0, .int 0, .int 0, .long 0, .long 0, .ref q_87, .ref q_88, .ref q_89, .ref q_90, .int 0, .ref q_91, .ref q_92, .ref q_93, .ref q_94, .ref q_95, .int 0, .int 0, .int 0, .ref q_96, .int 0, .ref q_97, .ref q_98, .int 0, .int 0, .int 0, .int 0, .ref q_99, .ref q_100, .ref q_101, .int 0, .int 0])), (q_78, .inr (13, [.null, .null, .null, .null, .null, .int 0])), (q_79, .inr (12, [.int 0, .ref q_102, .ref q_103, .ref q_104, .ref q_105, .ref q_106, .ref q_107, .ref q_108, .ref q_109, .ref q_110, .ref q_111, .ref q_112, .ref q_113, .ref q_114, .ref q_115, .ref q_116, .ref q_117, .ref q_118, .ref q_119, .ref q_120, .ref q_121, .ref q_122, .ref q_123, .ref q_124, .ref q_125, .ref q_126, .ref q_127, .int 0, .ref q_128, .ref q_129, .ref q_130, .ref q_131, .ref q_132, .ref q_133, .ref q_134, .ref q_135, .ref q_136, .ref q_137, .ref q_138, .ref q_139, .ref q_140, .ref q_141, .ref q_142, .ref q_143, .ref q_144, .ref q_145, .int 0, .ref q_146, .ref q_147, .ref q_148, .ref q_149, .ref q_150, .ref q_151, .ref q_152, .ref q_153, .ref q_154, .ref q_155, .int 0, .int 0, .ref q_156])), (q_80, .inr (12, [.int 0, .ref q_157, .ref q_158, .ref q_159, .ref q_160, .ref q_161, .ref q_162, .ref q_163, .ref q_164, .ref q_165, .ref q_166, .ref q_167, .ref q_168, .ref q_169, .ref q_170, .ref q_171, .ref q_172, .ref q_173, .ref q_174, .ref q_175, .ref q_176, .ref q_177, .ref q_178, .ref q_179, .ref q_180, .ref q_181, .ref q_182, .int 0, .ref q_183, .ref q_184, .ref q_185, .ref q_186, .ref q_187, .ref q_188, .ref q_189, .ref q_190, .ref q_191, .ref q_192, .ref q_193, .ref q_194, .ref q_195, .ref q_196, .ref q_197, .ref q_198, .ref q_199, .ref q_200, .int 0, .ref q_201, .ref q_202, .ref q_203, .ref q_204, .ref q_205, .ref q_206, .ref q_207, .ref q_208, .ref q_209, .ref q_210, .int 0, .int 0, .ref q_211])), (q_81, .inl (k_212, 4000, .inl (fun _ => 0))), (q_97, .inl (k_213, 4, .inl (upd (upd (upd (upd (fun _ => 0) 0 (-1)) 1 (-1)) 2 (-1)) 3 (-1)))), (q_98, .inl (k_214, 2, .inl (upd (upd (fun _ => 0) 0 (-1)) 1 (-1))))] H := hP
  have hD : va_D A [(q_1, .inr (11, [.ref q_3, .int 0, .ref q_4, .ref q_5, .ref q_6, .ref q_7, .int 0, .int (-1)])), (q_3, .inl (k_8, 4000, .inl (fun _ => 0))), (q_4, .inr (2, [.ref q_9, .ref q_10, .ref q_11, .null, .null, .null, .int 0, .ref q_12, .ref q_13, .ref q_14, .ref q_15, .int 0, .int 0, .int 0, .int 0, .int 0])), (q_9, .inr (8, [.ref q_16, .ref q_17, .ref q_18, .ref q_19, .ref q_20, .int 0, .int 0, .int 0, .int 0, .int (-1)])), (q_16, .inl (k_21, 1202, .inl (fun _ => 0))), (q_17, .inl (k_22, 1202, .inl (fun _ => 0))), (q_18, .inl (k_23, 1202, .inr (.inl (fun _ => 0)))), (q_19, .inl (k_24, 21, .inr (.inl f_25))), (q_10, .inr (5, [.null, .null, .int 0, .ref q_26, .int 0, .ref q_27, .int 0, .int 0, .int 0])), (q_6, .inr (7, [.ref q_28, .int 0, .ref q_29, .int 0, .ref q_30, .ref q_31, .int 0, .ref q_32, .ref q_33, .ref q_34, .ref q_35, .ref q_36, .ref q_37, .int 0, .ref q_38, .int 0, .ref q_39, .int 0, .int 0])), (q_28, .inl (k_40, 8, .inr (.inr (.inr (.inr f_41))))), (q_29, .inl (k_42, 96, .inr (.inr (.inr (.inr f_43))))), (q_7, .inr (7, [.ref q_44, .int 0, .ref q_45, .int 0, .ref q_46, .ref q_47, .int 0, .ref q_48, .ref q_49, .ref q_50, .ref q_51, .ref q_52, .ref q_53, .int 0, .ref q_54, .int 0, .ref q_55, .int 0, .int 0])), (q_44, .inl (k_56, 8, .inr (.inr (.inr (.inr f_57))))), (q_45, .inl (k_58, 96, .inr (.inr (.inr (.inr f_59))))), (q_5, .inr (10, [.ref q_6, .ref q_60, .ref q_61, .ref q_62, .ref q_63, .ref q_64, .int 0, .int 0, .int 0, .int 0])), (q_61, .inr (3, [.int 0, .ref q_65, .ref q_66, .ref q_67, .int 0, .ref q_68])), (q_63, .inr (4, [.int 0, .int (-1), .int (-1), .int (-1), .int (-1), .long 0, .int 0, .ref q_69, .ref q_70, .ref q_71, .ref q_72, .ref q_73, .ref q_74, .ref q_75, .int 0, .int 0, .int 0])), (q_76, .inr (14, [.ref q_78, .ref q_79, .ref q_80, .ref q_81, .int 0, .int 0, .int 0, .int 0, .int 0, .int 0, .int 0, .long 0, .long 0, .long 0, .int 0, .int (-1), .int 0, .int 0, .ref q_82, .ref q_83, .int 0, .int 0, .int 0, .int 0, .int 0, .int 0, .int 0, .ref q_84, .ref q_85, .ref q_86, .int 0, .int 0, .long 0, .long 0, .int 0, .int 0, .int 0, .int 0, .int 0, .long 0, .long 0, .ref q_87, .ref q_88, .ref q_89, .ref q_90, .int 0, .ref q_91, .ref q_92, .ref q_93, .ref q_94, .ref q_95, .int 0, .int 0, .int 0, .ref q_96, .int 0, .ref q_97, .ref q_98, .int 0, .int 0, .int 0, .int 0, .ref q_99, .ref q_100, .ref q_101, .int 0, .int 0])), (q_78, .inr (13, [.null, .null, .null, .null, .null, .int 0])), (q_79, .inr (12, [.int 0, .ref q_102, .ref q_103, .ref q_104, .ref q_105, .ref q_106, .ref q_107, .ref q_108, .ref q_109, .ref q_110, .ref q_111, .ref q_112, .ref q_113, .ref q_114, .ref q_115, .ref q_116, .ref q_117, .ref q_118, .ref q_119, .ref q_120, .ref q_121, .ref q_122, .ref q_123, .ref q_124, .ref q_125, .ref q_126, .ref q_127, .int 0, .ref q_128, .ref q_129, .ref q_130, .ref q_131, .ref q_132, .ref q_133, .ref q_134, .ref q_135, .ref q_136, .ref q_137, .ref q_138, .ref q_139, .ref q_140, .ref q_141, .ref q_142, .ref q_143, .ref q_144, .ref q_145, .int 0, .ref q_146, .ref q_147, .ref q_148, .ref q_149, .ref q_150, .ref q_151, .ref q_152, .ref q_153, .ref q_154, .ref q_155, .int 0, .int 0, .ref q_156])), (q_80, .inr (12, [.int 0, .ref q_157, .ref q_158, .ref q_159, .ref q_160, .ref q_161, .ref q_162, .ref q_163, .ref q_164, .ref q_165, .ref q_166, .ref q_167, .ref q_168, .ref q_169, .ref q_170, .ref q_171, .ref q_172, .ref q_173, .ref q_174, .ref q_175, .ref q_176, .ref q_177, .ref q_178, .ref q_179, .ref q_180, .ref q_181, .ref q_182, .int 0, .ref q_183, .ref q_184, .ref q_185, .ref q_186, .ref q_187, .ref q_188, .ref q_189, .ref q_190, .ref q_191, .ref q_192, .ref q_193, .ref q_194, .ref q_195, .ref q_196, .ref q_197, .ref q_198, .ref q_199, .ref q_200, .int 0, .ref q_201, .ref q_202, .ref q_203, .ref q_204, .ref q_205, .ref q_206, .ref q_207, .ref q_208, .ref q_209, .ref q_210, .int 0, .int 0, .ref q_211])), (q_81, .inl (k_212, 4000, .inl (fun _ => 0))), (q_97, .inl (k_213, 4, .inl (upd (upd (upd (upd (fun _ => 0) 0 (-1)) 1 (-1)) 2 (-1)) 3 (-1)))), (q_98, .inl (k_214, 2, .inl (upd (upd (fun _ => 0) 0 (-1)) 1 (-1))))] := hD
  have hK : va_K (dC, dI) vwCl [(k_8, .byte), (k_21, .int), (k_22, .int), (k_23, .long), (k_24, .long), (k_40, .object RX9), (k_42, .object RX6), (k_56, .object RX9), (k_58, .object RX6), (k_212, .byte), (k_213, .int), (k_214, .int)] s := hK
  refine W.widen (k := 919) (n := 128831) (Nat.le_of_ble_eq_true rfl) (Nat.le_of_ble_eq_true rfl) ?_
  refine lv_astore_n (lv' := [(2, .ref q_76), (1, .ref q_1), (0, .ref b)]) hx hb dL_law_15 rfl hl (by decide) rfl (fun ls hl => ?_)
  refine lv_iconst (v := 0) hx hb dL_law_16 (by decide) ?_
  refine lv_istore_n (lv' := [(3, .int 0), (2, .ref q_76), (1, .ref q_1), (0, .ref b)]) hx hb dL_law_17 rfl hl (by decide) rfl (fun ls hl => ?_)
  by_cases h6 : L = 6
  · subst h6
    refine lv_iload_n hx hb dL_law_18 rfl (lv_at hl 0 rfl) ?_
    refine lv_aload_n hx hb dL_law_19 rfl (lv_at hl 3 rfl) ?_
    refine va_slen hx hb hX hbl hbA hS dL_law_20 ?_
    refine lv_topi (fun y_215 ey_215 => ?_)
    obtain rfl : y_215 = 6 := ey_215.trans (by decide)
    refine lv_bipush (v := 6) hx hb dL_law_21 (by decide) ?_
    refine lv_isub hx hb dL_law_23 ?_
    refine lv_topi (fun y_216 ey_216 => ?_)
    obtain rfl : y_216 = 0 := ey_216.trans (by decide)
    refine lv_icmp_gt (tgt := 831) hx hb dL_law_24 (by decide) (fun c_ => absurd c_ (by decide)) (fun c_ => ?_)
    refine lv_aload_n hx hb dL_law_27 rfl (lv_at hl 3 rfl) ?_
    refine lv_iload_n hx hb dL_law_28 rfl (lv_at hl 0 rfl) ?_
    refine va_sld hx hb hX hbl hbA hS (by unfold vp_in; decide) dL_law_29 ?_
    refine lv_topi (fun y_217 ey_217 => ?_)
    refine lv_bipush (v := 31) hx hb dL_law_30 (by decide) ?_
    refine lv_iand hx hb dL_law_32 ?_
    refine lv_topi (fun y_218 ey_218 => ?_)
    by_cases e_219 : y_218 = 0
    · refine lv_topi (fun z_220 ez_220 => ?_)
      obtain rfl : z_220 = 0 := ez_220.trans e_219
      refine lv_tableIn (off := 115) (tgt := 148) hx hb dL_law_33 (by decide) (by decide) rfl (by decide) ?_
      exact law_0 C0 hA hfg hbA _ _ _ (hK.sub [0, 9] rfl) (hP.sub [0, 1, 18, 22] rfl) (hD.sub [0, 1, 18, 22] (by decide) rfl) hS (lv_sub hl [0, 1, 2, 3] rfl)
    by_cases e_221 : y_218 = 1
    · refine lv_topi (fun z_222 ez_222 => ?_)
      obtain rfl : z_222 = 1 := ez_222.trans e_221
      refine lv_tableIn (off := 178) (tgt := 211) hx hb dL_law_33 (by decide) (by decide) rfl (by decide) ?_
      exact law_1 C0 hA hfg hbA _ _ _ (hK.sub [] rfl) (hP.sub [0, 18] rfl) (hD.sub [0, 18] (by decide) rfl) hS (lv_sub hl [0, 1, 2, 3] rfl)
    by_cases e_223 : y_218 = 2
    · refine lv_topi (fun z_224 ez_224 => ?_)
      obtain rfl : z_224 = 2 := ez_224.trans e_223
      refine lv_tableIn (off := 201) (tgt := 234) hx hb dL_law_33 (by decide) (by decide) rfl (by decide) ?_
      exact law_2 C0 hA hfg hbA hCa _ _ _ (hK.sub [0, 1, 2, 3, 7, 8] rfl) (hP.sub [0, 1, 2, 3, 4, 5, 6, 8, 12, 13, 14, 18, 19, 21] rfl) (hD.sub [0, 1, 2, 3, 4, 5, 6, 8, 12, 13, 14, 18, 19, 21] (by decide) rfl) hS (lv_sub hl [0, 1, 2, 3] rfl)
    by_cases e_225 : y_218 = 3
    · refine lv_topi (fun z_226 ez_226 => ?_)
      obtain rfl : z_226 = 3 := ez_226.trans e_225
      refine lv_tableIn (off := 214) (tgt := 247) hx hb dL_law_33 (by decide) (by decide) rfl (by decide) ?_
      exact law_3 C0 hA hfg hbA _ _ _ (hK.sub [] rfl) (hP.sub [0, 18] rfl) (hD.sub [0, 18] (by decide) rfl) hS (lv_sub hl [0, 1, 2, 3] rfl)
    by_cases e_227 : y_218 = 4
    · refine lv_topi (fun z_228 ez_228 => ?_)
      obtain rfl : z_228 = 4 := ez_228.trans e_227
      refine lv_tableIn (off := 237) (tgt := 270) hx hb dL_law_33 (by decide) (by decide) rfl (by decide) ?_
      exact law_4 C0 hA hfg hbA _ _ _ (hK.sub [] rfl) (hP.sub [0, 9, 18, 20] rfl) (hD.sub [0, 9, 18, 20] (by decide) rfl) hS (lv_sub hl [0, 1, 2, 3] rfl)
    by_cases e_229 : y_218 = 5
    · refine lv_topi (fun z_230 ez_230 => ?_)
      obtain rfl : z_230 = 5 := ez_230.trans e_229
      refine lv_tableIn (off := 270) (tgt := 303) hx hb dL_law_33 (by decide) (by decide) rfl (by decide) ?_
      exact law_5 C0 hA hfg hbA _ _ _ (hK.sub [] rfl) (hP.sub [0, 9, 18, 20] rfl) (hD.sub [0, 9, 18, 20] (by decide) rfl) hS (lv_sub hl [0, 1, 2, 3] rfl)
    by_cases e_231 : y_218 = 6
    · refine lv_topi (fun z_232 ez_232 => ?_)
      obtain rfl : z_232 = 6 := ez_232.trans e_231
      refine lv_tableIn (off := 313) (tgt := 346) hx hb dL_law_33 (by decide) (by decide) rfl (by decide) ?_
      exact law_6 C0 hA hfg hbA _ _ _ (hK.sub [] rfl) (hP.sub [0, 9, 18, 20] rfl) (hD.sub [0, 9, 18, 20] (by decide) rfl) hS (lv_sub hl [0, 1, 2, 3] rfl)
    by_cases e_233 : y_218 = 7
    · refine lv_topi (fun z_234 ez_234 => ?_)
      obtain rfl : z_234 = 7 := ez_234.trans e_233
      refine lv_tableIn (off := 346) (tgt := 379) hx hb dL_law_33 (by decide) (by decide) rfl (by decide) ?_
      exact law_7 C0 hA hfg hbA _ _ _ (hK.sub [] rfl) (hP.sub [0, 15, 16, 18] rfl) (hD.sub [0, 15, 16, 18] (by decide) rfl) hS (lv_sub hl [0, 1, 2, 3] rfl)
    by_cases e_235 : y_218 = 8
    · refine lv_topi (fun z_236 ez_236 => ?_)
      obtain rfl : z_236 = 8 := ez_236.trans e_235
      refine lv_tableIn (off := 359) (tgt := 392) hx hb dL_law_33 (by decide) (by decide) rfl (by decide) ?_
      exact law_8 C0 hA hfg hbA _ _ _ (hK.sub [] rfl) (hP.sub [0, 9, 18, 20] rfl) (hD.sub [0, 9, 18, 20] (by decide) rfl) hS (lv_sub hl [0, 1, 2, 3] rfl)
    by_cases e_237 : y_218 = 9
    · refine lv_topi (fun z_238 ez_238 => ?_)
      obtain rfl : z_238 = 9 := ez_238.trans e_237
      refine lv_tableIn (off := 382) (tgt := 415) hx hb dL_law_33 (by decide) (by decide) rfl (by decide) ?_
      exact law_9 C0 hA hfg hbA _ _ _ (hK.sub [] rfl) (hP.sub [0, 15, 16, 18] rfl) (hD.sub [0, 15, 16, 18] (by decide) rfl) hS (lv_sub hl [0, 1, 2, 3] rfl)
    by_cases e_239 : y_218 = 10
    · refine lv_topi (fun z_240 ez_240 => ?_)
      obtain rfl : z_240 = 10 := ez_240.trans e_239
      refine lv_tableIn (off := 445) (tgt := 478) hx hb dL_law_33 (by decide) (by decide) rfl (by decide) ?_
      exact law_10 C0 hA hfg hbA _ _ _ (hK.sub [] rfl) (hP.sub [0, 15, 16, 18] rfl) (hD.sub [0, 15, 16, 18] (by decide) rfl) hS (lv_sub hl [0, 1, 2, 3] rfl)
    by_cases e_241 : y_218 = 11
    · refine lv_topi (fun z_242 ez_242 => ?_)
      obtain rfl : z_242 = 11 := ez_242.trans e_241
      refine lv_tableIn (off := 458) (tgt := 491) hx hb dL_law_33 (by decide) (by decide) rfl (by decide) ?_
      exact law_11 C0 hA hfg hbA _ _ _ (hK.sub [] rfl) (hP.sub [0, 9, 18, 20] rfl) (hD.sub [0, 9, 18, 20] (by decide) rfl) hS (lv_sub hl [0, 1, 2, 3] rfl)
    by_cases e_243 : y_218 = 12
    · refine lv_topi (fun z_244 ez_244 => ?_)
      obtain rfl : z_244 = 12 := ez_244.trans e_243
      refine lv_tableIn (off := 501) (tgt := 534) hx hb dL_law_33 (by decide) (by decide) rfl (by decide) ?_
      exact law_12 C0 hA hfg hbA _ _ _ (hK.sub [] rfl) (hP.sub [0, 9, 18, 20] rfl) (hD.sub [0, 9, 18, 20] (by decide) rfl) hS (lv_sub hl [0, 1, 2, 3] rfl)
    by_cases e_245 : y_218 = 13
    · refine lv_topi (fun z_246 ez_246 => ?_)
      obtain rfl : z_246 = 13 := ez_246.trans e_245
      refine lv_tableIn (off := 534) (tgt := 567) hx hb dL_law_33 (by decide) (by decide) rfl (by decide) ?_
      exact law_13 C0 hA hfg hbA _ _ _ (hK.sub [] rfl) (hP.sub [0, 15, 18] rfl) (hD.sub [0, 15, 18] (by decide) rfl) hS (lv_sub hl [0, 1, 2, 3] rfl)
    by_cases e_247 : y_218 = 14
    · refine lv_topi (fun z_248 ez_248 => ?_)
      obtain rfl : z_248 = 14 := ez_248.trans e_247
      refine lv_tableIn (off := 547) (tgt := 580) hx hb dL_law_33 (by decide) (by decide) rfl (by decide) ?_
      exact law_14 C0 hA hfg hbA _ _ _ (hK.sub [] rfl) (hP.sub [0, 15, 18] rfl) (hD.sub [0, 15, 18] (by decide) rfl) hS (lv_sub hl [0, 1, 2, 3] rfl)
    by_cases e_249 : y_218 = 15
    · refine lv_topi (fun z_250 ez_250 => ?_)
      obtain rfl : z_250 = 15 := ez_250.trans e_249
      refine lv_tableIn (off := 560) (tgt := 593) hx hb dL_law_33 (by decide) (by decide) rfl (by decide) ?_
      exact law_15 C0 hA hfg hbA _ _ _ (hK.sub [] rfl) (hP.sub [0, 15, 18] rfl) (hD.sub [0, 15, 18] (by decide) rfl) hS (lv_sub hl [0, 1, 2, 3] rfl)
    by_cases e_251 : y_218 = 16
    · refine lv_topi (fun z_252 ez_252 => ?_)
      obtain rfl : z_252 = 16 := ez_252.trans e_251
      refine lv_tableIn (off := 573) (tgt := 606) hx hb dL_law_33 (by decide) (by decide) rfl (by decide) ?_
      exact law_16 C0 hA hfg hbA _ _ _ (hK.sub [] rfl) (hP.sub [0, 15, 17, 18] rfl) (hD.sub [0, 15, 17, 18] (by decide) rfl) hS (lv_sub hl [0, 1, 2, 3] rfl)
    by_cases e_253 : y_218 = 17
    · refine lv_topi (fun z_254 ez_254 => ?_)
      obtain rfl : z_254 = 17 := ez_254.trans e_253
      refine lv_tableIn (off := 586) (tgt := 619) hx hb dL_law_33 (by decide) (by decide) rfl (by decide) ?_
      exact law_17 C0 hA hfg hbA _ _ _ (hK.sub [10] rfl) (hP.sub [0, 15, 17, 18, 23] rfl) (hD.sub [0, 15, 17, 18, 23] (by decide) rfl) hS (lv_sub hl [0, 1, 2, 3] rfl)
    by_cases e_255 : y_218 = 18
    · refine lv_topi (fun z_256 ez_256 => ?_)
      obtain rfl : z_256 = 18 := ez_256.trans e_255
      refine lv_tableIn (off := 609) (tgt := 642) hx hb dL_law_33 (by decide) (by decide) rfl (by decide) ?_
      exact law_18 C0 hA hfg hbA _ _ _ (hK.sub [11] rfl) (hP.sub [0, 15, 17, 18, 24] rfl) (hD.sub [0, 15, 17, 18, 24] (by decide) rfl) hS (lv_sub hl [0, 1, 2, 3] rfl)
    by_cases e_257 : y_218 = 19
    · refine lv_topi (fun z_258 ez_258 => ?_)
      obtain rfl : z_258 = 19 := ez_258.trans e_257
      refine lv_tableIn (off := 632) (tgt := 665) hx hb dL_law_33 (by decide) (by decide) rfl (by decide) ?_
      exact law_19 C0 hA hfg hbA _ _ _ (hK.sub [] rfl) (hP.sub [0, 15, 17, 18] rfl) (hD.sub [0, 15, 17, 18] (by decide) rfl) hS (lv_sub hl [0, 1, 2, 3] rfl)
    by_cases e_259 : y_218 = 20
    · refine lv_topi (fun z_260 ez_260 => ?_)
      obtain rfl : z_260 = 20 := ez_260.trans e_259
      refine lv_tableIn (off := 655) (tgt := 688) hx hb dL_law_33 (by decide) (by decide) rfl (by decide) ?_
      exact law_20 C0 hA hfg hbA _ _ _ (hK.sub [] rfl) (hP.sub [0, 15, 16, 18] rfl) (hD.sub [0, 15, 16, 18] (by decide) rfl) hS (lv_sub hl [0, 1, 2, 3] rfl)
    by_cases e_261 : y_218 = 21
    · refine lv_topi (fun z_262 ez_262 => ?_)
      obtain rfl : z_262 = 21 := ez_262.trans e_261
      refine lv_tableIn (off := 668) (tgt := 701) hx hb dL_law_33 (by decide) (by decide) rfl (by decide) ?_
      exact law_21 C0 hA hfg hbA _ _ _ (hK.sub [] rfl) (hP.sub [0, 15, 16, 18] rfl) (hD.sub [0, 15, 16, 18] (by decide) rfl) hS (lv_sub hl [0, 1, 2, 3] rfl)
    by_cases e_263 : y_218 = 22
    · refine lv_topi (fun z_264 ez_264 => ?_)
      obtain rfl : z_264 = 22 := ez_264.trans e_263
      refine lv_tableIn (off := 701) (tgt := 734) hx hb dL_law_33 (by decide) (by decide) rfl (by decide) ?_
      exact law_22 C0 hA hfg hbA _ _ _ (hK.sub [] rfl) (hP.sub [0, 15, 17, 18] rfl) (hD.sub [0, 15, 17, 18] (by decide) rfl) hS (lv_sub hl [0, 1, 2, 3] rfl)
    by_cases e_265 : y_218 = 23
    · refine lv_topi (fun z_266 ez_266 => ?_)
      obtain rfl : z_266 = 23 := ez_266.trans e_265
      refine lv_tableIn (off := 735) (tgt := 768) hx hb dL_law_33 (by decide) (by decide) rfl (by decide) ?_
      exact law_23 C0 hA hfg hbA _ _ _ (hK.sub [] rfl) (hP.sub [0, 15, 17, 18] rfl) (hD.sub [0, 15, 17, 18] (by decide) rfl) hS (lv_sub hl [0, 1, 2, 3] rfl)
    by_cases e_267 : y_218 = 24
    · refine lv_topi (fun z_268 ez_268 => ?_)
      obtain rfl : z_268 = 24 := ez_268.trans e_267
      refine lv_tableIn (off := 769) (tgt := 802) hx hb dL_law_33 (by decide) (by decide) rfl (by decide) ?_
      exact law_24 C0 hA hfg hbA _ _ _ (hK.sub [] rfl) (hP.sub [0, 9, 15, 17, 18, 20] rfl) (hD.sub [0, 9, 15, 17, 18, 20] (by decide) rfl) hS (lv_sub hl [0, 1, 2, 3] rfl)
    refine lv_tableOut (tgt := 825) hx hb dL_law_33 (by have a0 : y_218.toInt ≠ 0 := fun h => e_219 (Int32.toInt_inj.mp (h.trans (by decide))); have a1 : y_218.toInt ≠ 1 := fun h => e_221 (Int32.toInt_inj.mp (h.trans (by decide))); have a2 : y_218.toInt ≠ 2 := fun h => e_223 (Int32.toInt_inj.mp (h.trans (by decide))); have a3 : y_218.toInt ≠ 3 := fun h => e_225 (Int32.toInt_inj.mp (h.trans (by decide))); have a4 : y_218.toInt ≠ 4 := fun h => e_227 (Int32.toInt_inj.mp (h.trans (by decide))); have a5 : y_218.toInt ≠ 5 := fun h => e_229 (Int32.toInt_inj.mp (h.trans (by decide))); have a6 : y_218.toInt ≠ 6 := fun h => e_231 (Int32.toInt_inj.mp (h.trans (by decide))); have a7 : y_218.toInt ≠ 7 := fun h => e_233 (Int32.toInt_inj.mp (h.trans (by decide))); have a8 : y_218.toInt ≠ 8 := fun h => e_235 (Int32.toInt_inj.mp (h.trans (by decide))); have a9 : y_218.toInt ≠ 9 := fun h => e_237 (Int32.toInt_inj.mp (h.trans (by decide))); have a10 : y_218.toInt ≠ 10 := fun h => e_239 (Int32.toInt_inj.mp (h.trans (by decide))); have a11 : y_218.toInt ≠ 11 := fun h => e_241 (Int32.toInt_inj.mp (h.trans (by decide))); have a12 : y_218.toInt ≠ 12 := fun h => e_243 (Int32.toInt_inj.mp (h.trans (by decide))); have a13 : y_218.toInt ≠ 13 := fun h => e_245 (Int32.toInt_inj.mp (h.trans (by decide))); have a14 : y_218.toInt ≠ 14 := fun h => e_247 (Int32.toInt_inj.mp (h.trans (by decide))); have a15 : y_218.toInt ≠ 15 := fun h => e_249 (Int32.toInt_inj.mp (h.trans (by decide))); have a16 : y_218.toInt ≠ 16 := fun h => e_251 (Int32.toInt_inj.mp (h.trans (by decide))); have a17 : y_218.toInt ≠ 17 := fun h => e_253 (Int32.toInt_inj.mp (h.trans (by decide))); have a18 : y_218.toInt ≠ 18 := fun h => e_255 (Int32.toInt_inj.mp (h.trans (by decide))); have a19 : y_218.toInt ≠ 19 := fun h => e_257 (Int32.toInt_inj.mp (h.trans (by decide))); have a20 : y_218.toInt ≠ 20 := fun h => e_259 (Int32.toInt_inj.mp (h.trans (by decide))); have a21 : y_218.toInt ≠ 21 := fun h => e_261 (Int32.toInt_inj.mp (h.trans (by decide))); have a22 : y_218.toInt ≠ 22 := fun h => e_263 (Int32.toInt_inj.mp (h.trans (by decide))); have a23 : y_218.toInt ≠ 23 := fun h => e_265 (Int32.toInt_inj.mp (h.trans (by decide))); have a24 : y_218.toInt ≠ 24 := fun h => e_267 (Int32.toInt_inj.mp (h.trans (by decide))); omega) (by decide) ?_
    exact law_end C0 hA hfg hbA _ _ _ hS (lv_sub hl [0, 1, 2, 3] rfl)
  · have hlt : L < 6 := by omega
    refine lv_iload_n hx hb dL_law_18 rfl (lv_at hl 0 rfl) ?_
    refine lv_aload_n hx hb dL_law_19 rfl (lv_at hl 3 rfl) ?_
    refine va_slen hx hb hX hbl hbA hS dL_law_20 ?_
    refine lv_bipush (v := 6) hx hb dL_law_21 (by decide) ?_
    refine lv_isub hx hb dL_law_23 ?_
    refine lv_icmp_gt (tgt := 831) hx hb dL_law_24 (by decide) (fun c_ => ?_) (fun c_ => absurd (pk_sneg (a := L) (b := 6) (by omega) hlt) c_)
    refine lv_iconst (v := 1) hx hb dL_law_831 (by decide) ?_
    refine va_forget (fun q hq => hfg _ (hS.2.2 q hq)) ?_
    refine W.widen (k := 600002) (n := 7302231) (Nat.le_of_ble_eq_true rfl) (Nat.le_of_ble_eq_true rfl) ?_
    exact lw_ret hx hb hr hlocks dL_law_832
-- ===== YOUR PART ENDS =====
set_option maxHeartbeats 4000000 in
theorem lw_walk (l : Launch) (b : Addr) (xs : List Int32) : MetFree l x (headSpec (Jvm.Cond.code x code maxLocals ret :: tables_1) room_1) (lw_P b xs) (fun _ _ _ _ _ => True) lw_Q := by
  refine MetFree.of_bodyS (code := code) (maxLocals := maxLocals) (ret := ret) (by decide) ?_ ?_
  · intro args s m h hn
    obtain ⟨meth, c, h1, h2, h3, h4, h5, h6, -, -⟩ := Cond.code_spec hn (atoms_spec (ws := Jvm.Cond.code x code maxLocals ret :: tables_1) h _ List.mem_cons_self)
    exact ⟨meth, c, h1, h2, h3, h4, h5, h6⟩
  · intro p e s m args below meth c s₁ B hml0 hP _
    obtain ⟨rfl, hx, hbd, hgv⟩ := hP
    obtain ⟨scr, harrAt, hlist, hof, hsmall⟩ := hx
    obtain ⟨hcb, hkn, -, -⟩ := State.arrayAt?_spec harrAt
    have hown : s.vm.findClass R_law = some m.cls := findClass_of_methodNamed B.named
    have hts0 : ∀ c ∈ (Jvm.Cond.code x code maxLocals ret :: tables_1), c.before #[Value.ref b] s = true := atoms_spec (ws := Jvm.Cond.code x code maxLocals ret :: tables_1) B.pre
    have hts : ∀ w ∈ lw_tbl, w.before #[Value.ref b] s = true := k2_hts_sels lw_privs (fun w hw => hts0 w (List.mem_cons_of_mem _ hw)) lw_privs_ok
    have hml : c.maxLocals = 4 := B.maxLocals_eq (hts0 _ List.mem_cons_self)
    have X₀ : Stand p l e room_1 s m #[Value.ref b] below meth c s₁ [] 0 0 := Stand.of_body B
    have hh0 : s₁.heap = s.heap := by rw [B.state]; rfl
    have hsz : scr.slots.size = xs.length := by rw [← Array.length_toList, hlist, List.length_map]
    have hval : ∀ j : Nat, j < xs.length → scr.slots[j]? = some (.int (xs.getD j 0)) := fun j hj => by
      rw [← Array.getElem?_toList, hlist]
      simp [hj]
    have hbl : b < s.heap.size := (Array.getElem?_eq_some_iff.mp hcb).1
    have hX : va_X b xs.length (fun j => xs.getD j 0) s s.heap := ⟨scr, hcb, hof, hkn, hsz, hval⟩
    have K : W p l e room_1 s m #[Value.ref b] below meth c s₁.heap [] 0 0 (lw_Z below #[Value.ref b] s) (entryFrame m ([Value.ref b] : List Value).toArray 4) := by
      rw [hh0]
      exact whole_start l hbd ⟨B.exec, B.bytes, B.returns, hml, hown, hts, hX, hbl, B.notSynchronized, hgv⟩
    obtain ⟨t, a1, o, b1, b2, b3⟩ := K s₁ rfl X₀
    exact ⟨t, o, a1, b1, b2, b3⟩
theorem lw_pre_spec {args : Array Value} {s : State} (h : (Jvm.Cond.and given_1 narrow_1).before args s = true) (hr : rest_1_c.before args s = true) : ∃ (b : Addr) (xs : List Int32), lw_P b xs args s := by
  have hs := flat_of_before _ h
  have hq := flat_of_before _ hr
  have hc : (Cond.count 1).before args s = true := hs _ (by decide +kernel)
  have harr : (Cond.arrayOf (.arg 0) .int).before args s = true := hs _ (by decide +kernel)
  have hle : (Cond.le (.length (.arg 0)) (.int 6)).before args s = true := hs _ (by decide +kernel)
  have hlen : (Cond.isInt (.length (.arg 0))).before args s = true := hq _ (by decide +kernel)
  have hall : (Cond.all (.arg 0) (.isInt (.elem (.arg 0) (.index 0)))).before args s = true := hq _ (by decide +kernel)
  obtain ⟨b, xs, hb, hx⟩ := State.ints_of_pre rfl harr hlen hall
  have hsm : xs.length < 2 ^ 31 := hx.choose_spec.2.2.2
  have hev : (Term.length (.arg 0)).eval args s none [] s = some (.int xs.length.toInt32) := hx.length_eval hb
  have hv := Cond.le_ints hev (show (Term.int 6).eval args s none [] s = some (.int 6) from rfl)
  have hd : xs.length.toInt32 ≤ 6 := by
    simpa [Cond.before, Cond.holds, hv] using hle
  have hN : xs.length ≤ 6 := (Int32.ofNat_le_ofNat hsm (by decide)).mp (show Int32.ofNat xs.length ≤ Int32.ofNat 6 from hd)
  exact ⟨b, xs, Cond.one_arg hc (show args[0]? = some (.ref b) from hb), hx, hN, h⟩
theorem lw_comes (l : Launch) : Comes l x (Jvm.Cond.code x code maxLocals ret :: tables_1) room_1 (fun tb e args s => Calls_1 tb e args s ∧ rest_1 tb e args s ∧ Pre_1 tb e args s)
    (fun _ _ args s o t => lw_Q args s o t) := by
  intro p e ha hc hk s m args below hf hfit hheap happ hpre
  obtain ⟨b, xs, hP⟩ := lw_pre_spec hpre.2.2 hpre.2.1
  obtain ⟨k, o, h1, h2, h3, hQ⟩ := lw_walk l b xs p e ha hc hk s m args below hf ((Spec.applies_iff_loose hf).mp happ).1 hP trivial
  exact ⟨k, o, h1, h2, h3, hQ⟩
theorem lw_frame {s t : State} {o : Outcome} {args : Array Value} (h : Framed s o t [] 600002 7302231) :
    Framed s o t (fieldLocs frame_1_writes args s ++ arrayLocs frame_1_arrays args s ++ staticLocs frame_1_statics s) 600002 7302231 := h
theorem lw_limb (L : Cond) (hL : ∀ (args : Array Value) (s t : State), L.after args s (.returned (some (.int 1))) t = true) :
    ArmFor flags0 classFile x code maxLocals ret World_1 tables_1 room_1 Calls_1 rest_1 Pre_1
      (fun tb e a s o t => postC L tb e a s o t ∧ Framed s o t (fieldLocs frame_1_writes a s ++ arrayLocs frame_1_arrays a s ++ staticLocs frame_1_statics s) 600002 7302231) := by
  intro l _ _ _ p e ha hc hk s m args below hf hfit hheap happ hpre
  obtain ⟨k, o, h1, h2, h3, rfl, hF⟩ := lw_comes l p e ha hc hk s m args below hf hfit hheap happ hpre
  exact ⟨k, _, h1, h2, h3, hL args s _, lw_frame hF⟩
theorem i_vc : Claimed_1_1 ∧ Claimed_1_2 := ⟨lw_limb limb_1_1 (fun args s t => by simp [limb_1_1, Cond.after, Cond.holds, Cond.value]), lw_limb limb_1_2 (fun args s t => Cond.after_iff.mpr (by
  first | (rw [show limb_1_2 = Cond.eq .result (.int 1) from rfl, Cond.eq_ints (x := 1) (y := 1) rfl rfl]; simp; done) | (simp [limb_1_2, Cond.value, Term.eval]; done)))⟩
