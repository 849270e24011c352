set_option maxHeartbeats 4000000 in
set_option maxRecDepth 100000 in
theorem whole_start {p : Program} {e : Env} {s : State} {m : MethodId} {below : List Frame} {meth : Method} {c : Code} (l : Launch) {b L : Nat} {xs : Nat → Int32} (hL : L ≤ 6) (C0 : lw_At p s m meth c b L xs) : W p l e room_1 s m #[Value.ref b] below meth c s.heap [] 0 0 (lw_Z below #[Value.ref b] s) (entryFrame m ([Value.ref b] : List Value).toArray 4) := by
  obtain ⟨hx, hb, hr, hml, hown, hts, hX, hbl, hlocks, hgv⟩ := id C0
  obtain ⟨A, hAd⟩ : ∃ A : Nat → Prop, A = fun q : Nat => s.heap.size ≤ q := ⟨_, rfl⟩
  have hA : ∀ q : Nat, s.heap.size ≤ q → A q := fun q h => by rw [hAd]; exact h
  have hfg : ∀ q : Nat, A q → s.heap.size ≤ q := fun q h => by rw [hAd] at h; exact h
  have hnA : ∀ a : Nat, a < s.heap.size → ¬ A a := fun a h z => Nat.lt_irrefl _ (Nat.lt_of_lt_of_le h (hfg a z))
  have hbA : ¬ A b := hnA b hbl
  obtain ⟨dC, dI, hKc⟩ := law_known hts
  obtain ⟨adK, adV, hAm⟩ := law_amb hts hgv hnA
  have hCa : va_Nw (.castable RX13 RX13) s := va_Nw.of rfl (hts _ (List.mem_of_getElem? (i := 1838) (by decide +kernel)))
  have hS : va_S A s.heap s.heap [] := va_S.rf
  have hK : va_K (dC, dI) vwCl [] s := ⟨hKc, fun k q h => by simp at h⟩
  have hP : va_P (dC, dI) vwCl [] s.heap := fun k q h => by simp at h
  have hD : va_D A [] := ⟨fun i j p q h => by simp at h, fun k q h => by simp at h⟩
  have hl := lv_entry ([.ref b]) (n := 4) (Nat.le_of_ble_eq_true rfl)
  rw [lg_entry_eq]
  generalize (lg_sl ([.ref b]) ++ List.replicate (4 - (lg_sl ([.ref b])).length) Slot.unset).toArray = ls at hl ⊢
  have hl : lv_has ls 4 [(0, .ref b)] := hl
  refine va_new (ci := 11) (fs := [.null, .int 0, .null, .null, .null, .null, .int 0, .int 0]) (C := RX11) (T := TX11) (N := 8) hx hb hts (mcL_ inX11) tyX11 tyX11_ok hown (hts _ (gt_ _ t_207)) (hts _ (gt_ _ t_208)) (hts _ (gt_ _ t_182)) hK hP hD hS hA rfl dfX11 (Nat.le_of_ble_eq_true rfl) (Nat.le_of_ble_eq_true rfl) dL_law_0 (fun q_1 H hP hD hS => ?_)
  have hP : va_P (dC, dI) vwCl [(q_1, .inr (11, [.null, .int 0, .null, .null, .null, .null, .int 0, .int 0]))] H := hP
  have hD : va_D A [(q_1, .inr (11, [.null, .int 0, .null, .null, .null, .null, .int 0, .int 0]))] := hD
  refine W.widen (k := 1) (n := 8) (Nat.le_of_ble_eq_true rfl) (Nat.le_of_ble_eq_true rfl) ?_
  refine lv_dup hx hb dL_law_3 rfl ?_
  have hPc := hP.sub (ws' := [(q_1, .inr (11, [.null, .int 0, .null, .null, .null, .null, .int 0, .int 0]))]) [0] rfl
  have hDc := hD.sub (ws' := [(q_1, .inr (11, [.null, .int 0, .null, .null, .null, .null, .int 0, .int 0]))]) [0] (by decide) rfl
  have hKc := hK.sub (tys' := []) [] rfl
  have hFc := va_free (wc := [(q_1, .inr (11, [.null, .int 0, .null, .null, .null, .null, .int 0, .int 0]))]) hD hS hA [0] rfl
  refine va_callv (va_runI (As := []) (rest := [.ref q_1]) ⟨hx, hb, hml, hown, hts⟩ (c_X11_initg l dC dI adK adV q_1 H.size) (cwI 0 hts (gIL_ t_211) rfl rfl rfl (hts _ (gt_ _ t_182)) (hts _ (gt_ _ t_209)) (hts _ (gt_ _ t_210)) rfl (by decide +kernel) ⟨(Nat.le_of_ble_eq_true rfl), (Nat.le_of_ble_eq_true rfl)⟩) ⟨fun a U g mk q => by obtain ⟨q0, q1, qP, qK, qD, qM⟩ := q; exact ⟨q0, q1, qP, va_K.moved (u := U) (U := U.calling g mk a) (Vm.Alike.refl U.vm) qK, qD, am_.same (U := U.calling g mk a) rfl qM⟩, fun U hU hW => ⟨rfl, by rw [hU], by rw [hU]; exact hPc, va_K.moved hW.alike hKc, hDc.weaken (fun _ _ _ _ => trivial), by rw [hU]; exact ((hAm.kept hS.2.1).narrow hFc).warm hW⟩⟩ rfl rfl hl.1 rfl (lv_room (Nat.le_of_ble_eq_true rfl)) dL_law_4 ⟨(Nat.le_of_ble_eq_true rfl), (Nat.le_of_ble_eq_true rfl)⟩) hS (fun q _ h => hFc q h) hFc (fun u_ t H1 locs ht hvm hw hB hz1 hk1 hS => ?_)
  obtain ⟨f_3, f_4, f_5, f_6, f_7, f_8, f_9, hP1, hK1, hD1⟩ := hB
  rw [ht] at hP1
  have hK1 := va_K.moved hvm.symm hK1
  obtain ⟨hP, hD⟩ := va_join (wr := []) (w1 := [(q_1, .inr (11, [.ref (f_3 0), .int 0, .ref (f_3 1), .ref (f_3 2), .ref (f_3 3), .ref (f_3 4), .int 0, .int (-1)])), ((f_3 0), .inl ((f_4 0), 4000, .inl (fun _ => 0))), ((f_3 1), .inr (2, [.ref (f_3 5), .ref (f_3 6), .ref (f_3 7), .null, .null, .null, .int 0, .ref (f_3 8), .ref (f_3 9), .ref (f_3 10), .ref (f_3 11), .int 0, .int 0, .int 0, .int 0, .int 0])), ((f_3 5), .inr (8, [.ref (f_3 12), .ref (f_3 13), .ref (f_3 14), .ref (f_3 15), .ref (f_3 16), .int 0, .int 0, .int 0, .int 0, .int (-1)])), ((f_3 12), .inl ((f_4 1), 1202, .inl (fun _ => 0))), ((f_3 13), .inl ((f_4 2), 1202, .inl (fun _ => 0))), ((f_3 14), .inl ((f_4 3), 1202, .inr (.inl (fun _ => 0)))), ((f_3 15), .inl ((f_4 4), 21, .inr (.inl f_5))), ((f_3 6), .inr (5, [.null, .null, .int 0, .ref (f_3 17), .int 0, .ref (f_3 18), .int 0, .int 0, .int 0])), ((f_3 3), .inr (7, [.ref (f_3 19), .int 0, .ref (f_3 20), .int 0, .ref (f_3 21), .ref (f_3 22), .int 0, .ref (f_3 23), .ref (f_3 24), .ref (f_3 25), .ref (f_3 26), .ref (f_3 27), .ref (f_3 28), .int 0, .ref (f_3 29), .int 0, .ref (f_3 30), .int 0, .int 0])), ((f_3 19), .inl ((f_4 5), 8, .inr (.inr (.inr (.inr f_6))))), ((f_3 20), .inl ((f_4 6), 96, .inr (.inr (.inr (.inr f_7))))), ((f_3 4), .inr (7, [.ref (f_3 31), .int 0, .ref (f_3 32), .int 0, .ref (f_3 33), .ref (f_3 34), .int 0, .ref (f_3 35), .ref (f_3 36), .ref (f_3 37), .ref (f_3 38), .ref (f_3 39), .ref (f_3 40), .int 0, .ref (f_3 41), .int 0, .ref (f_3 42), .int 0, .int 0])), ((f_3 31), .inl ((f_4 7), 8, .inr (.inr (.inr (.inr f_8))))), ((f_3 32), .inl ((f_4 8), 96, .inr (.inr (.inr (.inr f_9))))), ((f_3 2), .inr (10, [.ref (f_3 3), .ref (f_3 43), .ref (f_3 44), .ref (f_3 45), .ref (f_3 46), .ref (f_3 47), .int 0, .int 0, .int 0, .int 0])), ((f_3 44), .inr (3, [.int 0, .ref (f_3 48), .ref (f_3 49), .ref (f_3 50), .int 0, .ref (f_3 51)])), ((f_3 46), .inr (4, [.int 0, .int (-1), .int (-1), .int (-1), .int (-1), .long 0, .int 0, .ref (f_3 52), .ref (f_3 53), .ref (f_3 54), .ref (f_3 55), .ref (f_3 56), .ref (f_3 57), .ref (f_3 58), .int 0, .int 0, .int 0]))]) hP hD [0] [] rfl rfl (by decide) (by decide) hk1 hFc hP1 hD1
  have hK := (hK.sub (tys' := []) [] rfl).app hK1
  generalize H1 = H at hP hS ⊢
  have hP : va_P (dC, dI) vwCl [(q_1, .inr (11, [.ref (f_3 0), .int 0, .ref (f_3 1), .ref (f_3 2), .ref (f_3 3), .ref (f_3 4), .int 0, .int (-1)])), ((f_3 0), .inl ((f_4 0), 4000, .inl (fun _ => 0))), ((f_3 1), .inr (2, [.ref (f_3 5), .ref (f_3 6), .ref (f_3 7), .null, .null, .null, .int 0, .ref (f_3 8), .ref (f_3 9), .ref (f_3 10), .ref (f_3 11), .int 0, .int 0, .int 0, .int 0, .int 0])), ((f_3 5), .inr (8, [.ref (f_3 12), .ref (f_3 13), .ref (f_3 14), .ref (f_3 15), .ref (f_3 16), .int 0, .int 0, .int 0, .int 0, .int (-1)])), ((f_3 12), .inl ((f_4 1), 1202, .inl (fun _ => 0))), ((f_3 13), .inl ((f_4 2), 1202, .inl (fun _ => 0))), ((f_3 14), .inl ((f_4 3), 1202, .inr (.inl (fun _ => 0)))), ((f_3 15), .inl ((f_4 4), 21, .inr (.inl f_5))), ((f_3 6), .inr (5, [.null, .null, .int 0, .ref (f_3 17), .int 0, .ref (f_3 18), .int 0, .int 0, .int 0])), ((f_3 3), .inr (7, [.ref (f_3 19), .int 0, .ref (f_3 20), .int 0, .ref (f_3 21), .ref (f_3 22), .int 0, .ref (f_3 23), .ref (f_3 24), .ref (f_3 25), .ref (f_3 26), .ref (f_3 27), .ref (f_3 28), .int 0, .ref (f_3 29), .int 0, .ref (f_3 30), .int 0, .int 0])), ((f_3 19), .inl ((f_4 5), 8, .inr (.inr (.inr (.inr f_6))))), ((f_3 20), .inl ((f_4 6), 96, .inr (.inr (.inr (.inr f_7))))), ((f_3 4), .inr (7, [.ref (f_3 31), .int 0, .ref (f_3 32), .int 0, .ref (f_3 33), .ref (f_3 34), .int 0, .ref (f_3 35), .ref (f_3 36), .ref (f_3 37), .ref (f_3 38), .ref (f_3 39), .ref (f_3 40), .int 0, .ref (f_3 41), .int 0, .ref (f_3 42), .int 0, .int 0])), ((f_3 31), .inl ((f_4 7), 8, .inr (.inr (.inr (.inr f_8))))), ((f_3 32), .inl ((f_4 8), 96, .inr (.inr (.inr (.inr f_9))))), ((f_3 2), .inr (10, [.ref (f_3 3), .ref (f_3 43), .ref (f_3 44), .ref (f_3 45), .ref (f_3 46), .ref (f_3 47), .int 0, .int 0, .int 0, .int 0])), ((f_3 44), .inr (3, [.int 0, .ref (f_3 48), .ref (f_3 49), .ref (f_3 50), .int 0, .ref (f_3 51)])), ((f_3 46), .inr (4, [.int 0, .int (-1), .int (-1), .int (-1), .int (-1), .long 0, .int 0, .ref (f_3 52), .ref (f_3 53), .ref (f_3 54), .ref (f_3 55), .ref (f_3 56), .ref (f_3 57), .ref (f_3 58), .int 0, .int 0, .int 0]))] H := hP
  have hD : va_D A [(q_1, .inr (11, [.ref (f_3 0), .int 0, .ref (f_3 1), .ref (f_3 2), .ref (f_3 3), .ref (f_3 4), .int 0, .int (-1)])), ((f_3 0), .inl ((f_4 0), 4000, .inl (fun _ => 0))), ((f_3 1), .inr (2, [.ref (f_3 5), .ref (f_3 6), .ref (f_3 7), .null, .null, .null, .int 0, .ref (f_3 8), .ref (f_3 9), .ref (f_3 10), .ref (f_3 11), .int 0, .int 0, .int 0, .int 0, .int 0])), ((f_3 5), .inr (8, [.ref (f_3 12), .ref (f_3 13), .ref (f_3 14), .ref (f_3 15), .ref (f_3 16), .int 0, .int 0, .int 0, .int 0, .int (-1)])), ((f_3 12), .inl ((f_4 1), 1202, .inl (fun _ => 0))), ((f_3 13), .inl ((f_4 2), 1202, .inl (fun _ => 0))), ((f_3 14), .inl ((f_4 3), 1202, .inr (.inl (fun _ => 0)))), ((f_3 15), .inl ((f_4 4), 21, .inr (.inl f_5))), ((f_3 6), .inr (5, [.null, .null, .int 0, .ref (f_3 17), .int 0, .ref (f_3 18), .int 0, .int 0, .int 0])), ((f_3 3), .inr (7, [.ref (f_3 19), .int 0, .ref (f_3 20), .int 0, .ref (f_3 21), .ref (f_3 22), .int 0, .ref (f_3 23), .ref (f_3 24), .ref (f_3 25), .ref (f_3 26), .ref (f_3 27), .ref (f_3 28), .int 0, .ref (f_3 29), .int 0, .ref (f_3 30), .int 0, .int 0])), ((f_3 19), .inl ((f_4 5), 8, .inr (.inr (.inr (.inr f_6))))), ((f_3 20), .inl ((f_4 6), 96, .inr (.inr (.inr (.inr f_7))))), ((f_3 4), .inr (7, [.ref (f_3 31), .int 0, .ref (f_3 32), .int 0, .ref (f_3 33), .ref (f_3 34), .int 0, .ref (f_3 35), .ref (f_3 36), .ref (f_3 37), .ref (f_3 38), .ref (f_3 39), .ref (f_3 40), .int 0, .ref (f_3 41), .int 0, .ref (f_3 42), .int 0, .int 0])), ((f_3 31), .inl ((f_4 7), 8, .inr (.inr (.inr (.inr f_8))))), ((f_3 32), .inl ((f_4 8), 96, .inr (.inr (.inr (.inr f_9))))), ((f_3 2), .inr (10, [.ref (f_3 3), .ref (f_3 43), .ref (f_3 44), .ref (f_3 45), .ref (f_3 46), .ref (f_3 47), .int 0, .int 0, .int 0, .int 0])), ((f_3 44), .inr (3, [.int 0, .ref (f_3 48), .ref (f_3 49), .ref (f_3 50), .int 0, .ref (f_3 51)])), ((f_3 46), .inr (4, [.int 0, .int (-1), .int (-1), .int (-1), .int (-1), .long 0, .int 0, .ref (f_3 52), .ref (f_3 53), .ref (f_3 54), .ref (f_3 55), .ref (f_3 56), .ref (f_3 57), .ref (f_3 58), .int 0, .int 0, .int 0]))] := hD
  have hK : va_K (dC, dI) vwCl [((f_4 0), .byte), ((f_4 1), .int), ((f_4 2), .int), ((f_4 3), .long), ((f_4 4), .long), ((f_4 5), .object RX9), ((f_4 6), .object RX6), ((f_4 7), .object RX9), ((f_4 8), .object RX6)] s := hK
  refine W.widen (k := 784) (n := 31693) (Nat.le_of_ble_eq_true rfl) (Nat.le_of_ble_eq_true rfl) ?_
  refine lv_astore_n (lv' := [(1, .ref q_1), (0, .ref b)]) hx hb dL_law_7 rfl hl (by decide) rfl (fun ls hl => ?_)
  refine va_new (ci := 14) (fs := [.null, .null, .null, .null, .int 0, .int 0, .int 0, .int 0, .int 0, .int 0, .int 0, .long 0, .long 0, .long 0, .int 0, .int 0, .int 0, .int 0, .null, .null, .int 0, .int 0, .int 0, .int 0, .int 0, .int 0, .int 0, .null, .null, .null, .int 0, .int 0, .long 0, .long 0, .int 0, .int 0, .int 0, .int 0, .int 0, .long 0, .long 0, .null, .null, .null, .null, .int 0, .null, .null, .null, .null, .null, .int 0, .int 0, .int 0, .null, .int 0, .null, .null, .int 0, .int 0, .int 0, .int 0, .null, .null, .null, .int 0, .int 0]) (C := RX14) (T := TX14) (N := 67) hx hb hts (mcL_ inX14) tyX14 tyX14_ok hown (hts _ (gt_ _ t_1830)) (hts _ (gt_ _ t_1831)) (hts _ (gt_ _ t_198)) hK hP hD hS hA rfl dfX14 (Nat.le_of_ble_eq_true rfl) (Nat.le_of_ble_eq_true rfl) dL_law_8 (fun q_10 H hP hD hS => ?_)
  have hP : va_P (dC, dI) vwCl [(q_1, .inr (11, [.ref (f_3 0), .int 0, .ref (f_3 1), .ref (f_3 2), .ref (f_3 3), .ref (f_3 4), .int 0, .int (-1)])), ((f_3 0), .inl ((f_4 0), 4000, .inl (fun _ => 0))), ((f_3 1), .inr (2, [.ref (f_3 5), .ref (f_3 6), .ref (f_3 7), .null, .null, .null, .int 0, .ref (f_3 8), .ref (f_3 9), .ref (f_3 10), .ref (f_3 11), .int 0, .int 0, .int 0, .int 0, .int 0])), ((f_3 5), .inr (8, [.ref (f_3 12), .ref (f_3 13), .ref (f_3 14), .ref (f_3 15), .ref (f_3 16), .int 0, .int 0, .int 0, .int 0, .int (-1)])), ((f_3 12), .inl ((f_4 1), 1202, .inl (fun _ => 0))), ((f_3 13), .inl ((f_4 2), 1202, .inl (fun _ => 0))), ((f_3 14), .inl ((f_4 3), 1202, .inr (.inl (fun _ => 0)))), ((f_3 15), .inl ((f_4 4), 21, .inr (.inl f_5))), ((f_3 6), .inr (5, [.null, .null, .int 0, .ref (f_3 17), .int 0, .ref (f_3 18), .int 0, .int 0, .int 0])), ((f_3 3), .inr (7, [.ref (f_3 19), .int 0, .ref (f_3 20), .int 0, .ref (f_3 21), .ref (f_3 22), .int 0, .ref (f_3 23), .ref (f_3 24), .ref (f_3 25), .ref (f_3 26), .ref (f_3 27), .ref (f_3 28), .int 0, .ref (f_3 29), .int 0, .ref (f_3 30), .int 0, .int 0])), ((f_3 19), .inl ((f_4 5), 8, .inr (.inr (.inr (.inr f_6))))), ((f_3 20), .inl ((f_4 6), 96, .inr (.inr (.inr (.inr f_7))))), ((f_3 4), .inr (7, [.ref (f_3 31), .int 0, .ref (f_3 32), .int 0, .ref (f_3 33), .ref (f_3 34), .int 0, .ref (f_3 35), .ref (f_3 36), .ref (f_3 37), .ref (f_3 38), .ref (f_3 39), .ref (f_3 40), .int 0, .ref (f_3 41), .int 0, .ref (f_3 42), .int 0, .int 0])), ((f_3 31), .inl ((f_4 7), 8, .inr (.inr (.inr (.inr f_8))))), ((f_3 32), .inl ((f_4 8), 96, .inr (.inr (.inr (.inr f_9))))), ((f_3 2), .inr (10, [.ref (f_3 3), .ref (f_3 43), .ref (f_3 44), .ref (f_3 45), .ref (f_3 46), .ref (f_3 47), .int 0, .int 0, .int 0, .int 0])), ((f_3 44), .inr (3, [.int 0, .ref (f_3 48), .ref (f_3 49), .ref (f_3 50), .int 0, .ref (f_3 51)])), ((f_3 46), .inr (4, [.int 0, .int (-1), .int (-1), .int (-1), .int (-1), .long 0, .int 0, .ref (f_3 52), .ref (f_3 53), .ref (f_3 54), .ref (f_3 55), .ref (f_3 56), .ref (f_3 57), .ref (f_3 58), .int 0, .int 0, .int 0])), (q_10, .inr (14, [.null, .null, .null, .null, .int 0, .int 0, .int 0, .int 0, .int 0, .int 0, .int 0, .long 0, .long 0, .long 0, .int 0, .int 0, .int 0, .int 0, .null, .null, .int 0, .int 0, .int 0, .int 0, .int 0, .int 0, .int 0, .null, .null, .null, .int 0, .int 0, .long 0, .long 0, .int 0, .int 0, .int 0, .int 0, .int 0, .long 0, .long 0, .null, .null, .null, .null, .int 0, .null, .null, .null, .null, .null, .int 0, .int 0, .int 0, .null, .int 0, .null, .null, .int 0, .int 0, .int 0, .int 0, .null, .null, .null, .int 0, .int 0]))] H := hP
  have hD : va_D A [(q_1, .inr (11, [.ref (f_3 0), .int 0, .ref (f_3 1), .ref (f_3 2), .ref (f_3 3), .ref (f_3 4), .int 0, .int (-1)])), ((f_3 0), .inl ((f_4 0), 4000, .inl (fun _ => 0))), ((f_3 1), .inr (2, [.ref (f_3 5), .ref (f_3 6), .ref (f_3 7), .null, .null, .null, .int 0, .ref (f_3 8), .ref (f_3 9), .ref (f_3 10), .ref (f_3 11), .int 0, .int 0, .int 0, .int 0, .int 0])), ((f_3 5), .inr (8, [.ref (f_3 12), .ref (f_3 13), .ref (f_3 14), .ref (f_3 15), .ref (f_3 16), .int 0, .int 0, .int 0, .int 0, .int (-1)])), ((f_3 12), .inl ((f_4 1), 1202, .inl (fun _ => 0))), ((f_3 13), .inl ((f_4 2), 1202, .inl (fun _ => 0))), ((f_3 14), .inl ((f_4 3), 1202, .inr (.inl (fun _ => 0)))), ((f_3 15), .inl ((f_4 4), 21, .inr (.inl f_5))), ((f_3 6), .inr (5, [.null, .null, .int 0, .ref (f_3 17), .int 0, .ref (f_3 18), .int 0, .int 0, .int 0])), ((f_3 3), .inr (7, [.ref (f_3 19), .int 0, .ref (f_3 20), .int 0, .ref (f_3 21), .ref (f_3 22), .int 0, .ref (f_3 23), .ref (f_3 24), .ref (f_3 25), .ref (f_3 26), .ref (f_3 27), .ref (f_3 28), .int 0, .ref (f_3 29), .int 0, .ref (f_3 30), .int 0, .int 0])), ((f_3 19), .inl ((f_4 5), 8, .inr (.inr (.inr (.inr f_6))))), ((f_3 20), .inl ((f_4 6), 96, .inr (.inr (.inr (.inr f_7))))), ((f_3 4), .inr (7, [.ref (f_3 31), .int 0, .ref (f_3 32), .int 0, .ref (f_3 33), .ref (f_3 34), .int 0, .ref (f_3 35), .ref (f_3 36), .ref (f_3 37), .ref (f_3 38), .ref (f_3 39), .ref (f_3 40), .int 0, .ref (f_3 41), .int 0, .ref (f_3 42), .int 0, .int 0])), ((f_3 31), .inl ((f_4 7), 8, .inr (.inr (.inr (.inr f_8))))), ((f_3 32), .inl ((f_4 8), 96, .inr (.inr (.inr (.inr f_9))))), ((f_3 2), .inr (10, [.ref (f_3 3), .ref (f_3 43), .ref (f_3 44), .ref (f_3 45), .ref (f_3 46), .ref (f_3 47), .int 0, .int 0, .int 0, .int 0])), ((f_3 44), .inr (3, [.int 0, .ref (f_3 48), .ref (f_3 49), .ref (f_3 50), .int 0, .ref (f_3 51)])), ((f_3 46), .inr (4, [.int 0, .int (-1), .int (-1), .int (-1), .int (-1), .long 0, .int 0, .ref (f_3 52), .ref (f_3 53), .ref (f_3 54), .ref (f_3 55), .ref (f_3 56), .ref (f_3 57), .ref (f_3 58), .int 0, .int 0, .int 0])), (q_10, .inr (14, [.null, .null, .null, .null, .int 0, .int 0, .int 0, .int 0, .int 0, .int 0, .int 0, .long 0, .long 0, .long 0, .int 0, .int 0, .int 0, .int 0, .null, .null, .int 0, .int 0, .int 0, .int 0, .int 0, .int 0, .int 0, .null, .null, .null, .int 0, .int 0, .long 0, .long 0, .int 0, .int 0, .int 0, .int 0, .int 0, .long 0, .long 0, .null, .null, .null, .null, .int 0, .null, .null, .null, .null, .null, .int 0, .int 0, .int 0, .null, .int 0, .null, .null, .int 0, .int 0, .int 0, .int 0, .null, .null, .null, .int 0, .int 0]))] := hD
  refine W.widen (k := 785) (n := 31760) (Nat.le_of_ble_eq_true rfl) (Nat.le_of_ble_eq_true rfl) ?_
  refine lv_dup hx hb dL_law_11 rfl ?_
  have hPc := hP.sub (ws' := [(q_10, .inr (14, [.null, .null, .null, .null, .int 0, .int 0, .int 0, .int 0, .int 0, .int 0, .int 0, .long 0, .long 0, .long 0, .int 0, .int 0, .int 0, .int 0, .null, .null, .int 0, .int 0, .int 0, .int 0, .int 0, .int 0, .int 0, .null, .null, .null, .int 0, .int 0, .long 0, .long 0, .int 0, .int 0, .int 0, .int 0, .int 0, .long 0, .long 0, .null, .null, .null, .null, .int 0, .null, .null, .null, .null, .null, .int 0, .int 0, .int 0, .null, .int 0, .null, .null, .int 0, .int 0, .int 0, .int 0, .null, .null, .null, .int 0, .int 0]))]) [18] rfl
  have hDc := hD.sub (ws' := [(q_10, .inr (14, [.null, .null, .null, .null, .int 0, .int 0, .int 0, .int 0, .int 0, .int 0, .int 0, .long 0, .long 0, .long 0, .int 0, .int 0, .int 0, .int 0, .null, .null, .int 0, .int 0, .int 0, .int 0, .int 0, .int 0, .int 0, .null, .null, .null, .int 0, .int 0, .long 0, .long 0, .int 0, .int 0, .int 0, .int 0, .int 0, .long 0, .long 0, .null, .null, .null, .null, .int 0, .null, .null, .null, .null, .null, .int 0, .int 0, .int 0, .null, .int 0, .null, .null, .int 0, .int 0, .int 0, .int 0, .null, .null, .null, .int 0, .int 0]))]) [18] (by decide) rfl
  have hKc := hK.sub (tys' := []) [] rfl
  have hFc := va_free (wc := [(q_10, .inr (14, [.null, .null, .null, .null, .int 0, .int 0, .int 0, .int 0, .int 0, .int 0, .int 0, .long 0, .long 0, .long 0, .int 0, .int 0, .int 0, .int 0, .null, .null, .int 0, .int 0, .int 0, .int 0, .int 0, .int 0, .int 0, .null, .null, .null, .int 0, .int 0, .long 0, .long 0, .int 0, .int 0, .int 0, .int 0, .int 0, .long 0, .long 0, .null, .null, .null, .null, .int 0, .null, .null, .null, .null, .null, .int 0, .int 0, .int 0, .null, .int 0, .null, .null, .int 0, .int 0, .int 0, .int 0, .null, .null, .null, .int 0, .int 0]))]) hD hS hA [18] rfl
  refine va_callv (va_runI (As := []) (rest := [.ref q_10]) ⟨hx, hb, hml, hown, hts⟩ (c_X14_initg l dC dI adK adV q_10 H.size) (cwI 0 hts (gIL_ t_1834) rfl rfl rfl (hts _ (gt_ _ t_198)) (hts _ (gt_ _ t_1832)) (hts _ (gt_ _ t_1833)) rfl (by decide +kernel) ⟨(Nat.le_of_ble_eq_true rfl), (Nat.le_of_ble_eq_true rfl)⟩) ⟨fun a U g mk q => by obtain ⟨q0, q1, qP, qK, qD, qM⟩ := q; exact ⟨q0, q1, qP, va_K.moved (u := U) (U := U.calling g mk a) (Vm.Alike.refl U.vm) qK, qD, am_.same (U := U.calling g mk a) rfl qM⟩, fun U hU hW => ⟨rfl, by rw [hU], by rw [hU]; exact hPc, va_K.moved hW.alike hKc, hDc.weaken (fun _ _ _ _ => trivial), by rw [hU]; exact ((hAm.kept hS.2.1).narrow hFc).warm hW⟩⟩ rfl rfl hl.1 rfl (lv_room (Nat.le_of_ble_eq_true rfl)) dL_law_12 ⟨(Nat.le_of_ble_eq_true rfl), (Nat.le_of_ble_eq_true rfl)⟩) hS (fun q _ h => hFc q h) hFc (fun u_ t H1 locs ht hvm hw hB hz1 hk1 hS => ?_)
  obtain ⟨f_12, f_13, hP1, hK1, hD1⟩ := hB
  rw [ht] at hP1
  have hK1 := va_K.moved hvm.symm hK1
  obtain ⟨hP, hD⟩ := va_join (wr := [(q_1, .inr (11, [.ref (f_3 0), .int 0, .ref (f_3 1), .ref (f_3 2), .ref (f_3 3), .ref (f_3 4), .int 0, .int (-1)])), ((f_3 0), .inl ((f_4 0), 4000, .inl (fun _ => 0))), ((f_3 1), .inr (2, [.ref (f_3 5), .ref (f_3 6), .ref (f_3 7), .null, .null, .null, .int 0, .ref (f_3 8), .ref (f_3 9), .ref (f_3 10), .ref (f_3 11), .int 0, .int 0, .int 0, .int 0, .int 0])), ((f_3 5), .inr (8, [.ref (f_3 12), .ref (f_3 13), .ref (f_3 14), .ref (f_3 15), .ref (f_3 16), .int 0, .int 0, .int 0, .int 0, .int (-1)])), ((f_3 12), .inl ((f_4 1), 1202, .inl (fun _ => 0))), ((f_3 13), .inl ((f_4 2), 1202, .inl (fun _ => 0))), ((f_3 14), .inl ((f_4 3), 1202, .inr (.inl (fun _ => 0)))), ((f_3 15), .inl ((f_4 4), 21, .inr (.inl f_5))), ((f_3 6), .inr (5, [.null, .null, .int 0, .ref (f_3 17), .int 0, .ref (f_3 18), .int 0, .int 0, .int 0])), ((f_3 3), .inr (7, [.ref (f_3 19), .int 0, .ref (f_3 20), .int 0, .ref (f_3 21), .ref (f_3 22), .int 0, .ref (f_3 23), .ref (f_3 24), .ref (f_3 25), .ref (f_3 26), .ref (f_3 27), .ref (f_3 28), .int 0, .ref (f_3 29), .int 0, .ref (f_3 30), .int 0, .int 0])), ((f_3 19), .inl ((f_4 5), 8, .inr (.inr (.inr (.inr f_6))))), ((f_3 20), .inl ((f_4 6), 96, .inr (.inr (.inr (.inr f_7))))), ((f_3 4), .inr (7, [.ref (f_3 31), .int 0, .ref (f_3 32), .int 0, .ref (f_3 33), .ref (f_3 34), .int 0, .ref (f_3 35), .ref (f_3 36), .ref (f_3 37), .ref (f_3 38), .ref (f_3 39), .ref (f_3 40), .int 0, .ref (f_3 41), .int 0, .ref (f_3 42), .int 0, .int 0])), ((f_3 31), .inl ((f_4 7), 8, .inr (.inr (.inr (.inr f_8))))), ((f_3 32), .inl ((f_4 8), 96, .inr (.inr (.inr (.inr f_9))))), ((f_3 2), .inr (10, [.ref (f_3 3), .ref (f_3 43), .ref (f_3 44), .ref (f_3 45), .ref (f_3 46), .ref (f_3 47), .int 0, .int 0, .int 0, .int 0])), ((f_3 44), .inr (3, [.int 0, .ref (f_3 48), .ref (f_3 49), .ref (f_3 50), .int 0, .ref (f_3 51)])), ((f_3 46), .inr (4, [.int 0, .int (-1), .int (-1), .int (-1), .int (-1), .long 0, .int 0, .ref (f_3 52), .ref (f_3 53), .ref (f_3 54), .ref (f_3 55), .ref (f_3 56), .ref (f_3 57), .ref (f_3 58), .int 0, .int 0, .int 0]))]) (w1 := [(q_10, .inr (14, [.ref (f_12 0), .ref (f_12 1), .ref (f_12 2), .ref (f_12 3), .int 0, .int 0, .int 0, .int 0, .int 0, .int 0, .int 0, .long 0, .long 0, .long 0, .int 0, .int (-1), .int 0, .int 0, .ref (f_12 4), .ref (f_12 5), .int 0, .int 0, .int 0, .int 0, .int 0, .int 0, .int 0, .ref (f_12 6), .ref (f_12 7), .ref (f_12 8), .int 0, .int 0, .long 0, .long 0, .int 0, .int 0, .int 0, .int 0, .int 0, .long 0, .long 0, .ref (f_12 9), .ref (f_12 10), .ref (f_12 11), .ref (f_12 12), .int 0, .ref (f_12 13), .ref (f_12 14), .ref (f_12 15), .ref (f_12 16), .ref (f_12 17), .int 0, .int 0, .int 0, .ref (f_12 18), .int 0, .ref (f_12 19), .ref (f_12 20), .int 0, .int 0, .int 0, .int 0, .ref (f_12 21), .ref (f_12 22), .ref (f_12 23), .int 0, .int 0])), ((f_12 0), .inr (13, [.null, .null, .null, .null, .null, .int 0])), ((f_12 1), .inr (12, [.int 0, .ref (f_12 24), .ref (f_12 25), .ref (f_12 26), .ref (f_12 27), .ref (f_12 28), .ref (f_12 29), .ref (f_12 30), .ref (f_12 31), .ref (f_12 32), .ref (f_12 33), .ref (f_12 34), .ref (f_12 35), .ref (f_12 36), .ref (f_12 37), .ref (f_12 38), .ref (f_12 39), .ref (f_12 40), .ref (f_12 41), .ref (f_12 42), .ref (f_12 43), .ref (f_12 44), .ref (f_12 45), .ref (f_12 46), .ref (f_12 47), .ref (f_12 48), .ref (f_12 49), .int 0, .ref (f_12 50), .ref (f_12 51), .ref (f_12 52), .ref (f_12 53), .ref (f_12 54), .ref (f_12 55), .ref (f_12 56), .ref (f_12 57), .ref (f_12 58), .ref (f_12 59), .ref (f_12 60), .ref (f_12 61), .ref (f_12 62), .ref (f_12 63), .ref (f_12 64), .ref (f_12 65), .ref (f_12 66), .ref (f_12 67), .int 0, .ref (f_12 68), .ref (f_12 69), .ref (f_12 70), .ref (f_12 71), .ref (f_12 72), .ref (f_12 73), .ref (f_12 74), .ref (f_12 75), .ref (f_12 76), .ref (f_12 77), .int 0, .int 0, .ref (f_12 78)])), ((f_12 2), .inr (12, [.int 0, .ref (f_12 79), .ref (f_12 80), .ref (f_12 81), .ref (f_12 82), .ref (f_12 83), .ref (f_12 84), .ref (f_12 85), .ref (f_12 86), .ref (f_12 87), .ref (f_12 88), .ref (f_12 89), .ref (f_12 90), .ref (f_12 91), .ref (f_12 92), .ref (f_12 93), .ref (f_12 94), .ref (f_12 95), .ref (f_12 96), .ref (f_12 97), .ref (f_12 98), .ref (f_12 99), .ref (f_12 100), .ref (f_12 101), .ref (f_12 102), .ref (f_12 103), .ref (f_12 104), .int 0, .ref (f_12 105), .ref (f_12 106), .ref (f_12 107), .ref (f_12 108), .ref (f_12 109), .ref (f_12 110), .ref (f_12 111), .ref (f_12 112), .ref (f_12 113), .ref (f_12 114), .ref (f_12 115), .ref (f_12 116), .ref (f_12 117), .ref (f_12 118), .ref (f_12 119), .ref (f_12 120), .ref (f_12 121), .ref (f_12 122), .int 0, .ref (f_12 123), .ref (f_12 124), .ref (f_12 125), .ref (f_12 126), .ref (f_12 127), .ref (f_12 128), .ref (f_12 129), .ref (f_12 130), .ref (f_12 131), .ref (f_12 132), .int 0, .int 0, .ref (f_12 133)])), ((f_12 3), .inl ((f_13 0), 4000, .inl (fun _ => 0))), ((f_12 19), .inl ((f_13 1), 4, .inl (upd (upd (upd (upd (fun _ => 0) 0 (-1)) 1 (-1)) 2 (-1)) 3 (-1)))), ((f_12 20), .inl ((f_13 2), 2, .inl (upd (upd (fun _ => 0) 0 (-1)) 1 (-1))))]) hP hD [18] [0, 1, 2, 3, 4, 5, 6, 7, 8, 9, 10, 11, 12, 13, 14, 15, 16, 17] rfl rfl (by decide) (by decide) hk1 hFc hP1 hD1
  have hK := (hK.sub (tys' := [((f_4 0), .byte), ((f_4 1), .int), ((f_4 2), .int), ((f_4 3), .long), ((f_4 4), .long), ((f_4 5), .object RX9), ((f_4 6), .object RX6), ((f_4 7), .object RX9), ((f_4 8), .object RX6)]) [0, 1, 2, 3, 4, 5, 6, 7, 8] rfl).app hK1
  generalize H1 = H at hP hS ⊢
  have hP : va_P (dC, dI) vwCl [(q_1, .inr (11, [.ref (f_3 0), .int 0, .ref (f_3 1), .ref (f_3 2), .ref (f_3 3), .ref (f_3 4), .int 0, .int (-1)])), ((f_3 0), .inl ((f_4 0), 4000, .inl (fun _ => 0))), ((f_3 1), .inr (2, [.ref (f_3 5), .ref (f_3 6), .ref (f_3 7), .null, .null, .null, .int 0, .ref (f_3 8), .ref (f_3 9), .ref (f_3 10), .ref (f_3 11), .int 0, .int 0, .int 0, .int 0, .int 0])), ((f_3 5), .inr (8, [.ref (f_3 12), .ref (f_3 13), .ref (f_3 14), .ref (f_3 15), .ref (f_3 16), .int 0, .int 0, .int 0, .int 0, .int (-1)])), ((f_3 12), .inl ((f_4 1), 1202, .inl (fun _ => 0))), ((f_3 13), .inl ((f_4 2), 1202, .inl (fun _ => 0))), ((f_3 14), .inl ((f_4 3), 1202, .inr (.inl (fun _ => 0)))), ((f_3 15), .inl ((f_4 4), 21, .inr (.inl f_5))), ((f_3 6), .inr (5, [.null, .null, .int 0, .ref (f_3 17), .int 0, .ref (f_3 18), .int 0, .int 0, .int 0])), ((f_3 3), .inr (7, [.ref (f_3 19), .int 0, .ref (f_3 20), .int 0, .ref (f_3 21), .ref (f_3 22), .int 0, .ref (f_3 23), .ref (f_3 24), .ref (f_3 25), .ref (f_3 26), .ref (f_3 27), .ref (f_3 28), .int 0, .ref (f_3 29), .int 0, .ref (f_3 30), .int 0, .int 0])), ((f_3 19), .inl ((f_4 5), 8, .inr (.inr (.inr (.inr f_6))))), ((f_3 20), .inl ((f_4 6), 96, .inr (.inr (.inr (.inr f_7))))), ((f_3 4), .inr (7, [.ref (f_3 31), .int 0, .ref (f_3 32), .int 0, .ref (f_3 33), .ref (f_3 34), .int 0, .ref (f_3 35), .ref (f_3 36), .ref (f_3 37), .ref (f_3 38), .ref (f_3 39), .ref (f_3 40), .int 0, .ref (f_3 41), .int 0, .ref (f_3 42), .int 0, .int 0])), ((f_3 31), .inl ((f_4 7), 8, .inr (.inr (.inr (.inr f_8))))), ((f_3 32), .inl ((f_4 8), 96, .inr (.inr (.inr (.inr f_9))))), ((f_3 2), .inr (10, [.ref (f_3 3), .ref (f_3 43), .ref (f_3 44), .ref (f_3 45), .ref (f_3 46), .ref (f_3 47), .int 0, .int 0, .int 0, .int 0])), ((f_3 44), .inr (3, [.int 0, .ref (f_3 48), .ref (f_3 49), .ref (f_3 50), .int 0, .ref (f_3 51)])), ((f_3 46), .inr (4, [.int 0, .int (-1), .int (-1), .int (-1), .int (-1), .long 0, .int 0, .ref (f_3 52), .ref (f_3 53), .ref (f_3 54), .ref (f_3 55), .ref (f_3 56), .ref (f_3 57), .ref (f_3 58), .int 0, .int 0, .int 0])), (q_10, .inr (14, [.ref (f_12 0), .ref (f_12 1), .ref (f_12 2), .ref (f_12 3), .int 0, .int 0, .int 0, .int 0, .int 0, .int 0, .int 0, .long 0, .long 0, .long 0, .int 0, .int (-1), .int 0, .int 0, .ref (f_12 4), .ref (f_12 5), .int 0, .int 0, .int 0, .int 0, .int 0, .int 0, .int 0, .ref (f_12 6), .ref (f_12 7), .ref (f_12 8), .int 0, .int 0, .long 0, .long 0, .int 0, .int 0, .int 0, .int 0, .int 0, .long 0, .long 0, .ref (f_12 9), .ref (f_12 10), .ref (f_12 11), .ref (f_12 12), .int 0, .ref (f_12 13), .ref (f_12 14), .ref (f_12 15), .ref (f_12 16), .ref (f_12 17), .int 0, .int 0, .int 0, .ref (f_12 18), .int 0, .ref (f_12 19), .ref (f_12 20), .int 0, .int 0, .int 0, .int 0, .ref (f_12 21), .ref (f_12 22), .ref (f_12 23), .int 0, .int 0])), ((f_12 0), .inr (13, [.null, .null, .null, .null, .null, .int 0])), ((f_12 1), .inr (12, [.int 0, .ref (f_12 24), .ref (f_12 25), .ref (f_12 26), .ref (f_12 27), .ref (f_12 28), .ref (f_12 29), .ref (f_12 30), .ref (f_12 31), .ref (f_12 32), .ref (f_12 33), .ref (f_12 34), .ref (f_12 35), .ref (f_12 36), .ref (f_12 37), .ref (f_12 38), .ref (f_12 39), .ref (f_12 40), .ref (f_12 41), .ref (f_12 42), .ref (f_12 43), .ref (f_12 44), .ref (f_12 45), .ref (f_12 46), .ref (f_12 47), .ref (f_12 48), .ref (f_12 49), .int 0, .ref (f_12 50), .ref (f_12 51), .ref (f_12 52), .ref (f_12 53), .ref (f_12 54), .ref (f_12 55), .ref (f_12 56), .ref (f_12 57), .ref (f_12 58), .ref (f_12 59), .ref (f_12 60), .ref (f_12 61), .ref (f_12 62), .ref (f_12 63), .ref (f_12 64), .ref (f_12 65), .ref (f_12 66), .ref (f_12 67), .int 0, .ref (f_12 68), .ref (f_12 69), .ref (f_12 70), .ref (f_12 71), .ref (f_12 72), .ref (f_12 73), .ref (f_12 74), .ref (f_12 75), .ref (f_12 76), .ref (f_12 77), .int 0, .int 0, .ref (f_12 78)])), ((f_12 2), .inr (12, [.int 0, .ref (f_12 79), .ref (f_12 80), .ref (f_12 81), .ref (f_12 82), .ref (f_12 83), .ref (f_12 84), .ref (f_12 85), .ref (f_12 86), .ref (f_12 87), .ref (f_12 88), .ref (f_12 89), .ref (f_12 90), .ref (f_12 91), .ref (f_12 92), .ref (f_12 93), .ref (f_12 94), .ref (f_12 95), .ref (f_12 96), .ref (f_12 97), .ref (f_12 98), .ref (f_12 99), .ref (f_12 100), .ref (f_12 101), .ref (f_12 102), .ref (f_12 103), .ref (f_12 104), .int 0, .ref (f_12 105), .ref (f_12 106), .ref (f_12 107), .ref (f_12 108), .ref (f_12 109), .ref (f_12 110), .ref (f_12 111), .ref (f_12 112), .ref (f_12 113), .ref (f_12 114), .ref (f_12 115), .ref (f_12 116), .ref (f_12 117), .ref (f_12 118), .ref (f_12 119), .ref (f_12 120), .ref (f_12 121), .ref (f_12 122), .int 0, .ref (f_12 123), .ref (f_12 124), .ref (f_12 125), .ref (f_12 126), .ref (f_12 127), .ref (f_12 128), .ref (f_12 129), .ref (f_12 130), .ref (f_12 131), .ref (f_12 132), .int 0, .int 0, .ref (f_12 133)])), ((f_12 3), .inl ((f_13 0), 4000, .inl (fun _ => 0))), ((f_12 19), .inl ((f_13 1), 4, .inl (upd (upd (upd (upd (fun _ => 0) 0 (-1)) 1 (-1)) 2 (-1)) 3 (-1)))), ((f_12 20), .inl ((f_13 2), 2, .inl (upd (upd (fun _ => 0) 0 (-1)) 1 (-1))))] H := hP
  have hD : va_D A [(q_1, .inr (11, [.ref (f_3 0), .int 0, .ref (f_3 1), .ref (f_3 2), .ref (f_3 3), .ref (f_3 4), .int 0, .int (-1)])), ((f_3 0), .inl ((f_4 0), 4000, .inl (fun _ => 0))), ((f_3 1), .inr (2, [.ref (f_3 5), .ref (f_3 6), .ref (f_3 7), .null, .null, .null, .int 0, .ref (f_3 8), .ref (f_3 9), .ref (f_3 10), .ref (f_3 11), .int 0, .int 0, .int 0, .int 0, .int 0])), ((f_3 5), .inr (8, [.ref (f_3 12), .ref (f_3 13), .ref (f_3 14), .ref (f_3 15), .ref (f_3 16), .int 0, .int 0, .int 0, .int 0, .int (-1)])), ((f_3 12), .inl ((f_4 1), 1202, .inl (fun _ => 0))), ((f_3 13), .inl ((f_4 2), 1202, .inl (fun _ => 0))), ((f_3 14), .inl ((f_4 3), 1202, .inr (.inl (fun _ => 0)))), ((f_3 15), .inl ((f_4 4), 21, .inr (.inl f_5))), ((f_3 6), .inr (5, [.null, .null, .int 0, .ref (f_3 17), .int 0, .ref (f_3 18), .int 0, .int 0, .int 0])), ((f_3 3), .inr (7, [.ref (f_3 19), .int 0, .ref (f_3 20), .int 0, .ref (f_3 21), .ref (f_3 22), .int 0, .ref (f_3 23), .ref (f_3 24), .ref (f_3 25), .ref (f_3 26), .ref (f_3 27), .ref (f_3 28), .int 0, .ref (f_3 29), .int 0, .ref (f_3 30), .int 0, .int 0])), ((f_3 19), .inl ((f_4 5), 8, .inr (.inr (.inr (.inr f_6))))), ((f_3 20), .inl ((f_4 6), 96, .inr (.inr (.inr (.inr f_7))))), ((f_3 4), .inr (7, [.ref (f_3 31), .int 0, .ref (f_3 32), .int 0, .ref (f_3 33), .ref (f_3 34), .int 0, .ref (f_3 35), .ref (f_3 36), .ref (f_3 37), .ref (f_3 38), .ref (f_3 39), .ref (f_3 40), .int 0, .ref (f_3 41), .int 0, .ref (f_3 42), .int 0, .int 0])), ((f_3 31), .inl ((f_4 7), 8, .inr (.inr (.inr (.inr f_8))))), ((f_3 32), .inl ((f_4 8), 96, .inr (.inr (.inr (.inr f_9))))), ((f_3 2), .inr (10, [.ref (f_3 3), .ref (f_3 43), .ref (f_3 44), .ref (f_3 45), .ref (f_3 46), .ref (f_3 47), .int 0, .int 0, .int 0, .int 0])), ((f_3 44), .inr (3, [.int 0, .ref (f_3 48), .ref (f_3 49), .ref (f_3 50), .int 0, .ref (f_3 51)])), ((f_3 46), .inr (4, [.int 0, .int (-1), .int (-1), .int (-1), .int (-1), .long 0, .int 0, .ref (f_3 52), .ref (f_3 53), .ref (f_3 54), .ref (f_3 55), .ref (f_3 56), .ref (f_3 57), .ref (f_3 58), .int 0, .int 0, .int 0])), (q_10, .inr (14, [.ref (f_12 0), .ref (f_12 1), .ref (f_12 2), .ref (f_12 3), .int 0, .int 0, .int 0, .int 0, .int 0, .int 0, .int 0, .long 0, .long 0, .long 0, .int 0, .int (-1), .int 0, .int 0, .ref (f_12 4), .ref (f_12 5), .int 0, .int 0, .int 0, .int 0, .int 0, .int 0, .int 0, .ref (f_12 6), .ref (f_12 7), .ref (f_12 8), .int 0, .int 0, .long 0, .long 0, .int 0, .int 0, .int 0, .int 0, .int 0, .long 0, .long 0, .ref (f_12 9), .ref (f_12 10), .ref (f_12 11), .ref (f_12 12), .int 0, .ref (f_12 13), .ref (f_12 14), .ref (f_12 15), .ref (f_12 16), .ref (f_12 17), .int 0, .int 0, .int 0, .ref (f_12 18), .int 0, .ref (f_12 19), .ref (f_12 20), .int 0, .int 0, .int 0, .int 0, .ref (f_12 21), .ref (f_12 22), .ref (f_12 23), .int 0, .int 0])), ((f_12 0), .inr (13, [.null, .null, .null, .null, .null, .int 0])), ((f_12 1), .inr (12, [.int 0, .ref (f_12 24), .ref (f_12 25), .ref (f_12 26), .ref (f_12 27), .ref (f_12 28), .ref (f_12 29), .ref (f_12 30), .ref (f_12 31), .ref (f_12 32), .ref (f_12 33), .ref (f_12 34), .ref (f_12 35), .ref (f_12 36), .ref (f_12 37), .ref (f_12 38), .ref (f_12 39), .ref (f_12 40), .ref (f_12 41), .ref (f_12 42), .ref (f_12 43), .ref (f_12 44), .ref (f_12 45), .ref (f_12 46), .ref (f_12 47), .ref (f_12 48), .ref (f_12 49), .int 0, .ref (f_12 50), .ref (f_12 51), .ref (f_12 52), .ref (f_12 53), .ref (f_12 54), .ref (f_12 55), .ref (f_12 56), .ref (f_12 57), .ref (f_12 58), .ref (f_12 59), .ref (f_12 60), .ref (f_12 61), .ref (f_12 62), .ref (f_12 63), .ref (f_12 64), .ref (f_12 65), .ref (f_12 66), .ref (f_12 67), .int 0, .ref (f_12 68), .ref (f_12 69), .ref (f_12 70), .ref (f_12 71), .ref (f_12 72), .ref (f_12 73), .ref (f_12 74), .ref (f_12 75), .ref (f_12 76), .ref (f_12 77), .int 0, .int 0, .ref (f_12 78)])), ((f_12 2), .inr (12, [.int 0, .ref (f_12 79), .ref (f_12 80), .ref (f_12 81), .ref (f_12 82), .ref (f_12 83), .ref (f_12 84), .ref (f_12 85), .ref (f_12 86), .ref (f_12 87), .ref (f_12 88), .ref (f_12 89), .ref (f_12 90), .ref (f_12 91), .ref (f_12 92), .ref (f_12 93), .ref (f_12 94), .ref (f_12 95), .ref (f_12 96), .ref (f_12 97), .ref (f_12 98), .ref (f_12 99), .ref (f_12 100), .ref (f_12 101), .ref (f_12 102), .ref (f_12 103), .ref (f_12 104), .int 0, .ref (f_12 105), .ref (f_12 106), .ref (f_12 107), .ref (f_12 108), .ref (f_12 109), .ref (f_12 110), .ref (f_12 111), .ref (f_12 112), .ref (f_12 113), .ref (f_12 114), .ref (f_12 115), .ref (f_12 116), .ref (f_12 117), .ref (f_12 118), .ref (f_12 119), .ref (f_12 120), .ref (f_12 121), .ref (f_12 122), .int 0, .ref (f_12 123), .ref (f_12 124), .ref (f_12 125), .ref (f_12 126), .ref (f_12 127), .ref (f_12 128), .ref (f_12 129), .ref (f_12 130), .ref (f_12 131), .ref (f_12 132), .int 0, .int 0, .ref (f_12 133)])), ((f_12 3), .inl ((f_13 0), 4000, .inl (fun _ => 0))), ((f_12 19), .inl ((f_13 1), 4, .inl (upd (upd (upd (upd (fun _ => 0) 0 (-1)) 1 (-1)) 2 (-1)) 3 (-1)))), ((f_12 20), .inl ((f_13 2), 2, .inl (upd (upd (fun _ => 0) 0 (-1)) 1 (-1))))] := hD
  have hK : va_K (dC, dI) vwCl [((f_4 0), .byte), ((f_4 1), .int), ((f_4 2), .int), ((f_4 3), .long), ((f_4 4), .long), ((f_4 5), .object RX9), ((f_4 6), .object RX6), ((f_4 7), .object RX9), ((f_4 8), .object RX6), ((f_13 0), .byte), ((f_13 1), .int), ((f_13 2), .int)] s := hK
  refine W.widen (k := 919) (n := 128831) (Nat.le_of_ble_eq_true rfl) (Nat.le_of_ble_eq_true rfl) ?_
  refine lv_astore_n (lv' := [(2, .ref q_10), (1, .ref q_1), (0, .ref b)]) hx hb dL_law_15 rfl hl (by decide) rfl (fun ls hl => ?_)
  refine lv_iconst (v := 0) hx hb dL_law_16 (by decide) ?_
  refine lv_istore_n (lv' := [(3, .int 0), (2, .ref q_10), (1, .ref q_1), (0, .ref b)]) hx hb dL_law_17 rfl hl (by decide) rfl (fun ls hl => ?_)
  by_cases h6 : L = 6
  · subst h6
    refine lv_iload_n hx hb dL_law_18 rfl (lv_at hl 0 rfl) ?_
    refine lv_aload_n hx hb dL_law_19 rfl (lv_at hl 3 rfl) ?_
    refine va_slen hx hb hX hbl hbA hS dL_law_20 ?_
    refine lv_topi (fun y_14 ey_14 => ?_)
    obtain rfl : y_14 = 6 := ey_14.trans (by decide)
    refine lv_bipush (v := 6) hx hb dL_law_21 (by decide) ?_
    refine lv_isub hx hb dL_law_23 ?_
    refine lv_topi (fun y_15 ey_15 => ?_)
    obtain rfl : y_15 = 0 := ey_15.trans (by decide)
    refine lv_icmp_gt (tgt := 831) hx hb dL_law_24 (by decide) (fun c_ => absurd c_ (by decide)) (fun c_ => ?_)
    refine lv_aload_n hx hb dL_law_27 rfl (lv_at hl 3 rfl) ?_
    refine lv_iload_n hx hb dL_law_28 rfl (lv_at hl 0 rfl) ?_
    refine va_sld hx hb hX hbl hbA hS (by unfold vp_in; decide) dL_law_29 ?_
    refine lv_topi (fun y_16 ey_16 => ?_)
    refine lv_bipush (v := 31) hx hb dL_law_30 (by decide) ?_
    refine lv_iand hx hb dL_law_32 ?_
    refine lv_topi (fun y_17 ey_17 => ?_)
    by_cases e_18 : y_17 = 0
    · refine lv_topi (fun z_19 ez_19 => ?_)
      obtain rfl : z_19 = 0 := ez_19.trans e_18
      refine lv_tableIn (off := 115) (tgt := 148) hx hb dL_law_33 (by decide) (by decide) rfl (by decide) ?_
      exact law_0 C0 hA hfg hbA _ _ _ (hK.sub [0, 9] rfl) (hP.sub [0, 1, 18, 22] rfl) (hD.sub [0, 1, 18, 22] (by decide) rfl) hS (lv_sub hl [0, 1, 2, 3] rfl)
    by_cases e_20 : y_17 = 1
    · refine lv_topi (fun z_21 ez_21 => ?_)
      obtain rfl : z_21 = 1 := ez_21.trans e_20
      refine lv_tableIn (off := 178) (tgt := 211) hx hb dL_law_33 (by decide) (by decide) rfl (by decide) ?_
      exact law_1 C0 hA hfg hbA _ _ _ (hK.sub [] rfl) (hP.sub [0, 18] rfl) (hD.sub [0, 18] (by decide) rfl) hS (lv_sub hl [0, 1, 2, 3] rfl)
    by_cases e_22 : y_17 = 2
    · refine lv_topi (fun z_23 ez_23 => ?_)
      obtain rfl : z_23 = 2 := ez_23.trans e_22
      refine lv_tableIn (off := 201) (tgt := 234) hx hb dL_law_33 (by decide) (by decide) rfl (by decide) ?_
      exact law_2 C0 hA hfg hbA hCa _ _ _ (hK.sub [0, 1, 2, 3, 7, 8] rfl) (hP.sub [0, 1, 2, 3, 4, 5, 6, 8, 12, 13, 14, 18, 19, 21] rfl) (hD.sub [0, 1, 2, 3, 4, 5, 6, 8, 12, 13, 14, 18, 19, 21] (by decide) rfl) hS (lv_sub hl [0, 1, 2, 3] rfl)
    by_cases e_24 : y_17 = 3
    · refine lv_topi (fun z_25 ez_25 => ?_)
      obtain rfl : z_25 = 3 := ez_25.trans e_24
      refine lv_tableIn (off := 214) (tgt := 247) hx hb dL_law_33 (by decide) (by decide) rfl (by decide) ?_
      exact law_3 C0 hA hfg hbA _ _ _ (hK.sub [] rfl) (hP.sub [0, 18] rfl) (hD.sub [0, 18] (by decide) rfl) hS (lv_sub hl [0, 1, 2, 3] rfl)
    by_cases e_26 : y_17 = 4
    · refine lv_topi (fun z_27 ez_27 => ?_)
      obtain rfl : z_27 = 4 := ez_27.trans e_26
      refine lv_tableIn (off := 237) (tgt := 270) hx hb dL_law_33 (by decide) (by decide) rfl (by decide) ?_
      exact law_4 C0 hA hfg hbA _ _ _ (hK.sub [] rfl) (hP.sub [0, 9, 18, 20] rfl) (hD.sub [0, 9, 18, 20] (by decide) rfl) hS (lv_sub hl [0, 1, 2, 3] rfl)
    by_cases e_28 : y_17 = 5
    · refine lv_topi (fun z_29 ez_29 => ?_)
      obtain rfl : z_29 = 5 := ez_29.trans e_28
      refine lv_tableIn (off := 270) (tgt := 303) hx hb dL_law_33 (by decide) (by decide) rfl (by decide) ?_
      exact law_5 C0 hA hfg hbA _ _ _ (hK.sub [] rfl) (hP.sub [0, 9, 18, 20] rfl) (hD.sub [0, 9, 18, 20] (by decide) rfl) hS (lv_sub hl [0, 1, 2, 3] rfl)
    by_cases e_30 : y_17 = 6
    · refine lv_topi (fun z_31 ez_31 => ?_)
      obtain rfl : z_31 = 6 := ez_31.trans e_30
      refine lv_tableIn (off := 313) (tgt := 346) hx hb dL_law_33 (by decide) (by decide) rfl (by decide) ?_
      exact law_6 C0 hA hfg hbA _ _ _ (hK.sub [] rfl) (hP.sub [0, 9, 18, 20] rfl) (hD.sub [0, 9, 18, 20] (by decide) rfl) hS (lv_sub hl [0, 1, 2, 3] rfl)
    by_cases e_32 : y_17 = 7
    · refine lv_topi (fun z_33 ez_33 => ?_)
      obtain rfl : z_33 = 7 := ez_33.trans e_32
      refine lv_tableIn (off := 346) (tgt := 379) hx hb dL_law_33 (by decide) (by decide) rfl (by decide) ?_
      exact law_7 C0 hA hfg hbA _ _ _ (hK.sub [] rfl) (hP.sub [0, 15, 16, 18] rfl) (hD.sub [0, 15, 16, 18] (by decide) rfl) hS (lv_sub hl [0, 1, 2, 3] rfl)
    by_cases e_34 : y_17 = 8
    · refine lv_topi (fun z_35 ez_35 => ?_)
      obtain rfl : z_35 = 8 := ez_35.trans e_34
      refine lv_tableIn (off := 359) (tgt := 392) hx hb dL_law_33 (by decide) (by decide) rfl (by decide) ?_
      exact law_8 C0 hA hfg hbA _ _ _ (hK.sub [] rfl) (hP.sub [0, 9, 18, 20] rfl) (hD.sub [0, 9, 18, 20] (by decide) rfl) hS (lv_sub hl [0, 1, 2, 3] rfl)
    by_cases e_36 : y_17 = 9
    · refine lv_topi (fun z_37 ez_37 => ?_)
      obtain rfl : z_37 = 9 := ez_37.trans e_36
      refine lv_tableIn (off := 382) (tgt := 415) hx hb dL_law_33 (by decide) (by decide) rfl (by decide) ?_
      exact law_9 C0 hA hfg hbA _ _ _ (hK.sub [] rfl) (hP.sub [0, 15, 16, 18] rfl) (hD.sub [0, 15, 16, 18] (by decide) rfl) hS (lv_sub hl [0, 1, 2, 3] rfl)
    by_cases e_38 : y_17 = 10
    · refine lv_topi (fun z_39 ez_39 => ?_)
      obtain rfl : z_39 = 10 := ez_39.trans e_38
      refine lv_tableIn (off := 445) (tgt := 478) hx hb dL_law_33 (by decide) (by decide) rfl (by decide) ?_
      exact law_10 C0 hA hfg hbA _ _ _ (hK.sub [] rfl) (hP.sub [0, 15, 16, 18] rfl) (hD.sub [0, 15, 16, 18] (by decide) rfl) hS (lv_sub hl [0, 1, 2, 3] rfl)
    by_cases e_40 : y_17 = 11
    · refine lv_topi (fun z_41 ez_41 => ?_)
      obtain rfl : z_41 = 11 := ez_41.trans e_40
      refine lv_tableIn (off := 458) (tgt := 491) hx hb dL_law_33 (by decide) (by decide) rfl (by decide) ?_
      exact law_11 C0 hA hfg hbA _ _ _ (hK.sub [] rfl) (hP.sub [0, 9, 18, 20] rfl) (hD.sub [0, 9, 18, 20] (by decide) rfl) hS (lv_sub hl [0, 1, 2, 3] rfl)
    by_cases e_42 : y_17 = 12
    · refine lv_topi (fun z_43 ez_43 => ?_)
      obtain rfl : z_43 = 12 := ez_43.trans e_42
      refine lv_tableIn (off := 501) (tgt := 534) hx hb dL_law_33 (by decide) (by decide) rfl (by decide) ?_
      exact law_12 C0 hA hfg hbA _ _ _ (hK.sub [] rfl) (hP.sub [0, 9, 18, 20] rfl) (hD.sub [0, 9, 18, 20] (by decide) rfl) hS (lv_sub hl [0, 1, 2, 3] rfl)
    by_cases e_44 : y_17 = 13
    · refine lv_topi (fun z_45 ez_45 => ?_)
      obtain rfl : z_45 = 13 := ez_45.trans e_44
      refine lv_tableIn (off := 534) (tgt := 567) hx hb dL_law_33 (by decide) (by decide) rfl (by decide) ?_
      exact law_13 C0 hA hfg hbA _ _ _ (hK.sub [] rfl) (hP.sub [0, 15, 18] rfl) (hD.sub [0, 15, 18] (by decide) rfl) hS (lv_sub hl [0, 1, 2, 3] rfl)
    by_cases e_46 : y_17 = 14
    · refine lv_topi (fun z_47 ez_47 => ?_)
      obtain rfl : z_47 = 14 := ez_47.trans e_46
      refine lv_tableIn (off := 547) (tgt := 580) hx hb dL_law_33 (by decide) (by decide) rfl (by decide) ?_
      exact law_14 C0 hA hfg hbA _ _ _ (hK.sub [] rfl) (hP.sub [0, 15, 18] rfl) (hD.sub [0, 15, 18] (by decide) rfl) hS (lv_sub hl [0, 1, 2, 3] rfl)
    by_cases e_48 : y_17 = 15
    · refine lv_topi (fun z_49 ez_49 => ?_)
      obtain rfl : z_49 = 15 := ez_49.trans e_48
      refine lv_tableIn (off := 560) (tgt := 593) hx hb dL_law_33 (by decide) (by decide) rfl (by decide) ?_
      exact law_15 C0 hA hfg hbA _ _ _ (hK.sub [] rfl) (hP.sub [0, 15, 18] rfl) (hD.sub [0, 15, 18] (by decide) rfl) hS (lv_sub hl [0, 1, 2, 3] rfl)
    by_cases e_50 : y_17 = 16
    · refine lv_topi (fun z_51 ez_51 => ?_)
      obtain rfl : z_51 = 16 := ez_51.trans e_50
      refine lv_tableIn (off := 573) (tgt := 606) hx hb dL_law_33 (by decide) (by decide) rfl (by decide) ?_
      exact law_16 C0 hA hfg hbA _ _ _ (hK.sub [] rfl) (hP.sub [0, 15, 17, 18] rfl) (hD.sub [0, 15, 17, 18] (by decide) rfl) hS (lv_sub hl [0, 1, 2, 3] rfl)
    by_cases e_52 : y_17 = 17
    · refine lv_topi (fun z_53 ez_53 => ?_)
      obtain rfl : z_53 = 17 := ez_53.trans e_52
      refine lv_tableIn (off := 586) (tgt := 619) hx hb dL_law_33 (by decide) (by decide) rfl (by decide) ?_
      exact law_17 C0 hA hfg hbA _ _ _ (hK.sub [10] rfl) (hP.sub [0, 15, 17, 18, 23] rfl) (hD.sub [0, 15, 17, 18, 23] (by decide) rfl) hS (lv_sub hl [0, 1, 2, 3] rfl)
    by_cases e_54 : y_17 = 18
    · refine lv_topi (fun z_55 ez_55 => ?_)
      obtain rfl : z_55 = 18 := ez_55.trans e_54
      refine lv_tableIn (off := 609) (tgt := 642) hx hb dL_law_33 (by decide) (by decide) rfl (by decide) ?_
      exact law_18 C0 hA hfg hbA _ _ _ (hK.sub [11] rfl) (hP.sub [0, 15, 17, 18, 24] rfl) (hD.sub [0, 15, 17, 18, 24] (by decide) rfl) hS (lv_sub hl [0, 1, 2, 3] rfl)
    by_cases e_56 : y_17 = 19
    · refine lv_topi (fun z_57 ez_57 => ?_)
      obtain rfl : z_57 = 19 := ez_57.trans e_56
      refine lv_tableIn (off := 632) (tgt := 665) hx hb dL_law_33 (by decide) (by decide) rfl (by decide) ?_
      exact law_19 C0 hA hfg hbA _ _ _ (hK.sub [] rfl) (hP.sub [0, 15, 17, 18] rfl) (hD.sub [0, 15, 17, 18] (by decide) rfl) hS (lv_sub hl [0, 1, 2, 3] rfl)
    by_cases e_58 : y_17 = 20
    · refine lv_topi (fun z_59 ez_59 => ?_)
      obtain rfl : z_59 = 20 := ez_59.trans e_58
      refine lv_tableIn (off := 655) (tgt := 688) hx hb dL_law_33 (by decide) (by decide) rfl (by decide) ?_
      exact law_20 C0 hA hfg hbA _ _ _ (hK.sub [] rfl) (hP.sub [0, 15, 16, 18] rfl) (hD.sub [0, 15, 16, 18] (by decide) rfl) hS (lv_sub hl [0, 1, 2, 3] rfl)
    by_cases e_60 : y_17 = 21
    · refine lv_topi (fun z_61 ez_61 => ?_)
      obtain rfl : z_61 = 21 := ez_61.trans e_60
      refine lv_tableIn (off := 668) (tgt := 701) hx hb dL_law_33 (by decide) (by decide) rfl (by decide) ?_
      exact law_21 C0 hA hfg hbA _ _ _ (hK.sub [] rfl) (hP.sub [0, 15, 16, 18] rfl) (hD.sub [0, 15, 16, 18] (by decide) rfl) hS (lv_sub hl [0, 1, 2, 3] rfl)
    by_cases e_62 : y_17 = 22
    · refine lv_topi (fun z_63 ez_63 => ?_)
      obtain rfl : z_63 = 22 := ez_63.trans e_62
      refine lv_tableIn (off := 701) (tgt := 734) hx hb dL_law_33 (by decide) (by decide) rfl (by decide) ?_
      exact law_22 C0 hA hfg hbA _ _ _ (hK.sub [] rfl) (hP.sub [0, 15, 17, 18] rfl) (hD.sub [0, 15, 17, 18] (by decide) rfl) hS (lv_sub hl [0, 1, 2, 3] rfl)
    by_cases e_64 : y_17 = 23
    · refine lv_topi (fun z_65 ez_65 => ?_)
      obtain rfl : z_65 = 23 := ez_65.trans e_64
      refine lv_tableIn (off := 735) (tgt := 768) hx hb dL_law_33 (by decide) (by decide) rfl (by decide) ?_
      exact law_23 C0 hA hfg hbA _ _ _ (hK.sub [] rfl) (hP.sub [0, 15, 17, 18] rfl) (hD.sub [0, 15, 17, 18] (by decide) rfl) hS (lv_sub hl [0, 1, 2, 3] rfl)
    by_cases e_66 : y_17 = 24
    · refine lv_topi (fun z_67 ez_67 => ?_)
      obtain rfl : z_67 = 24 := ez_67.trans e_66
      refine lv_tableIn (off := 769) (tgt := 802) hx hb dL_law_33 (by decide) (by decide) rfl (by decide) ?_
      exact law_24 C0 hA hfg hbA _ _ _ (hK.sub [] rfl) (hP.sub [0, 9, 15, 17, 18, 20] rfl) (hD.sub [0, 9, 15, 17, 18, 20] (by decide) rfl) hS (lv_sub hl [0, 1, 2, 3] rfl)
    refine lv_tableOut (tgt := 825) hx hb dL_law_33 (by have a0 : y_17.toInt ≠ 0 := fun h => e_18 (Int32.toInt_inj.mp (h.trans (by decide))); have a1 : y_17.toInt ≠ 1 := fun h => e_20 (Int32.toInt_inj.mp (h.trans (by decide))); have a2 : y_17.toInt ≠ 2 := fun h => e_22 (Int32.toInt_inj.mp (h.trans (by decide))); have a3 : y_17.toInt ≠ 3 := fun h => e_24 (Int32.toInt_inj.mp (h.trans (by decide))); have a4 : y_17.toInt ≠ 4 := fun h => e_26 (Int32.toInt_inj.mp (h.trans (by decide))); have a5 : y_17.toInt ≠ 5 := fun h => e_28 (Int32.toInt_inj.mp (h.trans (by decide))); have a6 : y_17.toInt ≠ 6 := fun h => e_30 (Int32.toInt_inj.mp (h.trans (by decide))); have a7 : y_17.toInt ≠ 7 := fun h => e_32 (Int32.toInt_inj.mp (h.trans (by decide))); have a8 : y_17.toInt ≠ 8 := fun h => e_34 (Int32.toInt_inj.mp (h.trans (by decide))); have a9 : y_17.toInt ≠ 9 := fun h => e_36 (Int32.toInt_inj.mp (h.trans (by decide))); have a10 : y_17.toInt ≠ 10 := fun h => e_38 (Int32.toInt_inj.mp (h.trans (by decide))); have a11 : y_17.toInt ≠ 11 := fun h => e_40 (Int32.toInt_inj.mp (h.trans (by decide))); have a12 : y_17.toInt ≠ 12 := fun h => e_42 (Int32.toInt_inj.mp (h.trans (by decide))); have a13 : y_17.toInt ≠ 13 := fun h => e_44 (Int32.toInt_inj.mp (h.trans (by decide))); have a14 : y_17.toInt ≠ 14 := fun h => e_46 (Int32.toInt_inj.mp (h.trans (by decide))); have a15 : y_17.toInt ≠ 15 := fun h => e_48 (Int32.toInt_inj.mp (h.trans (by decide))); have a16 : y_17.toInt ≠ 16 := fun h => e_50 (Int32.toInt_inj.mp (h.trans (by decide))); have a17 : y_17.toInt ≠ 17 := fun h => e_52 (Int32.toInt_inj.mp (h.trans (by decide))); have a18 : y_17.toInt ≠ 18 := fun h => e_54 (Int32.toInt_inj.mp (h.trans (by decide))); have a19 : y_17.toInt ≠ 19 := fun h => e_56 (Int32.toInt_inj.mp (h.trans (by decide))); have a20 : y_17.toInt ≠ 20 := fun h => e_58 (Int32.toInt_inj.mp (h.trans (by decide))); have a21 : y_17.toInt ≠ 21 := fun h => e_60 (Int32.toInt_inj.mp (h.trans (by decide))); have a22 : y_17.toInt ≠ 22 := fun h => e_62 (Int32.toInt_inj.mp (h.trans (by decide))); have a23 : y_17.toInt ≠ 23 := fun h => e_64 (Int32.toInt_inj.mp (h.trans (by decide))); have a24 : y_17.toInt ≠ 24 := fun h => e_66 (Int32.toInt_inj.mp (h.trans (by decide))); omega) (by decide) ?_
    exact law_end C0 hA hfg hbA _ _ _ hS (lv_sub hl [0, 1, 2, 3] rfl)
  · have hlt : L < 6 := by omega
    refine lv_iload_n hx hb dL_law_18 rfl (lv_at hl 0 rfl) ?_
    refine lv_aload_n hx hb dL_law_19 rfl (lv_at hl 3 rfl) ?_
    refine va_slen hx hb hX hbl hbA hS dL_law_20 ?_
    refine lv_bipush (v := 6) hx hb dL_law_21 (by decide) ?_
    refine lv_isub hx hb dL_law_23 ?_
    refine lv_icmp_gt (tgt := 831) hx hb dL_law_24 (by decide) (fun c_ => ?_) (fun c_ => absurd (pk_sneg (a := L) (b := 6) (by omega) hlt) c_)
    refine lv_iconst (v := 1) hx hb dL_law_831 (by decide) ?_
    refine va_forget (fun q hq => hfg _ (hS.2.2 q hq)) ?_
    refine W.widen (k := 600002) (n := 7302231) (Nat.le_of_ble_eq_true rfl) (Nat.le_of_ble_eq_true rfl) ?_
    exact lw_ret hx hb hr hlocks dL_law_832
-- ===== YOUR PART ENDS =====
set_option maxHeartbeats 4000000 in
theorem lw_walk (l : Launch) (b : Addr) (xs : List Int32) : MetFree l x (headSpec (Jvm.Cond.code x code maxLocals ret :: tables_1) room_1) (lw_P b xs) (fun _ _ _ _ _ => True) lw_Q := by
  refine MetFree.of_bodyS (code := code) (maxLocals := maxLocals) (ret := ret) (by decide) ?_ ?_
  · intro args s m h hn
    obtain ⟨meth, c, h1, h2, h3, h4, h5, h6, -, -⟩ := Cond.code_spec hn (atoms_spec (ws := Jvm.Cond.code x code maxLocals ret :: tables_1) h _ List.mem_cons_self)
    exact ⟨meth, c, h1, h2, h3, h4, h5, h6⟩
  · intro p e s m args below meth c s₁ B hml0 hP _
    obtain ⟨rfl, hx, hbd, hgv⟩ := hP
    obtain ⟨scr, harrAt, hlist, hof, hsmall⟩ := hx
    obtain ⟨hcb, hkn, -, -⟩ := State.arrayAt?_spec harrAt
    have hown : s.vm.findClass R_law = some m.cls := findClass_of_methodNamed B.named
    have hts0 : ∀ c ∈ (Jvm.Cond.code x code maxLocals ret :: tables_1), c.before #[Value.ref b] s = true := atoms_spec (ws := Jvm.Cond.code x code maxLocals ret :: tables_1) B.pre
    have hts : ∀ w ∈ lw_tbl, w.before #[Value.ref b] s = true := k2_hts_sels lw_privs (fun w hw => hts0 w (List.mem_cons_of_mem _ hw)) lw_privs_ok
    have hml : c.maxLocals = 4 := B.maxLocals_eq (hts0 _ List.mem_cons_self)
    have X₀ : Stand p l e room_1 s m #[Value.ref b] below meth c s₁ [] 0 0 := Stand.of_body B
    have hh0 : s₁.heap = s.heap := by rw [B.state]; rfl
    have hsz : scr.slots.size = xs.length := by rw [← Array.length_toList, hlist, List.length_map]
    have hval : ∀ j : Nat, j < xs.length → scr.slots[j]? = some (.int (xs.getD j 0)) := fun j hj => by
      rw [← Array.getElem?_toList, hlist]
      simp [hj]
    have hbl : b < s.heap.size := (Array.getElem?_eq_some_iff.mp hcb).1
    have hX : va_X b xs.length (fun j => xs.getD j 0) s s.heap := ⟨scr, hcb, hof, hkn, hsz, hval⟩
    have K : W p l e room_1 s m #[Value.ref b] below meth c s₁.heap [] 0 0 (lw_Z below #[Value.ref b] s) (entryFrame m ([Value.ref b] : List Value).toArray 4) := by
      rw [hh0]
      exact whole_start l hbd ⟨B.exec, B.bytes, B.returns, hml, hown, hts, hX, hbl, B.notSynchronized, hgv⟩
    obtain ⟨t, a1, o, b1, b2, b3⟩ := K s₁ rfl X₀
    exact ⟨t, o, a1, b1, b2, b3⟩
theorem lw_pre_spec {args : Array Value} {s : State} (h : (Jvm.Cond.and given_1 narrow_1).before args s = true) (hr : rest_1_c.before args s = true) : ∃ (b : Addr) (xs : List Int32), lw_P b xs args s := by
  have hs := flat_of_before _ h
  have hq := flat_of_before _ hr
  have hc : (Cond.count 1).before args s = true := hs _ (by decide +kernel)
  have harr : (Cond.arrayOf (.arg 0) .int).before args s = true := hs _ (by decide +kernel)
  have hle : (Cond.le (.length (.arg 0)) (.int 6)).before args s = true := hs _ (by decide +kernel)
  have hlen : (Cond.isInt (.length (.arg 0))).before args s = true := hq _ (by decide +kernel)
  have hall : (Cond.all (.arg 0) (.isInt (.elem (.arg 0) (.index 0)))).before args s = true := hq _ (by decide +kernel)
  obtain ⟨b, xs, hb, hx⟩ := State.ints_of_pre rfl harr hlen hall
  have hsm : xs.length < 2 ^ 31 := hx.choose_spec.2.2.2
  have hev : (Term.length (.arg 0)).eval args s none [] s = some (.int xs.length.toInt32) := hx.length_eval hb
  have hv := Cond.le_ints hev (show (Term.int 6).eval args s none [] s = some (.int 6) from rfl)
  have hd : xs.length.toInt32 ≤ 6 := by
    simpa [Cond.before, Cond.holds, hv] using hle
  have hN : xs.length ≤ 6 := (Int32.ofNat_le_ofNat hsm (by decide)).mp (show Int32.ofNat xs.length ≤ Int32.ofNat 6 from hd)
  exact ⟨b, xs, Cond.one_arg hc (show args[0]? = some (.ref b) from hb), hx, hN, h⟩
theorem lw_comes (l : Launch) : Comes l x (Jvm.Cond.code x code maxLocals ret :: tables_1) room_1 (fun tb e args s => Calls_1 tb e args s ∧ rest_1 tb e args s ∧ Pre_1 tb e args s)
    (fun _ _ args s o t => lw_Q args s o t) := by
  intro p e ha hc hk s m args below hf hfit hheap happ hpre
  obtain ⟨b, xs, hP⟩ := lw_pre_spec hpre.2.2 hpre.2.1
  obtain ⟨k, o, h1, h2, h3, hQ⟩ := lw_walk l b xs p e ha hc hk s m args below hf ((Spec.applies_iff_loose hf).mp happ).1 hP trivial
  exact ⟨k, o, h1, h2, h3, hQ⟩
theorem lw_frame {s t : State} {o : Outcome} {args : Array Value} (h : Framed s o t [] 600002 7302231) :
    Framed s o t (fieldLocs frame_1_writes args s ++ arrayLocs frame_1_arrays args s ++ staticLocs frame_1_statics s) 600002 7302231 := h
theorem lw_limb (L : Cond) (hL : ∀ (args : Array Value) (s t : State), L.after args s (.returned (some (.int 1))) t = true) :
    ArmFor flags0 classFile x code maxLocals ret World_1 tables_1 room_1 Calls_1 rest_1 Pre_1
      (fun tb e a s o t => postC L tb e a s o t ∧ Framed s o t (fieldLocs frame_1_writes a s ++ arrayLocs frame_1_arrays a s ++ staticLocs frame_1_statics s) 600002 7302231) := by
  intro l _ _ _ p e ha hc hk s m args below hf hfit hheap happ hpre
  obtain ⟨k, o, h1, h2, h3, rfl, hF⟩ := lw_comes l p e ha hc hk s m args below hf hfit hheap happ hpre
  exact ⟨k, _, h1, h2, h3, hL args s _, lw_frame hF⟩
theorem i_vc : Claimed_1_1 ∧ Claimed_1_2 := ⟨lw_limb limb_1_1 (fun args s t => by simp [limb_1_1, Cond.after, Cond.holds, Cond.value]), lw_limb limb_1_2 (fun args s t => Cond.after_iff.mpr (by
  first | (rw [show limb_1_2 = Cond.eq .result (.int 1) from rfl, Cond.eq_ints (x := 1) (y := 1) rfl rfl]; simp; done) | (simp [limb_1_2, Cond.value, Term.eval]; done)))⟩
