def lenP : List Nat := [65, 47, 18, 112]
def bytP : List (List Int32) := [[99, 108, 97, 115, 115, 32, 97, 98, 111, 118, 101, 32, 105, 110, 116, 32, 107, 101, 112, 116, 32, 109, 101, 109, 98, 101, 114, 32, 105, 110, 32, 110, 101, 101, 100, 115, 32, 103, 105, 118, 101, 115, 32, 116, 104, 114, 111, 119, 115, 32, 119, 104, 101, 110, 32, 111, 110, 108, 121, 32, 112, 117, 114, 101, 32], [108, 101, 116, 32, 105, 102, 32, 101, 108, 115, 101, 32, 119, 104, 105, 108, 101, 32, 114, 101, 116, 117, 114, 110, 32, 116, 104, 114, 111, 119, 32, 111, 108, 100, 32, 114, 101, 115, 117, 108, 116, 32, 115, 105, 122, 101, 32], [40, 41, 123, 125, 91, 93, 44, 59, 46, 61, 60, 62, 43, 45, 42, 47, 37, 33], [99, 108, 97, 115, 115, 32, 97, 98, 111, 118, 101, 32, 105, 110, 116, 32, 107, 101, 112, 116, 32, 109, 101, 109, 98, 101, 114, 32, 105, 110, 32, 110, 101, 101, 100, 115, 32, 103, 105, 118, 101, 115, 32, 116, 104, 114, 111, 119, 115, 32, 119, 104, 101, 110, 32, 111, 110, 108, 121, 32, 112, 117, 114, 101, 32, 108, 101, 116, 32, 105, 102, 32, 101, 108, 115, 101, 32, 119, 104, 105, 108, 101, 32, 114, 101, 116, 117, 114, 110, 32, 116, 104, 114, 111, 119, 32, 111, 108, 100, 32, 114, 101, 115, 117, 108, 116, 32, 115, 105, 122, 101, 32]]
/-- what stands beside the pool: two texts of the program (the signs, the words), statics of the JDK -/
def ap_ (adK adV : Nat → Nat) (A : Nat → Prop) (U : State) (H : Heap) : Prop :=
  (vk_R RX8 93 "(){}[],;.=<>+-*/%!" (adK 2) U ∧ vk_R RX14 109 "class above int kept member in needs gives throws when only pure let if else while return throw old result size " (adK 3) U ∧ va_Nw (.castable RX13 RX13) U) ∧ vk_S 4 lenP bytP adK adV A U H ∧ va_Z RJ0 "COMPACT_STRINGS" "Z" (.int 1) A U H ∧ va_Zq RJ3 "SIOOBE_FORMATTER" "Ljava/util/function/BiFunction;" A U H
theorem ap_.warm {adK adV : Nat → Nat} {A : Nat → Prop} {s U : State} {H : Heap} (hW : s.WarmedH U.vm) (h : ap_ adK adV A s H) : ap_ adK adV A U H := by
  obtain ⟨⟨b1, b2, b3⟩, c1, d1, d2⟩ := h
  exact ⟨⟨vk_R.warm hW b1, vk_R.warm hW b2, va_Nw.warmC hW b3⟩, vk_S.moved hW.alike c1, va_Z.moved hW.alike d1, va_Zq.moved hW.alike d2⟩
theorem ap_.same {adK adV : Nat → Nat} {A : Nat → Prop} {u U : State} {H : Heap} (hv : U.vm = u.vm) (h : ap_ adK adV A u H) : ap_ adK adV A U H := by
  obtain ⟨⟨b1, b2, b3⟩, c1, d1, d2⟩ := h
  have hl : u.vm.Alike U.vm := by rw [hv]; exact Vm.Alike.refl u.vm
  exact ⟨⟨vk_R.same hv b1, vk_R.same hv b2, va_Nw.same rfl hv.symm b3⟩, vk_S.moved hl c1, va_Z.moved hl d1, va_Zq.moved hl d2⟩
theorem ap_.kept {adK adV : Nat → Nat} {A : Nat → Prop} {U : State} {H H1 : Heap} (h : ap_ adK adV A U H) (hq : ∀ a : Nat, a < H.size → ¬ A a → H1[a]? = H[a]?) : ap_ adK adV A U H1 := by
  obtain ⟨b1, c1, d1, d2⟩ := h
  exact ⟨b1, c1.kept hq, d1.kept hq, d2.kept hq⟩
theorem ap_.narrow {adK adV : Nat → Nat} {A B : Nat → Prop} {U : State} {H : Heap} (h : ap_ adK adV A U H) (hAB : ∀ q, B q → A q) : ap_ adK adV B U H := by
  obtain ⟨b1, c1, d1, d2⟩ := h
  exact ⟨b1, c1.narrow hAB, d1.narrow hAB, d2.narrow hAB⟩
def P3A (D : va_G) (L : List Nat) (tys : List (ClassId × FieldType)) (f : Nat → va_E) (sz : Nat) (adK adV : Nat → Nat) (U : State) : Prop := P3 D L tys f sz U ∧ ap_ adK adV (pA L sz) U U.heap
section POOLA
variable {p : Program} {l : Launch} {e : Env} {R : Room} {s : State} {m : MethodId} {args : Array Value} {below : List Frame} {meth : Method} {c : Code} {H : Heap} {locs : List Loc} {cells slots : Nat} {Q : State → Prop} {D : va_G} {tys : List (ClassId × FieldType)} {L : List Nat} {kd : Nat → Nat} {f0 f : Nat → va_E} {md : List (Nat × Nat)} {ma : List Nat} {fx : List Fct} {a : Nat} {adK adV : Nat → Nat}
theorem p3A_blind {av : List Value} {sz : Nat} : FrameBlind (va_Pc av (P3A D L tys f sz adK adV)) := fun a U g mk q => by
  obtain ⟨q0, ⟨q1, qP, qK, qD⟩, qM⟩ := q
  exact ⟨q0, ⟨q1, qP, va_K.moved (u := U) (U := U.calling g mk a) (Vm.Alike.refl U.vm) qK, qD⟩, ap_.same (U := U.calling g mk a) rfl qM⟩
theorem p3A_at (g : G3 D L kd tys s f0 md ma f H locs fx) (hK : va_K D vwCl tys s) (hAm : ap_ adK adV (pA L s.heap.size) s s.heap) {U : State} (hU : U.heap = H) (hW : s.WarmedH U.vm) : P3A D L tys f H.size adK adV U := ⟨p3_at g hK hU hW, by
  rw [hU]
  exact ((hAm.kept g.2.2.1.2.1).narrow (fun q h => h.elim Or.inl (fun h => Or.inr (Nat.le_trans g.2.2.1.1 h)))).warm hW⟩
theorem pre3VA (g : G3 D L kd tys s f0 md ma f H locs fx) (hK : va_K D vwCl tys s) (hAm : ap_ adK adV (pA L s.heap.size) s s.heap) (ha : a ∈ L) {ci : Nat} (hk : kd a = ci) (hci : ci < 100) {q : vw_C} (hc : vwCl[ci]? = some q) {As : List Value} : PreV s H q.1 a (va_Pc (.ref a :: As) (P3A D L tys f H.size adK adV)) As := by
  obtain ⟨q0, fs, h1, -⟩ := g_open g ha hk hci
  exact ⟨p3A_blind, va_recv hK g.1 hc h1, fun U hU hW => ⟨rfl, p3A_at g hK hAm hU hW⟩⟩
theorem pre3SA (g : G3 D L kd tys s f0 md ma f H locs fx) (hK : va_K D vwCl tys s) (hAm : ap_ adK adV (pA L s.heap.size) s s.heap) {As : List Value} : PreS s H (va_Pc As (P3A D L tys f H.size adK adV)) As := ⟨p3A_blind, fun U hU hW => ⟨rfl, p3A_at g hK hAm hU hW⟩⟩
theorem pre3TA (g : G3 D L kd tys s f0 md ma f H locs fx) (hK : va_K D vwCl tys s) (hAm : ap_ adK adV (pA L s.heap.size) s s.heap) (i : Nat) (hi : i < 4) {As : List Value} : PreV s H "java/lang/String" (adK i) (va_Pc (.ref (adK i) :: As) (P3A D L tys f H.size adK adV)) As :=
  ⟨p3A_blind, vk_recv hAm.2.1 hi g.2.2.1, fun U hU hW => ⟨rfl, p3A_at g hK hAm hU hW⟩⟩
theorem zqP {C n d : String} {A : Nat → Prop} {U : State} {H : Heap} (h : va_Zq C n d A U H) : va_Z C n d .null A U H ∨ ∃ t : Nat, va_Z C n d (.ref t) A U H := h
end POOLA
