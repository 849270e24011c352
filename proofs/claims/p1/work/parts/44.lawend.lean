set_option maxHeartbeats 4000000 in
set_option maxRecDepth 100000 in
theorem law_end {p : Program} {l : Launch} {e : Env} {s : State} {m : MethodId} {below : List Frame} {meth : Method} {c : Code} {b : Nat} {xs : Nat → Int32} {A : Nat → Prop} (C0 : lw_At p s m meth c b 6 xs) (hA : ∀ q : Nat, s.heap.size ≤ q → A q) (hfg : ∀ q : Nat, A q → s.heap.size ≤ q) (hbA : ¬ A b) {hx0 hm : Nat} (H : Heap) (locs : List Loc) (ls : Array Slot) : va_S A s.heap H locs → lv_has ls 4 [(3, .int 0), (2, .ref hm), (1, .ref hx0), (0, .ref b)] → W p l e room_1 s m #[Value.ref b] below meth c H locs 919 128831 (lw_Z below #[Value.ref b] s) (F0 m 825 ls []) := by
  obtain ⟨hx, hb, hr, hml, hown, hts, hX, hbl, hlocks, hgv⟩ := id C0
  intro hS hl
  refine lv_iinc (v := 6) (lv' := [(3, .int 6), (2, .ref hm), (1, .ref hx0), (0, .ref b)]) hx hb dL_law_825 hl (k := 0) rfl (by decide) (by decide) rfl (fun ls hl => ?_)
  refine lv_goto (tgt := 18) hx hb dL_law_828 (by decide) ?_
  refine lv_iload_n hx hb dL_law_18 rfl (lv_at hl 0 rfl) ?_
  refine lv_aload_n hx hb dL_law_19 rfl (lv_at hl 3 rfl) ?_
  refine va_slen hx hb hX hbl hbA hS dL_law_20 ?_
  refine lv_topi (fun y_1 ey_1 => ?_)
  obtain rfl : y_1 = 6 := ey_1.trans (by decide)
  refine lv_bipush (v := 6) hx hb dL_law_21 (by decide) ?_
  refine lv_isub hx hb dL_law_23 ?_
  refine lv_topi (fun y_2 ey_2 => ?_)
  obtain rfl : y_2 = 0 := ey_2.trans (by decide)
  refine lv_icmp_gt (tgt := 831) hx hb dL_law_24 (by decide) (fun c_ => ?_) (fun c_ => absurd (by decide) c_)
  refine lv_iconst (v := 1) hx hb dL_law_831 (by decide) ?_
  refine va_forget (fun q hq => hfg _ (hS.2.2 q hq)) ?_
  refine W.widen (k := 600002) (n := 7302231) (Nat.le_of_ble_eq_true rfl) (Nat.le_of_ble_eq_true rfl) ?_
  exact lw_ret hx hb hr hlocks dL_law_832
