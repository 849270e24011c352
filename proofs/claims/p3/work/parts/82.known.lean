theorem law_known {args : Array Value} {s : State} (hts : ∀ w ∈ lw_tbl, w.before args s = true) : ∃ (dC : Nat → ClassId) (dI : Nat → Nat → Nat), ∀ (k : Nat) (q : vw_C), vwCl[k]? = some q → u_Kn s q.1 q.2.1 q.2.2 (dC k) (dI k) := by
  obtain ⟨c0, i0, h0⟩ := u_known (C := RX0) (T := TX0) (N := 14) (n := 14) hts (mcL_ inX0) (hts _ (gt_ _ t_368))
  obtain ⟨c1, i1, h1⟩ := u_known (C := RX1) (T := TX1) (N := 18) (n := 18) hts (mcL_ inX1) (hts _ (gt_ _ t_730))
  obtain ⟨c2, i2, h2⟩ := u_known (C := RX2) (T := TX2) (N := 16) (n := 16) hts (mcL_ inX2) (hts _ (gt_ _ t_216))
  obtain ⟨c3, i3, h3⟩ := u_known (C := RX3) (T := TX3) (N := 6) (n := 6) hts (mcL_ inX3) (hts _ (gt_ _ t_794))
  obtain ⟨c4, i4, h4⟩ := u_known (C := RX4) (T := TX4) (N := 17) (n := 17) hts (mcL_ inX4) (hts _ (gt_ _ t_830))
  obtain ⟨c5, i5, h5⟩ := u_known (C := RX5) (T := TX5) (N := 9) (n := 9) hts (mcL_ inX5) (hts _ (gt_ _ t_323))
  obtain ⟨c6, i6, h6⟩ := u_known (C := RX6) (T := TX6) (N := 13) (n := 13) hts (mcL_ inX6) (hts _ (gt_ _ t_550))
  obtain ⟨c7, i7, h7⟩ := u_known (C := RX7) (T := TX7) (N := 19) (n := 19) hts (mcL_ inX7) (hts _ (gt_ _ t_466))
  obtain ⟨c8, i8, h8⟩ := u_known (C := RX8) (T := TX8) (N := 10) (n := 10) hts (mcL_ inX8) (hts _ (gt_ _ t_222))
  obtain ⟨c9, i9, h9⟩ := u_known (C := RX9) (T := TX9) (N := 13) (n := 13) hts (mcL_ inX9) (hts _ (gt_ _ t_473))
  obtain ⟨c10, i10, h10⟩ := u_known (C := RX10) (T := TX10) (N := 10) (n := 10) hts (mcL_ inX10) (hts _ (gt_ _ t_724))
  obtain ⟨c11, i11, h11⟩ := u_known (C := RX11) (T := TX11) (N := 8) (n := 8) hts (mcL_ inX11) (hts _ (gt_ _ t_208))
  obtain ⟨c12, i12, h12⟩ := u_known (C := RX12) (T := TX12) (N := 60) (n := 60) hts (mcL_ inX12) (hts _ (gt_ _ t_1901))
  obtain ⟨c13, i13, h13⟩ := u_known (C := RX13) (T := TX13) (N := 6) (n := 6) hts (mcL_ inX13) (hts _ (gt_ _ t_1837))
  obtain ⟨c14, i14, h14⟩ := u_known (C := RX14) (T := TX14) (N := 67) (n := 67) hts (mcL_ inX14) (hts _ (gt_ _ t_1831))
  refine ⟨fun k => match k with | 0 => c0 | 1 => c1 | 2 => c2 | 3 => c3 | 4 => c4 | 5 => c5 | 6 => c6 | 7 => c7 | 8 => c8 | 9 => c9 | 10 => c10 | 11 => c11 | 12 => c12 | 13 => c13 | _ => c14, fun k => match k with | 0 => i0 | 1 => i1 | 2 => i2 | 3 => i3 | 4 => i4 | 5 => i5 | 6 => i6 | 7 => i7 | 8 => i8 | 9 => i9 | 10 => i10 | 11 => i11 | 12 => i12 | 13 => i13 | _ => i14, ?_⟩
  intro k q hq
  match k, hq with
  | 0, hq => cases hq; exact h0
  | 1, hq => cases hq; exact h1
  | 2, hq => cases hq; exact h2
  | 3, hq => cases hq; exact h3
  | 4, hq => cases hq; exact h4
  | 5, hq => cases hq; exact h5
  | 6, hq => cases hq; exact h6
  | 7, hq => cases hq; exact h7
  | 8, hq => cases hq; exact h8
  | 9, hq => cases hq; exact h9
  | 10, hq => cases hq; exact h10
  | 11, hq => cases hq; exact h11
  | 12, hq => cases hq; exact h12
  | 13, hq => cases hq; exact h13
  | 14, hq => cases hq; exact h14
  | k + 15, hq => simp [vwCl] at hq
