theorem recAll : ∀ N, RecN N := by
  intro N
  induction N with
  | zero =>
    refine ⟨?_, ?_, ?_, ?_, ?_, ?_, ?_⟩
    · intro l dC dI L kd tys f0 sz hWT a0_ ma0_ ka0_ x1_ q0_ mq0_ kq0_ V_ δ_ hW w_ bw s_ bs Z_ O_ hV hR d_ hcl h_ hE hN hfx
      exfalso
      have h1_ := EV.hi hW hE
      unfold bd at bw
      omega
    · intro l dC dI L kd tys f0 sz hWT a0_ ma0_ ka0_ x1_ x2_ q0_ mq0_ kq0_ V_ δ_ hW w_ bw s_ bs Z_ O_ hV hR d_ hcl h_ hE ho hN hfx
      exfalso
      have h1_ := EV.hi hW hE
      unfold bd at bw
      omega
    · intro l dC dI L kd tys f0 sz hWT a0_ ma0_ ka0_ x1_ x2_ q0_ mq0_ kq0_ V_ δ_ hW w_ bw s_ bs Z_ O_ hV hR d_ hcl h_ hE hC hN hfx
      exfalso
      have h1_ := EV.hi hW hE
      unfold bd at bw
      omega
    · intro l dC dI L kd tys f0 sz hWT a0_ ma0_ ka0_ x1_ x2_ q0_ mq0_ kq0_ V_ δ_ hW w_ bw s_ bs Z_ O_ hV hR bx1_ bx2_ hm hc hN hfx
      exfalso
      unfold bd at bw
      omega
    · intro l dC dI L kd tys f0 sz hWT a0_ ma0_ ka0_ x1_ q0_ mq0_ kq0_ V_ δ_ hW w_ bw s_ bs Z_ O_ hV hR d_ hcl b_ m_ hS hd hb9 hN hfx
      exfalso
      unfold bd at bw
      omega
    · intro l dC dI L kd tys f0 sz hWT a0_ ma0_ ka0_ x1_ q0_ mq0_ kq0_ V_ δ_ hW w_ bw s_ bs Z_ O_ hV hR d_ hcl b_ m_ hS hN hfx
      exfalso
      have h1_ := SS.lev hW hS
      unfold bd at bw
      omega
    · intro l dC dI L kd tys f0 sz hWT a0_ ma0_ ka0_ x1_ q0_ mq0_ kq0_ V_ δ_ hW w_ bw s_ bs Z_ O_ hV hR d_ hcl b_ m_ hS ho hN hfx
      exfalso
      have h1_ := SS.lev hW hS
      unfold bd at bw
      omega
  | succ n ih => exact ⟨r_X14_eval n ih, r_X14_place n ih, r_X14_callOf n ih, r_X14_invoke n ih, r_X14_runBlock n ih, r_X14_runStatement n ih, r_X14_assign n ih⟩
