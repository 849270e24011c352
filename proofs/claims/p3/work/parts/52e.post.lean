theorem recS : ∀ N, RecS N := by
  intro N
  induction N with
  | zero =>
    refine ⟨?_, ?_⟩
    · intro l dC dI L kd tys f0 sz hWT adK adV a0_ ma0_ ka0_ q0_ mq0_ kq0_ V_ δ_ U_ o_ bo_ op_ bop_ t_ bt_ me_ bme_ br_ bbr_ hV hSI hU ho hm27 hm18 hnn hns hn0 K_ hK_ hN hfx
      exfalso
      unfold bd at bbr_
      omega
    · intro l dC dI L kd tys f0 sz hWT adK adV a0_ ma0_ ka0_ q0_ mq0_ kq0_ V_ δ_ U_ o_ bo_ op_ bop_ t_ bt_ me_ bme_ br_ bbr_ hV hSI hU ho hm27 hm18 hnn hns hn0 K_ hK_ hN hfx
      exfalso
      unfold bd at bbr_
      omega
  | succ n ih => exact ⟨r_X14_readBlock n ih, r_X14_readStatement n ih⟩
