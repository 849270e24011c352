theorem recR : ∀ N, RecR N := by
  intro N
  induction N with
  | zero =>
    refine ⟨?_, ?_, ?_, ?_, ?_, ?_, ?_⟩
    · intro l dC dI L kd tys f0 sz hWT adK adV a0_ ma0_ ka0_ x1_ bx1_ q0_ mq0_ kq0_ V_ o_ bo_ op_ bop_ t_ bt_ hV hwf ho hnn K_ hK_ hN hfx
      exfalso
      unfold bd at bop_ bx1_
      omega
    · intro l dC dI L kd tys f0 sz hWT adK adV a0_ ma0_ ka0_ q0_ mq0_ kq0_ V_ o_ bo_ op_ bop_ t_ bt_ hV hwf ho hnn K_ hK_ hN hfx
      exfalso
      unfold bd at bop_
      omega
    · intro l dC dI L kd tys f0 sz hWT adK adV a0_ ma0_ ka0_ q0_ mq0_ kq0_ V_ o_ bo_ op_ bop_ t_ bt_ hV hwf ho hnn K_ hK_ hN hfx
      exfalso
      unfold bd at bop_
      omega
    · intro l dC dI L kd tys f0 sz hWT adK adV a0_ ma0_ ka0_ x1_ bx1_ q0_ mq0_ kq0_ V_ o_ bo_ op_ bop_ t_ bt_ hV hwf ho hnn hm_ hhm K_ hK_ hN hfx
      exfalso
      unfold bd at bop_
      omega
    · intro l dC dI L kd tys f0 sz hWT adK adV a0_ ma0_ ka0_ x1_ bx1_ x2_ bx2_ q0_ mq0_ kq0_ V_ o_ bo_ op_ bop_ t_ bt_ so_ bso_ hV hwf ho hnn hm_ hhm K_ hK_ hN hfx
      exfalso
      unfold bd at bop_
      omega
    · intro l dC dI L kd tys f0 sz hWT adK adV a0_ ma0_ ka0_ x1_ x2_ x3_ bx3_ q0_ mq0_ kq0_ V_ o_ bo_ op_ bop_ t_ bt_ hV hwf ho hnn hm_ hhm hv K_ hK_ hN hfx
      exfalso
      unfold bd at bop_
      omega
    · intro l dC dI L kd tys f0 sz hWT adK adV a0_ ma0_ ka0_ x1_ x2_ bx2_ x3_ x4_ x5_ x6_ bx6_ q0_ mq0_ kq0_ V_ o_ bo_ op_ bop_ t_ bt_ hV hwf ho hnn hm_ hhm hop hf3 hf9 K_ hK_ hN hfx
      exfalso
      unfold bd at bop_
      omega
  | succ n ih => exact ⟨r_X14_readFrom n ih, r_X14_readUnary n ih, r_X14_readOne n ih, r_X14_readAbove n ih, r_X14_readName n ih, r_X14_readPlace n ih, r_X14_readCall n ih⟩
