theorem recGo : ∀ N, RecG N := by
  intro N
  induction N with
  | zero =>
    intro l dC dI L kd tys f0 sz hWT adK adV a0_ ma0_ ka0_ x1_ bx1_ x2_ bx2_ q0_ mq0_ kq0_ r_ br_ k_ bk_ V_ δ_ hW RW_ hV hWW hmo ho htk hrw hall hcl hrm hN hfx
    exfalso
    unfold bd at br_
    omega
  | succ n ih => exact r_X14_goOver n ih
