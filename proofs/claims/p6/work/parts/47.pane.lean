/-- the row of a pane as it shows it, put into q at a place -/
def vRow (w H : Int) (s : zSt) (of row at_ : Int) (M : Nat) (q : Nat → Int) : Nat → Int := if row < min of (s.2.2.2.1 4) then hgive w (s.2.2.2.1 3) (s.2.2.2.1 4) (s.2.2.2.1 4 - min of (s.2.2.2.1 4) + row) (s.1 3) at_ M s.2.2.2.2.2 s.2.2.2.2.1 q else ggive w H (row - min of (s.2.2.2.1 4)) (s.1 3) at_ M (zG s) q
def pLook (cm of sz up : Int) : Int := if cm = 0 then of else min of sz + max (-(min of sz)) (min (sz - min of sz) up)
