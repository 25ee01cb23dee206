/-- where a follower is over; the place in the row of ticks; the note that it has; what it sings -/
def oOv (L c : Int) : Int := c / 180 + (if c % 3 = 1 then 2 * L else if c % 3 = 2 then (L + 1) / 2 else L)
def oIx (L c t : Int) : Int := if c / 3 % 2 = 1 then L - 1 - (if c % 3 = 1 then (t - c / 180) / 2 else if c % 3 = 2 then 2 * (t - c / 180) else t - c / 180) else (if c % 3 = 1 then (t - c / 180) / 2 else if c % 3 = 2 then 2 * (t - c / 180) else t - c / 180)
def oNA (s : oS) (c t : Int) : Int := if t < c / 180 ∨ oOv (s.1 71 42).toInt c ≤ t then -1 else (s.1 101 (oIx (s.1 71 42).toInt c t).toNat).toInt
def oSB (s : oS) (c n : Int) : Int32 := if n = -1 then -1000000000 else if s.1 99 n.toNat = -1 then -1000000000 else (if c / 6 % 2 = 1 then 2 * s.1 71 43 - s.1 99 n.toNat else s.1 99 n.toNat) + Int32.ofInt (c / 12 % 15 - 7)
