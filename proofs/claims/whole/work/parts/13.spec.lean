/-! WHAT IS SAID, over rows of numbers: a room is a row r of 55 numbers as the reference lays it; all in the machine's ints -/
abbrev tn (x : Int32) : Nat := x.toNatClampNeg
def s_in (v n : Int32) : Int32 := if v < 0 then 0 else if v < n then 1 else 0
def s_wi (v least most : Int32) : Int32 := if v < least then -4 else if most < v then -6 else 0
def s_rm (m round : Int32) : Int32 := m - m / round * round
def s_nr (m round : Int32) : Int32 := if s_rm m round < round - s_rm m round then s_rm m round else round - s_rm m round
def s_pl (round deep m tired : Int32) : Int32 := s_nr m round * deep * 2 / round + tired
/-- how deep, from kind, round, deep, at a minute, tired, on a day -/
def s_dep (kind round deep m tired day : Int32) : Int32 :=
  if kind = 1 then s_pl round deep m tired / 2
  else if kind = 2 then s_pl round deep m tired + 4
  else if kind = 3 then s_pl round deep m tired + 4 + (300 - m) / 30
  else if kind = 4 then (if s_rm m 10 = 0 then 0 else s_pl round deep m tired / 2)
  else if kind = 5 then (if 4 < day then s_pl round deep m tired else s_pl round deep m tired / 2)
  else s_pl round deep m tired
def s_D (r : Nat → Int32) (i m : Int32) : Int32 := s_dep (r (7 + 4 * tn i)) (r (7 + 4 * tn i + 1)) (r (7 + 4 * tn i + 2)) m (r 5) (r 6)
/-- whether a clock of a kind, so loud, wakes at a minute him whose sleep is so deep -/
def s_wk (kind loud m d : Int32) : Int32 := if loud + (if kind = 2 then 8 else if kind = 3 then m / 10 else 0) < d then 0 else 1
def s_W (r : Nat → Int32) (c i m : Int32) : Int32 := s_wk (r (23 + 5 * tn c)) (r (23 + 5 * tn c + 4)) m (s_D r i m)
def s_mp (kind k : Int32) : Int32 := if kind = 1 then (if k = 0 then 1 else 0) else if kind = 2 then (if k = 0 then 1 else 0) else if kind = 5 then 0 else 1
def s_lt (kind every k : Int32) : Int32 := if kind = 3 then 1 else if kind = 4 then (if k + 1 < every then every - k else 1) else every
/-- LONG of the first n tasks -/
def s_tl (r : Nat → Int32) : Nat → Int32
  | 0 => 0
  | n + 1 => s_tl r n + r (43 + 2 * n)
def s_sp (r : Nat → Int32) (m : Int32) : Int32 := r 3 - m - s_tl r (tn (r 2))
def s_sb (r : Nat → Int32) (k : Nat) (bits : Int32) : Nat → Int32
  | 0 => 0
  | t + 1 => s_sb r k bits t + (if (bits >>> (nI t &&& 31)) &&& 1 = 0 then 0 else r (43 + 2 * t + k))
/-- of the sets 1 .. k that which is worth most within the time: its worth, its bits -/
def s_dl (r : Nat → Int32) (tm : Int32) : Nat → Int32 × Int32
  | 0 => (0, 0)
  | k + 1 => if tm - s_sb r 0 (nI (k + 1)) (tn (r 2)) < 0 then s_dl r tm k else if (s_dl r tm k).1 < s_sb r 1 (nI (k + 1)) (tn (r 2)) then (s_sb r 1 (nI (k + 1)) (tn (r 2)), nI (k + 1)) else s_dl r tm k
def s_do (r : Nat → Int32) (m : Int32) : Int32 × Int32 := s_dl r (r 3 - m) (2 ^ tn (r 2) - 1)
/-- which clock rings next -/
def s_f1 (g : Nat → Int32) : Nat := if g 1 < g 0 then 1 else 0
def s_f2 (g : Nat → Int32) : Nat := if g 2 < g (s_f1 g) then 2 else s_f1 g
def s_f3 (g : Nat → Int32) : Nat := if g 3 < g (s_f2 g) then 3 else s_f2 g
/-- a morning: fuel, when each rings next, presses of each, presses, slept through, heard; the answer: up, presses, slept through, heard -/
def s_mo (r : Nat → Int32) (i by_ : Int32) : Nat → (Nat → Int32) → (Nat → Int32) → Int32 → Int32 → Int32 → Int32 × Int32 × Int32 × Int32
  | 0, _, _, pr, sl, he => (300, pr, sl, he)
  | n + 1, g, p, pr, sl, he =>
    if g (s_f3 g) < 300 then
      (if s_W r (nI (s_f3 g)) i (g (s_f3 g)) = 0 then
        s_mo r i by_ n (upd g (s_f3 g) (g (s_f3 g) + s_lt (r (23 + 5 * s_f3 g)) (r (23 + 5 * s_f3 g + 3)) (p (s_f3 g)))) p pr (sl + 1) (he + (if by_ < 0 then 0 else s_W r (nI (s_f3 g)) by_ (g (s_f3 g))))
      else if s_mp (r (23 + 5 * s_f3 g)) (p (s_f3 g)) = 0 then (g (s_f3 g), pr, sl, he + (if by_ < 0 then 0 else s_W r (nI (s_f3 g)) by_ (g (s_f3 g))))
      else if r 4 < s_sp r (g (s_f3 g)) + s_D r i (g (s_f3 g)) + r (7 + 4 * tn i + 3) then
        s_mo r i by_ n (upd g (s_f3 g) (g (s_f3 g) + s_lt (r (23 + 5 * s_f3 g)) (r (23 + 5 * s_f3 g + 3)) (p (s_f3 g)))) (upd p (s_f3 g) (p (s_f3 g) + 1)) (pr + 1) sl (he + (if by_ < 0 then 0 else s_W r (nI (s_f3 g)) by_ (g (s_f3 g))))
      else (g (s_f3 g), pr, sl, he + (if by_ < 0 then 0 else s_W r (nI (s_f3 g)) by_ (g (s_f3 g)))))
    else (300, pr, sl, he)
/-- when each of his clocks rings first, one aside -/
def s_g0 (r : Nat → Int32) (i but : Int32) (c : Nat) : Int32 := if nI c < r 1 then (if r (23 + 5 * c + 1) = i then (if nI c = but then 300 else r (23 + 5 * c + 2)) else 300) else 300
def s_M (r : Nat → Int32) (i but by_ he : Int32) : Int32 × Int32 × Int32 × Int32 := s_mo r i by_ 1201 (s_g0 r i but) (fun _ => 0) 0 0 he
def s_m (r : Nat → Int32) (i : Int32) : Int32 × Int32 × Int32 × Int32 := s_M r i (-9) (-9) 0
/-- VALUE -/
def s_V (r : Nat → Int32) (i : Int32) : Int32 :=
  if (s_m r i).1 = 300 then (s_do r (s_m r i).1).1 + (s_m r i).1 / 10 - 5 * (s_m r i).2.1 - (if r 3 < (s_m r i).1 then 50 else 0)
  else (s_do r (s_m r i).1).1 + (s_m r i).1 / 10 - 5 * (s_m r i).2.1 - (if r 3 < (s_m r i).1 then 50 else 0) - s_D r i (s_m r i).1
/-- of the numbers least .. least + n at a place the best by VALUE of him: it, its VALUE -/
def s_ev (r : Nat → Int32) (k : Nat) (i least : Int32) : Nat → Int32 × Int32
  | 0 => (least, s_V (upd r k least) i)
  | n + 1 => if (s_ev r k i least n).2 < s_V (upd r k (least + nI (n + 1))) i then (least + nI (n + 1), s_V (upd r k (least + nI (n + 1))) i) else s_ev r k i least n
/-- OFTEN: among the first v sets -/
def s_of (r : Nat → Int32) (k : Nat) (i n : Int32) : Nat → Int32
  | 0 => 0
  | v + 1 => s_of r k i n v + (if (s_m (upd r k (nI v)) i).2.1 < n then 0 else 1)
/-- HEARS, one clock aside: the first o sleepers -/
def s_he (r : Nat → Int32) (i but : Int32) : Nat → Int32
  | 0 => 0
  | o + 1 => if nI o = i then s_he r i but o else (s_M r (nI o) but i (s_he r i but o)).2.2.2
def s_H (r : Nat → Int32) (i but : Int32) : Int32 := s_he r i but (tn (r 0))
/-- SILENT: among the first c clocks: it, what is heard then -/
def s_si (r : Nat → Int32) (i : Int32) : Nat → Int32 × Int32
  | 0 => (-9, s_H r i (-9))
  | c + 1 => if r (23 + 5 * c + 1) = i then s_si r i c else if s_H r i (nI c) < (s_si r i c).2 then (nI c, s_H r i (nI c)) else s_si r i c
/-- BET: from firm f on, n of them -/
def s_be (r : Nat → Int32) (i : Int32) : Nat → Nat → Int32
  | 0, _ => -9
  | n + 1, f => if (s_m (upd r 4 (nI f)) i).2.1 = 0 then nI f else s_be r i n (f + 1)
/-- LEANS below n -/
def s_le (r : Nat → Int32) (i m : Int32) : Nat → Int32
  | 0 => 0
  | k + 1 => s_le r i m k ||| (if (s_m (upd r (7 + 4 * tn i + 3) (nI k)) i).1 = m then (1 : Int32) <<< (nI k &&& 31) else 0)
/-- BACK: from k on, n of them -/
def s_ba (r : Nat → Int32) (c i was m : Int32) : Nat → Nat → Int32
  | 0, _ => -9
  | n + 1, k => if was < nI k then -9 else if (s_m (upd r (23 + 5 * tn c + 2) (was - nI k)) i).1 = m then nI k else s_ba r c i was m n (k + 1)
/-- BEST MOMENT among n + 1 -/
def s_mt (r : Nat → Int32) (i from_ : Int32) : Nat → Int32
  | 0 => from_
  | n + 1 => if s_D r i (from_ + nI (n + 1)) < s_D r i (s_mt r i from_ n) then from_ + nI (n + 1) else s_mt r i from_ n
/-- TIRED behind a morning with so many presses -/
def s_ti (t pr : Int32) : Int32 :=
  if t + (if 1 < pr then 1 else if pr = 0 then -1 else 0) < 0 then 0 else if 9 < t + (if 1 < pr then 1 else if pr = 0 then -1 else 0) then 9 else t + (if 1 < pr then 1 else if pr = 0 then -1 else 0)
def s_dy (d : Int32) : Int32 := if d < 6 then d + 1 else 0
/-- a day goes by, in mind -/
def s_go (r : Nat → Int32) (i : Int32) : Nat → Int32 := upd (upd r 5 (s_ti (r 5) (s_m r i).2.1)) 6 (s_dy (r 6))
/-- the row n days on -/
def s_gn (r : Nat → Int32) (i : Int32) : Nat → (Nat → Int32)
  | 0 => r
  | n + 1 => s_go (s_gn r i n) i
/-- all presses of n days -/
def s_wa (r : Nat → Int32) (i : Int32) : Nat → Int32
  | 0 => 0
  | n + 1 => s_wa r i n + (s_m (s_gn r i n) i).2.1
/-- the first of the told that is not so: from the kth day on, n of them -/
def s_ju (r : Nat → Int32) (i : Int32) (q : Nat → Int32) : Nat → Nat → Int32
  | 0, _ => -9
  | n + 1, k => if (s_m (s_gn r i k) i).1 = q k then s_ju r i q n (k + 1) else nI k
/-- FIRMS from f down, n of them: how many, the least -/
def s_fi (r : Nat → Int32) (i : Int32) (q : Nat → Int32) (w : Nat) : Nat → Int32 × Int32
  | 0 => (0, -9)
  | n + 1 => if s_ju (upd r 4 (nI (99 - n))) i q w 0 < 0 then ((s_fi r i q w n).1 + 1, nI (99 - n)) else s_fi r i q w n
/-- draws for the first c clocks: the row, the seed -/
def s_dr (r : Nat → Int32) (i : Int32) (z : Int32) : Nat → (Nat → Int32) × Int32
  | 0 => (r, z)
  | c + 1 => if r (23 + 5 * c + 1) = i then (upd (s_dr r i z c).1 (23 + 5 * c + 2) ((((s_dr r i z c).2 * 1664525 + 1013904223) &&& 2147483647) / 256 - (((s_dr r i z c).2 * 1664525 + 1013904223) &&& 2147483647) / 256 / 300 * 300), (s_dr r i z c).2 * 1664525 + 1013904223) else s_dr r i z c
/-- LOTS: behind n mornings: the row, the seed, all presses -/
def s_lo (r : Nat → Int32) (i z : Int32) : Nat → (Nat → Int32) × Int32 × Int32
  | 0 => (r, z, 0)
  | n + 1 => ((s_dr (s_lo r i z n).1 i (s_lo r i z n).2.1 (tn (r 1))).1, (s_dr (s_lo r i z n).1 i (s_lo r i z n).2.1 (tn (r 1))).2, (s_lo r i z n).2.2 + (s_m (s_dr (s_lo r i z n).1 i (s_lo r i z n).2.1 (tn (r 1))).1 i).2.1)
