/-- the cells of the class, told by the same state; cf: the coolers' row -/
def wC (g : kG) (ad : Nat → Nat) (u : kS) (cf : Nat → Option Nat) : va_W := [(ad 0, .inr (9, [.ref (ad 1), .ref (ad 2), .ref (ad 5), .ref (ad 6), .ref (ad 9), .ref (ad 10), .ref (ad 14), .int (u.1 2), .int (u.2.2.1 10 0), .int (u.2.2.1 10 1), .int (u.2.2.1 10 2), .int (u.1 31), .long (u.2.1 1)])),
  (ad 1, .inl (g.2 3, 6, .inr (.inr (.inr (.inr cf))))),
  (ad 2, .inr (4, [.ref (ad 3), .ref (ad 4), .int (u.1 6), .int (u.1 9), .long (u.2.2.2 0), .long (u.2.2.2 1), .long (u.2.2.2 2), .long (u.2.2.2 3)])),
  (ad 3, .inl (g.2 0, 8, .inl (u.2.2.1 7))), (ad 4, .inl (g.2 0, 8, .inl (u.2.2.1 8))),
  (ad 5, .inr (3, [.int (u.1 12), .int (u.1 34), .int (u.1 32), .int (u.1 14), .int (u.1 15), .int (u.1 16)])),
  (ad 6, .inr (1, [.ref (ad 7), .ref (ad 8), .int (u.2.2.1 10 4), .int (u.2.2.1 10 5)])),
  (ad 7, .inr (0, [.int (u.2.2.1 22 0), .int (u.2.2.1 23 0), .int (u.2.2.1 24 0)])),
  (ad 8, .inr (0, [.int (u.2.2.1 22 1), .int (u.2.2.1 23 1), .int (u.2.2.1 24 1)])),
  (ad 9, .inr (6, [.int (u.2.2.1 10 3), .int (u.1 17), .int (u.1 18), .long (u.2.1 19), .long (u.2.1 20), .long (u.2.1 21)])),
  (ad 10, .inr (5, [.ref (ad 11), .ref (ad 12), .ref (ad 13), .int (u.1 25), .int (u.1 29), .int (u.1 30)])),
  (ad 11, .inl (g.2 0, 8, .inl (u.2.2.1 26))), (ad 12, .inl (g.2 0, 8, .inl (u.2.2.1 27))), (ad 13, .inl (g.2 0, 8, .inl (u.2.2.1 28))),
  (ad 14, .inl (g.2 2, 4, .inl (u.2.2.1 33)))]
/-! what each call answers, and the state behind it. Keys: 2 coolers, 6 cells, 9 pass, 12 state, 13 since, 34 ticks of the state, 14 15 16 valves, 17 tank, 18 bag, 25 orders, 29 day, 30 missed, 31 ticks, 32 trips; longs 1 trace, 19 made, 20 delivered, 21 blown; rows 3 kinds, 4 corners, 5 limits, 7 warm, 8 cold, 10 rules, 22 how, 23 load, 24 ticked, 26 wanted, 27 day of, 28 became, 33 lost -/
def kfL (f : Nat → Int64) (n : Nat) : Nat → Int64 := fun j => if j < n then 0 else f j
def sR (u : kS) (k : Nat) (v : Int32) : kS := (u.1, u.2.1, va_up u.2.2.1 10 (upd (u.2.2.1 10) k v), u.2.2.2)
def f_cells (u : kS) (n pp : Int32) : Int32 × kS := if kin n 1 8 = 0 then (-1, u) else if kin pp 1 50 = 0 then (-1, u) else if ¬ u.1 12 = 0 then (-2, u) else (1, (upd (upd u.1 6 n) 9 pp, u.2.1, va_up (va_up u.2.2.1 7 (kfill 300 (u.2.2.1 7) 8)) 8 (kfill 300 (u.2.2.1 8) 8), kfL u.2.2.2 4))
def mayS (u : kS) (wh v : Int32) : Int32 := if wh = 0 then (if v = -9 then 1 else if kin v 0 (u.1 2 - 1) = 0 then 0 else 1) else if wh = 1 then kin v 0 40 else if wh = 2 then kin v 0 400 else if wh = 3 then (if kin v 10 5000 = 0 then 0 else if v < u.1 17 then 0 else 1) else if wh = 4 then kin v 5 60 else if wh = 5 then kin v 1 30 else 0
def setS (u : kS) (wh : Int32) : Int32 := if wh = 0 then u.2.2.1 10 0 else if wh = 1 then u.2.2.1 10 1 else if wh = 2 then u.2.2.1 10 2 else if wh = 3 then u.2.2.1 10 3 else if wh = 4 then u.2.2.1 10 4 else u.2.2.1 10 5
def chgS (u : kS) (wh v : Int32) : kS := if wh = 0 then sR u 0 v else if wh = 1 then sR u 1 v else if wh = 2 then sR u 2 v else if wh = 3 then sR u 3 v else if wh = 4 then sR u 4 v else sR u 5 v
def f_set (u : kS) (wh v : Int32) : Int32 × kS := if mayS u wh v = 0 then (-1, u) else (setS u wh, chgS u wh v)
def f_side (u : kS) (x y : Int32) : Int32 := if kin x 0 1 = 0 then -1 else if kin y 0 (u.1 6 - 1) = 0 then -1 else if x = 0 then u.2.2.1 7 y.toNatClampNeg else u.2.2.1 8 y.toNatClampNeg
def f_heat (u : kS) (x : Int32) : Int64 := if x = 0 then u.2.2.2 0 else if x = 1 then u.2.2.2 1 else if x = 2 then u.2.2.2 2 else if x = 3 then u.2.2.2 3 else -1
def f_start (u : kS) : Int32 × kS := if ¬ u.1 12 = 0 then (-2, u) else if anyR (u.2.2.1 22 0) (u.2.2.1 22 1) = 0 then (-2, u) else if u.2.2.1 10 3 ≤ u.1 17 then (-2, u) else (1, (upd (upd (upd (upd u.1 12 1) 34 0) 14 1) 15 1, u.2))
def f_low (u : kS) : Int32 × kS := if u.1 12 = 2 then (3, (upd (upd (upd u.1 12 3) 34 0) 13 0, u.2)) else (-2, u)
def f_high (u : kS) : Int32 × kS := if u.1 12 = 3 then (2, (upd (upd u.1 12 2) 34 0, u.2)) else (-2, u)
/-- tripped -/
def s_trip (u : kS) : kS := (upd (upd (upd (upd u.1 12 4) 34 0) 13 0) 32 (u.1 32 + 1), u.2)
def f_trip (u : kS) : Int32 × kS := if u.1 12 = 0 then (-2, u) else if u.1 12 = 4 then (-2, u) else (4, s_trip u)
def f_reset (u : kS) : Int32 × kS := if ¬ u.1 12 = 4 then (-2, u) else if u.1 16 = 0 then (-2, u) else (0, (upd (upd (upd u.1 12 0) 34 0) 16 0, u.2))
def f_adsorber (u : kS) (x y : Int32) : Int32 := adR (u.2.2.1 22 0) (u.2.2.1 23 0) (u.2.2.1 24 0) (u.2.2.1 22 1) (u.2.2.1 23 1) (u.2.2.1 24 1) x y
def f_valve (u : kS) (x : Int32) : Int32 := if x = 0 then (if u.1 14 = 0 then 0 else 1) else if x = 1 then (if u.1 15 = 0 then 0 else 1) else if x = 2 then (if u.1 16 = 0 then 0 else 1) else -1
def f_order (u : kS) (n d : Int32) : Int32 × kS := if kin n 1 500 = 0 then (-1, u) else if kin d 0 9 = 0 then (-1, u) else if u.1 25 < 8 then (u.1 25 + 1 - 1, (upd u.1 25 (u.1 25 + 1), u.2.1, va_up (va_up (va_up u.2.2.1 26 (upd (u.2.2.1 26) (u.1 25).toNatClampNeg n)) 27 (upd (u.2.2.1 27) (u.1 25).toNatClampNeg d)) 28 (upd (u.2.2.1 28) (u.1 25).toNatClampNeg 0), u.2.2.2)) else (-3, u)
def dlE (u : kS) : kE := edL (u.2.2.1 26) (u.2.2.1 27) (u.1 29) (0, u.2.2.1 28, u.1 30, u.1 17, u.2.1 20) (u.1 25).toNatClampNeg
def f_deliver (u : kS) : Int32 × kS := if u.1 29 < 10 then ((dlE u).1, (upd (upd (upd u.1 29 (u.1 29 + 1)) 30 (dlE u).2.2.1) 17 (dlE u).2.2.2.1, vp_updL u.2.1 20 (dlE u).2.2.2.2, va_up u.2.2.1 28 (dlE u).2.1, u.2.2.2)) else (-2, u)
def f_about (u : kS) (x y : Int32) : Int32 := orR (u.1 25) (u.2.2.1 26) (u.2.2.1 27) (u.2.2.1 28) x y
def f_back (u : kS) (n : Int32) : Int32 × kS := if n < 1 then (-1, u) else if u.1 18 < n then (-2, u) else if u.2.2.1 10 3 - u.1 17 < n then (-2, u) else (u.1 17 + n, (upd (upd u.1 18 (u.1 18 - n)) 17 (u.1 17 + n), u.2))
def f_lose (u : kS) (x v : Int32) : Int32 × kS := if kin x 0 3 = 0 then (-1, u) else (if u.2.2.1 33 x.toNatClampNeg = 0 then 0 else 1, (u.1, u.2.1, va_up u.2.2.1 33 (upd (u.2.2.1 33) x.toNatClampNeg v), u.2.2.2))
def rdM (u : kS) (x : Int32) : Int64 := if x = 0 then u.2.1 19 else if x = 1 then u.2.1 20 else if x = 2 then u.2.1 21 else (u.1 17 + u.1 18).toInt64
def f_meter (u : kS) (x : Int32) : Int64 := if kin x 0 3 = 0 then -1 else if ¬ u.2.2.1 33 x.toNatClampNeg = 0 then -9 else rdM u x
def zb (v : Int32) : Int32 := if v = 0 then 0 else 1
/-- how many meters are lost -/
def lostN (f : Nat → Int32) : Int32 := 0 + zb (f 0) + zb (f 1) + zb (f 2) + zb (f 3)
/-- what the others tell -/
def toldO (u : kS) (x : Int32) : Int64 := (fun s1 : Int64 => (fun s2 : Int64 => (if ¬ 3 = x then s2 + (u.1 17 + u.1 18).toInt64 else s2)) (if ¬ 2 = x then s1 + u.2.1 21 else s1)) (if ¬ 1 = x then 0 + u.2.1 20 else 0)
def f_balance (u : kS) (x : Int32) : Int64 := if kin x 0 3 = 0 then -1 else if u.2.2.1 33 x.toNatClampNeg = 0 then rdM u x else if lostN (u.2.2.1 33) = 1 then (if x = 0 then toldO u x else u.2.1 19 - toldO u x) else -9
def f_count (u : kS) (x : Int32) : Int32 := if x = 0 then u.1 12 else if x = 1 then u.1 17 else if x = 2 then u.1 18 else if x = 3 then u.1 2 else if x = 4 then u.1 6 else if x = 5 then u.1 25 else if x = 6 then u.1 29 else if x = 7 then u.1 31 else if x = 8 then u.1 32 else if x = 9 then u.1 30 else -1
