abbrev rmK (f c s lo : Nat) : Room := { frames := f, cells := c, slots := s, locals := lo }
theorem kZn {v : Int32} (h : v = 0 ∨ v = 1) : narrow .boolean (.int v) = .int v := by rcases h with rfl | rfl <;> rfl
theorem kZf {v : Int32} (h : v = 0 ∨ v = 1) : fits .boolean (.int v) = true := by rcases h with rfl | rfl <;> rfl
theorem kZv {v : Int32} (h : v = 0 ∨ v = 1) : vp_nar .boolean v = v := by rcases h with rfl | rfl <;> rfl
/-- whether v lies between lo and hi -/
def kin (v lo hi : Int32) : Int32 := if lo ≤ v ∧ v ≤ hi then 1 else 0
theorem kin_b (v lo hi : Int32) : kin v lo hi = 0 ∨ kin v lo hi = 1 := by unfold kin; split <;> simp
theorem kin_0 {v lo hi : Int32} : kin v lo hi = 0 ↔ ¬ (lo ≤ v ∧ v ≤ hi) := by unfold kin; split <;> simp_all
theorem kin_n {v lo hi : Int32} : ¬ kin v lo hi = 0 ↔ (lo ≤ v ∧ v ≤ hi) := by unfold kin; split <;> simp_all
theorem kiteAt {c : Prop} [Decidable c] (h : (if c then (0 : Int32) else 1) = 0) : c := by
  by_cases hc : c
  · exact hc
  · rw [if_neg hc] at h; exact absurd h (by decide)
theorem kiteAf {c : Prop} [Decidable c] (h : ¬ (if c then (0 : Int32) else 1) = 0) : ¬ c := fun hc => h (by rw [if_pos hc])
theorem kiteBt {c : Prop} [Decidable c] (h : (if c then (1 : Int32) else 0) = 0) : ¬ c := fun hc => by
  rw [if_pos hc] at h; exact absurd h (by decide)
theorem kiteBf {c : Prop} [Decidable c] (h : ¬ (if c then (1 : Int32) else 0) = 0) : c := by
  by_cases hc : c
  · exact hc
  · rw [if_neg hc] at h; exact absurd rfl h
/-- the state that both systems are told by: ints, longs, rows of ints, the four heats -/
abbrev kS : Type := (Nat → Int32) × (Nat → Int64) × (Nat → Nat → Int32) × (Nat → Int64)
/-- the cells of the reference -/
def wR (g : kG) (h0 : Nat) (ad : Nat → Nat) (u : kS) : va_W := [(h0, .inr (10, [.int 0, .long (u.2.1 1), .int (u.1 2), .ref (ad 3), .ref (ad 4), .ref (ad 5), .int (u.1 6), .ref (ad 7), .ref (ad 8), .int (u.1 9), .ref (ad 10), .ref (ad 11), .int (u.1 12), .int (u.1 13), .int (u.1 14), .int (u.1 15), .int (u.1 16), .int (u.1 17), .int (u.1 18), .long (u.2.1 19), .long (u.2.1 20), .long (u.2.1 21), .ref (ad 22), .ref (ad 23), .ref (ad 24), .int (u.1 25), .ref (ad 26), .ref (ad 27), .ref (ad 28), .int (u.1 29), .int (u.1 30), .int (u.1 31), .int (u.1 32), .ref (ad 33)])),
  (ad 3, .inl (g.2 0, 6, .inl (u.2.2.1 3))), (ad 4, .inl (g.2 0, 30, .inl (u.2.2.1 4))), (ad 5, .inl (g.2 0, 6, .inl (u.2.2.1 5))), (ad 7, .inl (g.2 0, 8, .inl (u.2.2.1 7))), (ad 8, .inl (g.2 0, 8, .inl (u.2.2.1 8))), (ad 10, .inl (g.2 0, 6, .inl (u.2.2.1 10))), (ad 11, .inl (g.2 1, 4, .inr (.inl u.2.2.2))), (ad 22, .inl (g.2 0, 2, .inl (u.2.2.1 22))), (ad 23, .inl (g.2 0, 2, .inl (u.2.2.1 23))), (ad 24, .inl (g.2 0, 2, .inl (u.2.2.1 24))), (ad 26, .inl (g.2 0, 8, .inl (u.2.2.1 26))), (ad 27, .inl (g.2 0, 8, .inl (u.2.2.1 27))), (ad 28, .inl (g.2 0, 8, .inl (u.2.2.1 28))), (ad 33, .inl (g.2 2, 4, .inl (u.2.2.1 33)))]
/-! the class's small bodies, as functions -/
def mvF (tk fe : Int32) : Int32 := if tk = 1 then 0 else fe
def mvP (tk pr : Int32) : Int32 := if tk = 2 then 0 else pr
def mvV (tk ve : Int32) : Int32 := if tk = 3 then 1 else ve
/-- passTick: whether gas goes -/
def ptR (st tk : Int32) : Int32 := if st = 1 then 1 else if st = 2 then 1 else if st = 3 then (if (tk + 1) - (tk + 1) / 2 * 2 = 1 then 1 else 0) else 0
def ptF (st tk fe : Int32) : Int32 := if st = 4 then mvF (tk + 1) fe else fe
def ptP (st tk pr : Int32) : Int32 := if st = 4 then mvP (tk + 1) pr else pr
def ptV (st tk ve : Int32) : Int32 := if st = 4 then mvV (tk + 1) ve else ve
