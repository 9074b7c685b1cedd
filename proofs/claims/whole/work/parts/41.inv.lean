/-! numbers as whole numbers -/
theorem t_add {a b : Int32} (h1 : -2147483648 ≤ a.toInt + b.toInt) (h2 : a.toInt + b.toInt ≤ 2147483647) : (a + b).toInt = a.toInt + b.toInt := by
  rw [Int32.toInt_add]
  exact Int.bmod_eq_of_le (by omega) (by omega)
theorem t_sub {a b : Int32} (h1 : -2147483648 ≤ a.toInt - b.toInt) (h2 : a.toInt - b.toInt ≤ 2147483647) : (a - b).toInt = a.toInt - b.toInt := by
  rw [Int32.toInt_sub]
  exact Int.bmod_eq_of_le (by omega) (by omega)
theorem t_mul {a b : Int32} (h1 : -2147483648 ≤ a.toInt * b.toInt) (h2 : a.toInt * b.toInt ≤ 2147483647) : (a * b).toInt = a.toInt * b.toInt := by
  rw [Int32.toInt_mul]
  exact Int.bmod_eq_of_le (by omega) (by omega)
/-- a quotient by a small number, of what isn't negative -/
theorem t_div {a b : Int32} {d : Int} (hb : b.toInt = d) (hd : 0 < d) (ha : 0 ≤ a.toInt) : (a / b).toInt = a.toInt / d := by
  rw [Int32.toInt_div, hb, Int.tdiv_eq_ediv_of_nonneg ha]
  have h1 : 0 ≤ a.toInt / d := Int.ediv_nonneg ha (Int.le_of_lt hd)
  have h2 : a.toInt / d ≤ a.toInt := Int.ediv_le_self _ ha
  have h3 := a.toInt_lt
  exact Int.bmod_eq_of_le (by omega) (by omega)
theorem t_divn {a b : Int32} {d : Int} (hb : b.toInt = d) (hd : 0 < d) (ha : a.toInt ≤ 0) (hl : -1000000000 ≤ a.toInt) : (a / b).toInt = -((-a.toInt) / d) := by
  have e : a.toInt = -(-a.toInt) := by omega
  rw [Int32.toInt_div, hb, e, Int.neg_tdiv, Int.tdiv_eq_ediv_of_nonneg (by omega)]
  have h1 : 0 ≤ (-a.toInt) / d := Int.ediv_nonneg (by omega) (Int.le_of_lt hd)
  have h2 : (-a.toInt) / d ≤ -a.toInt := Int.ediv_le_self _ (by omega)
  rw [Int.neg_neg]
  exact Int.bmod_eq_of_le (by omega) (by omega)
theorem t_lt {a b : Int32} : a < b ↔ a.toInt < b.toInt := Int32.lt_iff_toInt_lt
theorem t_le {a b : Int32} : a ≤ b ↔ a.toInt ≤ b.toInt := Int32.le_iff_toInt_le
theorem t_eq {a b : Int32} : a = b ↔ a.toInt = b.toInt := Int32.toInt_inj.symm
theorem kin_t {v lo hi : Int32} (h : ¬ kin v lo hi = 0) : lo.toInt ≤ v.toInt ∧ v.toInt ≤ hi.toInt := ⟨t_le.mp (kin_n.mp h).1, t_le.mp (kin_n.mp h).2⟩
/-- between two bounds -/
def ib (x : Int32) (lo hi : Int) : Prop := lo ≤ x.toInt ∧ x.toInt ≤ hi
theorem mulb {D P : Int} {n k : Int} (h1 : -n ≤ D) (h2 : D ≤ n) (p1 : 0 ≤ P) (p2 : P ≤ k) (hn : 0 ≤ n) : -(n * k) ≤ D * P ∧ D * P ≤ n * k := by
  have a1 : D * P ≤ n * P := Int.mul_le_mul_of_nonneg_right h2 p1
  have a2 : (-n) * P ≤ D * P := Int.mul_le_mul_of_nonneg_right h1 p1
  have a3 : n * P ≤ n * k := Int.mul_le_mul_of_nonneg_left p2 hn
  rw [Int.neg_mul] at a2
  omega
theorem ex_bd {w c p : Int32} (hw : ib w 0 400) (hc : ib c 0 400) (hp : ib p 1 50) : ib (w - (w - c) * p / 100) 0 400 ∧ ib (c + (w - c) * p / 100) 0 400 := by
  obtain ⟨w1, w2⟩ := hw
  obtain ⟨c1, c2⟩ := hc
  obtain ⟨p1, p2⟩ := hp
  have e1 : (w - c).toInt = w.toInt - c.toInt := t_sub (by omega) (by omega)
  have b1 := mulb (D := w.toInt - c.toInt) (P := p.toInt) (n := 400) (k := 50) (by omega) (by omega) (by omega) p2 (by omega)
  have e2 : ((w - c) * p).toInt = (w.toInt - c.toInt) * p.toInt := by
    rw [t_mul (by rw [e1]; omega) (by rw [e1]; omega), e1]
  have h100 : (100 : Int32).toInt = 100 := rfl
  unfold ib
  rcases Int.le_total 0 (w.toInt - c.toInt) with q | q
  · have x1 : 0 ≤ (w.toInt - c.toInt) * p.toInt := Int.mul_nonneg q (by omega)
    have x2 : (w.toInt - c.toInt) * p.toInt ≤ (w.toInt - c.toInt) * 50 := Int.mul_le_mul_of_nonneg_left p2 q
    have e3 : ((w - c) * p / 100).toInt = (w.toInt - c.toInt) * p.toInt / 100 := by
      rw [t_div h100 (by decide) (by rw [e2]; exact x1), e2]
    generalize (w.toInt - c.toInt) * p.toInt = X at *
    rw [t_sub (by rw [e3]; omega) (by rw [e3]; omega), t_add (by rw [e3]; omega) (by rw [e3]; omega), e3]
    omega
  · have x1 : (w.toInt - c.toInt) * p.toInt ≤ 0 := Int.mul_nonpos_of_nonpos_of_nonneg q (by omega)
    have x2 : (w.toInt - c.toInt) * 50 ≤ (w.toInt - c.toInt) * p.toInt := Int.mul_le_mul_of_nonpos_left q p2
    have e3 : ((w - c) * p / 100).toInt = -(-((w.toInt - c.toInt) * p.toInt) / 100) := by
      rw [t_divn h100 (by decide) (by rw [e2]; exact x1) (by rw [e2]; omega), e2]
    generalize (w.toInt - c.toInt) * p.toInt = X at *
    rw [t_sub (by rw [e3]; omega) (by rw [e3]; omega), t_add (by rw [e3]; omega) (by rw [e3]; omega), e3]
    omega
/-! the heats -/
def HB (f : Nat → Int32) : Prop := ∀ j, j < 8 → ib (f j) 0 400
section
variable {fw fc : Nat → Int32} {hu co v : Int32} {n : Nat}
theorem HB_ex (h1 : HB fw) (h2 : HB fc) (hp : ib hu 1 50) : HB (exW fw fc hu n) ∧ HB (exC fw fc hu n) := by
  refine ⟨fun j hj => ?_, fun j hj => ?_⟩
  · unfold exW exq
    split
    · exact (ex_bd (h1 j hj) (h2 j hj) hp).1
    · exact h1 j hj
  · unfold exC exq
    split
    · exact (ex_bd (h1 j hj) (h2 j hj) hp).2
    · exact h2 j hj
theorem HB_mvW (h : HB fw) (hv : ib v 0 400) : HB (mvW fw n v) := fun j hj => by
  unfold mvW
  split
  · exact hv
  · split
    · exact h _ (by omega)
    · exact h j hj
theorem HB_mvC (h : HB fw) (hn : n ≤ 8) (hv : ib v 0 400) : HB (mvC fw n v) := fun j hj => by
  unfold mvC
  split
  · exact hv
  · split
    · exact h _ (by omega)
    · exact h j hj
theorem ps_bd (h1 : HB fw) (h2 : HB fc) (hp : ib hu 1 50) (hn : n ≤ 8) (hco : ib co 0 60) : ib (psG fw fc hu n co) 80 400 ∧ ib (psR fw fc hu n co) 0 20 := by
  have hL : ib (psL fw fc hu n) 0 400 := (HB_ex h1 h2 hp).1 _ (by omega)
  have h80 : (80 : Int32).toInt = 80 := rfl
  have h20 : (20 : Int32).toInt = 20 := rfl
  have hE : (psE fw fc hu n co).toInt = (psL fw fc hu n).toInt - co.toInt := t_sub (by have := hL.1; have := hco.2; omega) (by have := hL.2; have := hco.1; omega)
  have hEb : ib (psE fw fc hu n co) (-60) 400 := by
    unfold ib
    rw [hE]
    have := hL.1; have := hL.2; have := hco.1; have := hco.2
    omega
  have hG : ib (psG fw fc hu n co) 80 400 ∧ (psE fw fc hu n co).toInt ≤ (psG fw fc hu n co).toInt := by
    unfold psG
    split
    · next q =>
      rw [t_lt, h80] at q
      unfold ib
      rw [h80]
      omega
    · next q =>
      rw [t_lt, h80] at q
      unfold ib
      have := hEb.2
      omega
  refine ⟨hG.1, ?_⟩
  have hd : (psG fw fc hu n co - psE fw fc hu n co).toInt = (psG fw fc hu n co).toInt - (psE fw fc hu n co).toInt := t_sub (by have := hG.2; omega) (by have := hG.1.2; have := hEb.1; omega)
  have hq : ((psG fw fc hu n co - psE fw fc hu n co) / 5).toInt = ((psG fw fc hu n co).toInt - (psE fw fc hu n co).toInt) / 5 := by
    rw [t_div (d := 5) rfl (by decide) (by rw [hd]; have := hG.2; omega), hd]
  unfold psR
  split
  · unfold ib; rw [h20]; omega
  · next q =>
    rw [t_lt, h20] at q
    unfold ib
    rw [hq] at q ⊢
    have := hG.2
    omega
end
