/-! numbers as whole numbers -/
theorem t_add {a b : Int32} (h1 : -2147483648 ≤ a.toInt + b.toInt) (h2 : a.toInt + b.toInt ≤ 2147483647) : (a + b).toInt = a.toInt + b.toInt := by
  rw [Int32.toInt_add]
  exact Int.bmod_eq_of_le (by omega) (by omega)
theorem t_sub {a b : Int32} (h1 : -2147483648 ≤ a.toInt - b.toInt) (h2 : a.toInt - b.toInt ≤ 2147483647) : (a - b).toInt = a.toInt - b.toInt := by
  rw [Int32.toInt_sub]
  exact Int.bmod_eq_of_le (by omega) (by omega)
theorem t_mul {a b : Int32} (h1 : -2147483648 ≤ a.toInt * b.toInt) (h2 : a.toInt * b.toInt ≤ 2147483647) : (a * b).toInt = a.toInt * b.toInt := by
  rw [Int32.toInt_mul]
  exact Int.bmod_eq_of_le (by omega) (by omega)
/-- a quotient by a small number, of what isn't negative -/
theorem t_div {a b : Int32} {d : Int} (hb : b.toInt = d) (hd : 0 < d) (ha : 0 ≤ a.toInt) : (a / b).toInt = a.toInt / d := by
  rw [Int32.toInt_div, hb, Int.tdiv_eq_ediv_of_nonneg ha]
  have h1 : 0 ≤ a.toInt / d := Int.ediv_nonneg ha (Int.le_of_lt hd)
  have h2 : a.toInt / d ≤ a.toInt := Int.ediv_le_self _ ha
  have h3 := a.toInt_lt
  exact Int.bmod_eq_of_le (by omega) (by omega)
theorem t_divn {a b : Int32} {d : Int} (hb : b.toInt = d) (hd : 0 < d) (ha : a.toInt ≤ 0) (hl : -1000000000 ≤ a.toInt) : (a / b).toInt = -((-a.toInt) / d) := by
  have e : a.toInt = -(-a.toInt) := by omega
  rw [Int32.toInt_div, hb, e, Int.neg_tdiv, Int.tdiv_eq_ediv_of_nonneg (by omega)]
  have h1 : 0 ≤ (-a.toInt) / d := Int.ediv_nonneg (by omega) (Int.le_of_lt hd)
  have h2 : (-a.toInt) / d ≤ -a.toInt := Int.ediv_le_self _ (by omega)
  rw [Int.neg_neg]
  exact Int.bmod_eq_of_le (by omega) (by omega)
theorem t_lt {a b : Int32} : a < b ↔ a.toInt < b.toInt := Int32.lt_iff_toInt_lt
theorem t_le {a b : Int32} : a ≤ b ↔ a.toInt ≤ b.toInt := Int32.le_iff_toInt_le
theorem t_eq {a b : Int32} : a = b ↔ a.toInt = b.toInt := Int32.toInt_inj.symm
theorem kin_t {v lo hi : Int32} (h : ¬ kin v lo hi = 0) : lo.toInt ≤ v.toInt ∧ v.toInt ≤ hi.toInt := ⟨t_le.mp (kin_n.mp h).1, t_le.mp (kin_n.mp h).2⟩
/-- between two bounds -/
def ib (x : Int32) (lo hi : Int) : Prop := lo ≤ x.toInt ∧ x.toInt ≤ hi
theorem mulb {D P : Int} {n k : Int} (h1 : -n ≤ D) (h2 : D ≤ n) (p1 : 0 ≤ P) (p2 : P ≤ k) (hn : 0 ≤ n) : -(n * k) ≤ D * P ∧ D * P ≤ n * k := by
  have a1 : D * P ≤ n * P := Int.mul_le_mul_of_nonneg_right h2 p1
  have a2 : (-n) * P ≤ D * P := Int.mul_le_mul_of_nonneg_right h1 p1
  have a3 : n * P ≤ n * k := Int.mul_le_mul_of_nonneg_left p2 hn
  rw [Int.neg_mul] at a2
  omega
theorem ex_bd {w c p : Int32} (hw : ib w 0 400) (hc : ib c 0 400) (hp : ib p 1 50) : ib (w - (w - c) * p / 100) 0 400 ∧ ib (c + (w - c) * p / 100) 0 400 := by
  obtain ⟨w1, w2⟩ := hw
  obtain ⟨c1, c2⟩ := hc
  obtain ⟨p1, p2⟩ := hp
  have e1 : (w - c).toInt = w.toInt - c.toInt := t_sub (by omega) (by omega)
  have b1 := mulb (D := w.toInt - c.toInt) (P := p.toInt) (n := 400) (k := 50) (by omega) (by omega) (by omega) p2 (by omega)
  have e2 : ((w - c) * p).toInt = (w.toInt - c.toInt) * p.toInt := by
    rw [t_mul (by rw [e1]; omega) (by rw [e1]; omega), e1]
  have h100 : (100 : Int32).toInt = 100 := rfl
  unfold ib
  rcases Int.le_total 0 (w.toInt - c.toInt) with q | q
  · have x1 : 0 ≤ (w.toInt - c.toInt) * p.toInt := Int.mul_nonneg q (by omega)
    have x2 : (w.toInt - c.toInt) * p.toInt ≤ (w.toInt - c.toInt) * 50 := Int.mul_le_mul_of_nonneg_left p2 q
    have e3 : ((w - c) * p / 100).toInt = (w.toInt - c.toInt) * p.toInt / 100 := by
      rw [t_div h100 (by decide) (by rw [e2]; exact x1), e2]
    generalize (w.toInt - c.toInt) * p.toInt = X at *
    rw [t_sub (by rw [e3]; omega) (by rw [e3]; omega), t_add (by rw [e3]; omega) (by rw [e3]; omega), e3]
    omega
  · have x1 : (w.toInt - c.toInt) * p.toInt ≤ 0 := Int.mul_nonpos_of_nonpos_of_nonneg q (by omega)
    have x2 : (w.toInt - c.toInt) * 50 ≤ (w.toInt - c.toInt) * p.toInt := Int.mul_le_mul_of_nonpos_left q p2
    have e3 : ((w - c) * p / 100).toInt = -(-((w.toInt - c.toInt) * p.toInt) / 100) := by
      rw [t_divn h100 (by decide) (by rw [e2]; exact x1) (by rw [e2]; omega), e2]
    generalize (w.toInt - c.toInt) * p.toInt = X at *
    rw [t_sub (by rw [e3]; omega) (by rw [e3]; omega), t_add (by rw [e3]; omega) (by rw [e3]; omega), e3]
    omega
/-! the heats -/
def HB (f : Nat → Int32) : Prop := ∀ j, j < 8 → ib (f j) 0 400
section
variable {fw fc : Nat → Int32} {hu co v : Int32} {n : Nat}
theorem HB_ex (h1 : HB fw) (h2 : HB fc) (hp : ib hu 1 50) : HB (exW fw fc hu n) ∧ HB (exC fw fc hu n) := by
  refine ⟨fun j hj => ?_, fun j hj => ?_⟩
  · unfold exW exq
    split
    · exact (ex_bd (h1 j hj) (h2 j hj) hp).1
    · exact h1 j hj
  · unfold exC exq
    split
    · exact (ex_bd (h1 j hj) (h2 j hj) hp).2
    · exact h2 j hj
theorem HB_mvW (h : HB fw) (hv : ib v 0 400) : HB (mvW fw n v) := fun j hj => by
  unfold mvW
  split
  · exact hv
  · split
    · exact h _ (by omega)
    · exact h j hj
theorem HB_mvC (h : HB fw) (hn : n ≤ 8) (hv : ib v 0 400) : HB (mvC fw n v) := fun j hj => by
  unfold mvC
  split
  · exact hv
  · split
    · exact h _ (by omega)
    · exact h j hj
theorem ps_bd (h1 : HB fw) (h2 : HB fc) (hp : ib hu 1 50) (hn : n ≤ 8) (hco : ib co 0 60) : ib (psG fw fc hu n co) 80 400 ∧ ib (psR fw fc hu n co) 0 20 := by
  have hL : ib (psL fw fc hu n) 0 400 := (HB_ex h1 h2 hp).1 _ (by omega)
  have h80 : (80 : Int32).toInt = 80 := rfl
  have h20 : (20 : Int32).toInt = 20 := rfl
  have hE : (psE fw fc hu n co).toInt = (psL fw fc hu n).toInt - co.toInt := t_sub (by have := hL.1; have := hco.2; omega) (by have := hL.2; have := hco.1; omega)
  have hEb : ib (psE fw fc hu n co) (-60) 400 := by
    unfold ib
    rw [hE]
    have := hL.1; have := hL.2; have := hco.1; have := hco.2
    omega
  have hG : ib (psG fw fc hu n co) 80 400 ∧ (psE fw fc hu n co).toInt ≤ (psG fw fc hu n co).toInt := by
    unfold psG
    split
    · next q =>
      rw [t_lt, h80] at q
      unfold ib
      rw [h80]
      omega
    · next q =>
      rw [t_lt, h80] at q
      unfold ib
      have := hEb.2
      omega
  refine ⟨hG.1, ?_⟩
  have hd : (psG fw fc hu n co - psE fw fc hu n co).toInt = (psG fw fc hu n co).toInt - (psE fw fc hu n co).toInt := t_sub (by have := hG.2; omega) (by have := hG.1.2; have := hEb.1; omega)
  have hq : ((psG fw fc hu n co - psE fw fc hu n co) / 5).toInt = ((psG fw fc hu n co).toInt - (psE fw fc hu n co).toInt) / 5 := by
    rw [t_div (d := 5) rfl (by decide) (by rw [hd]; have := hG.2; omega), hd]
  unfold psR
  split
  · unfold ib; rw [h20]; omega
  · next q =>
    rw [t_lt, h20] at q
    unfold ib
    rw [hq] at q ⊢
    have := hG.2
    omega
end
/-! the cold of a cooler lies between 0 and 60 -/
theorem kcn_b {f : Nat → Int32} {x : Int32} (h : ∀ k, k < 5 → ib (f k) 0 50) : ib (kcn f x) 0 50 := by
  unfold kcn
  split
  · exact ⟨by decide, by decide⟩
  · split
    · exact ⟨by decide, by decide⟩
    · next q1 q2 =>
      obtain ⟨j, hj, rfl⟩ := nI_of q1
      have h3 : ¬ nI 5 ≤ nI j := q2
      rw [nI_leI (by omega) hj] at h3
      rw [nI_clamp hj]
      exact h j (by omega)
theorem kwc_b {f : Nat → Int32} {d : Int32} (h : ∀ k, k < 5 → ib (f k) 0 50) (hd : ¬ kin d 0 40 = 0) : ib (kwc f d) 0 60 := by
  obtain ⟨d1, d2⟩ := kin_t hd
  rw [show (0 : Int32).toInt = 0 from rfl] at d1
  rw [show (40 : Int32).toInt = 40 from rfl] at d2
  have h10 : (10 : Int32).toInt = 10 := rfl
  have e4 : (d / 4).toInt = d.toInt / 4 := t_div (d := 4) rfl (by decide) d1
  have eq : (d / 10).toInt = d.toInt / 10 := t_div (d := 10) rfl (by decide) d1
  have em : (d / 10 * 10).toInt = d.toInt / 10 * 10 := by rw [t_mul (by rw [eq, h10]; omega) (by rw [eq, h10]; omega), eq, h10]
  have er : (d - d / 10 * 10).toInt = d.toInt - d.toInt / 10 * 10 := by rw [t_sub (by rw [em]; omega) (by rw [em]; omega), em]
  have es : (10 - (d - d / 10 * 10)).toInt = 10 - (d.toInt - d.toInt / 10 * 10) := by rw [t_sub (by rw [er, h10]; omega) (by rw [er, h10]; omega), er, h10]
  have k1 := kcn_b (x := d / 10) h
  have k2 := kcn_b (x := d / 10 + 1) h
  unfold kwc
  generalize kcn f (d / 10) = F1 at k1 ⊢
  generalize kcn f (d / 10 + 1) = F2 at k2 ⊢
  obtain ⟨a1, a2⟩ := k1
  obtain ⟨b1, b2⟩ := k2
  generalize hr : d.toInt - d.toInt / 10 * 10 = r at er es
  have r1 : 0 ≤ r := by omega
  have r2 : r ≤ 9 := by omega
  have m1 : (10 - r) * F1.toInt ≤ (10 - r) * 50 := Int.mul_le_mul_of_nonneg_left a2 (by omega)
  have m2 : 0 ≤ (10 - r) * F1.toInt := Int.mul_nonneg (by omega) a1
  have m3 : r * F2.toInt ≤ r * 50 := Int.mul_le_mul_of_nonneg_left b2 r1
  have m4 : 0 ≤ r * F2.toInt := Int.mul_nonneg r1 b1
  have p1 : ((10 - (d - d / 10 * 10)) * F1).toInt = (10 - r) * F1.toInt := by rw [t_mul (by rw [es]; omega) (by rw [es]; omega), es]
  have p2 : ((d - d / 10 * 10) * F2).toInt = r * F2.toInt := by rw [t_mul (by rw [er]; omega) (by rw [er]; omega), er]
  generalize (10 - r) * F1.toInt = X1 at *
  generalize r * F2.toInt = X2 at *
  have p3 : ((10 - (d - d / 10 * 10)) * F1 + (d - d / 10 * 10) * F2).toInt = X1 + X2 := by rw [t_add (by rw [p1, p2]; omega) (by rw [p1, p2]; omega), p1, p2]
  have p4 : (((10 - (d - d / 10 * 10)) * F1 + (d - d / 10 * 10) * F2) / 10).toInt = (X1 + X2) / 10 := by rw [t_div h10 (by decide) (by rw [p3]; omega), p3]
  unfold ib
  rw [t_add (by rw [e4, p4]; omega) (by rw [e4, p4]; omega), e4, p4]
  omega
def CB (u : kS) : Prop := ∀ c, c < (u.1 2).toNatClampNeg → ¬ u.2.2.1 3 c = 0 → (∀ k, k < 5 → ib (u.2.2.1 4 (5 * c + k)) 0 50) ∧ (u.2.2.1 3 c = 2 → ib (u.2.2.1 5 c) 0 60)
theorem cdC_b {u : kS} {c : Nat} {d : Int32} (hC : CB u) (hc : c < (u.1 2).toNatClampNeg) (hk : u.2.2.1 3 c = 0 ∨ u.2.2.1 3 c = 1 ∨ u.2.2.1 3 c = 2) (hd : ¬ kin d 0 40 = 0) : ib (cdC u.2.2.1 c d) 0 60 := by
  unfold cdC
  split
  · obtain ⟨d1, d2⟩ := kin_t hd
    rw [show (0 : Int32).toInt = 0 from rfl] at d1
    rw [show (40 : Int32).toInt = 40 from rfl] at d2
    unfold ib
    rw [t_div (d := 4) rfl (by decide) d1]
    omega
  · next q0 =>
    obtain ⟨h4, h5⟩ := hC c hc q0
    split
    · exact kwc_b h4 hd
    · next q1 =>
      have e2 : u.2.2.1 3 c = 2 := by
        rcases hk with q | q | q
        · exact absurd q q0
        · exact absurd q q1
        · exact q
      split
      · exact h5 e2
      · exact kwc_b h4 hd
/-! what the calls keep -/
def HI (u : kS) : Prop := HB (u.2.2.1 7) ∧ HB (u.2.2.1 8) ∧ ib (u.1 9) 1 50 ∧ ib (u.2.2.1 10 2) 0 400 ∧ CB u
def SI (u : kS) : Prop := ib (u.1 17) 0 (u.2.2.1 10 3).toInt ∧ ib (u.2.2.1 10 3) 10 5000 ∧ ib (u.1 18) 0 300
def OI (u : kS) : Prop := (0 ≤ u.1 25 ∧ u.1 25 ≤ 8) ∧ ib (u.1 29) 0 10 ∧ ∀ j, j < (u.1 25).toNatClampNeg → 0 ≤ (u.2.2.1 26 j).toInt ∧ ((u.1 29).toInt ≤ (u.2.2.1 27 j).toInt → u.2.2.1 28 j = 0)
def Inv (B : Nat) (u : kS) : Prop := TI B u ∧ HI u ∧ SI u ∧ OI u
theorem fl_co_b {B : Nat} {u : kS} (hT : TI B u) (hH : HI u) : ib (fl_co u) 0 60 := by
  unfold fl_co kcold
  split
  · exact ⟨by decide, by decide⟩
  · next q =>
    have hlt := cool_lt q hT.1.1 hT.1.2
    exact cdC_b hH.2.2.2.2 hlt (hT.2.1 _ hlt) hT.2.2.2.2.1
theorem n8 {B : Nat} {u : kS} (hT : TI B u) : (u.1 6).toNatClampNeg ≤ 8 := by
  obtain ⟨k, hk, e⟩ := nI_of (Int32.not_lt.mpr (k1le hT.2.2.1.1))
  have h8 := hT.2.2.1.2
  rw [e] at h8 ⊢
  rw [nI_clamp hk]
  exact (nI_leI hk (by decide)).mp (show nI k ≤ nI 8 from h8)
theorem fl_R_b {B : Nat} {u : kS} (hT : TI B u) (hH : HI u) : ib (fl_R u) 0 20 := (ps_bd hH.1 hH.2.1 hH.2.2.1 (n8 hT) (fl_co_b hT hH)).2
theorem HI_fl {B : Nat} {u : kS} (hT : TI B u) (hH : HI u) : HI (fl_S u) := by
  obtain ⟨h7, h8, h9, h10, hC⟩ := id hH
  have hx := HB_ex (n := (u.1 6).toNatClampNeg) h7 h8 h9
  have hg := (ps_bd h7 h8 h9 (n8 hT) (fl_co_b hT hH)).1
  exact ⟨HB_mvW hx.1 h10, HB_mvC hx.2 (n8 hT) ⟨by have := hg.1; omega, hg.2⟩, h9, h10, hC⟩
theorem tk_b {ro ta ba q : Int32} (hta : ib ta 0 ro.toInt) (hro : ib ro 10 5000) (hba : ib ba 0 300) (hq : ib q 0 20) : ib (ta + tkT ro ta q) 0 ro.toInt ∧ ib (ba + tkB ro ta ba q) 0 300 := by
  obtain ⟨t1, t2⟩ := hta
  obtain ⟨r1, r2⟩ := hro
  obtain ⟨b1, b2⟩ := hba
  obtain ⟨q1, q2⟩ := hq
  have e1 : (ro - ta).toInt = ro.toInt - ta.toInt := t_sub (by omega) (by omega)
  have hT : (tkT ro ta q).toInt = if ro.toInt - ta.toInt < q.toInt then ro.toInt - ta.toInt else q.toInt := by
    unfold tkT
    by_cases c : ro - ta < q
    · rw [if_pos c, if_pos (by rw [t_lt, e1] at c; exact c), e1]
    · rw [if_neg c, if_neg (by rw [t_lt, e1] at c; exact c)]
  have hT2 : 0 ≤ (tkT ro ta q).toInt ∧ (tkT ro ta q).toInt ≤ q.toInt ∧ (tkT ro ta q).toInt ≤ ro.toInt - ta.toInt := by
    rw [hT]
    split <;> omega
  have e2 : (q - tkT ro ta q).toInt = q.toInt - (tkT ro ta q).toInt := t_sub (by omega) (by omega)
  have e3 : (300 - ba).toInt = 300 - ba.toInt := by rw [t_sub (by rw [show (300 : Int32).toInt = 300 from rfl]; omega) (by rw [show (300 : Int32).toInt = 300 from rfl]; omega)]; rfl
  have hB : (tkB ro ta ba q).toInt = if 300 - ba.toInt < q.toInt - (tkT ro ta q).toInt then 300 - ba.toInt else q.toInt - (tkT ro ta q).toInt := by
    unfold tkB
    by_cases c : 300 - ba < q - tkT ro ta q
    · rw [if_pos c, if_pos (by rw [t_lt, e2, e3] at c; exact c), e3]
    · rw [if_neg c, if_neg (by rw [t_lt, e2, e3] at c; exact c), e2]
  have hB2 : 0 ≤ (tkB ro ta ba q).toInt ∧ (tkB ro ta ba q).toInt ≤ 300 - ba.toInt := by
    rw [hB]
    split <;> omega
  unfold ib
  rw [t_add (by omega) (by omega), t_add (by omega) (by omega)]
  omega
theorem SI_tk {u : kS} {q : Int32} (hS : SI u) (hq : ib q 0 20) : SI (tk_S u q) := by
  obtain ⟨h1, h2, h3⟩ := hS
  have h := tk_b h1 h2 h3 hq
  exact ⟨h.1, h2, h.2⟩
theorem rn_k {u : kS} {q : Int32} {P : kS → Prop} (h : P u) (h2 : P (upd (upd u.1 12 2) 34 0, u.2)) : P (rn_S u q) := by
  unfold rn_S
  split
  · exact h
  · split
    · exact h2
    · exact h
theorem fwC_k {u : kS} {P : kS → Prop} (h : P (ld_S u)) (h2 : P (s_trip (ld_S u))) : P (fwC u) := by
  unfold fwC
  split
  · exact h2
  · split
    · exact h2
    · exact h
theorem Inv_fw {B : Nat} {v : kS} (hT : TI B v) (hH : HI v) (hS : SI v) (hO : OI v) : HI (fw_S v) ∧ SI (fw_S v) ∧ OI (fw_S v) := by
  have hH3 : HI (tk_S (fl_S v) (fl_R v)) := HI_fl hT hH
  have hS3 : SI (tk_S (fl_S v) (fl_R v)) := SI_tk (u := fl_S v) hS (fl_R_b hT hH)
  have hO3 : OI (tk_S (fl_S v) (fl_R v)) := hO
  unfold fw_S fwB fw_1
  generalize tk_S (fl_S v) (fl_R v) = x at hH3 hS3 hO3 ⊢
  have h4 : HI (rn_S x (fl_R v)) ∧ SI (rn_S x (fl_R v)) ∧ OI (rn_S x (fl_R v)) := rn_k (P := fun u => HI u ∧ SI u ∧ OI u) ⟨hH3, hS3, hO3⟩ ⟨hH3, hS3, hO3⟩
  generalize rn_S x (fl_R v) = y at h4 ⊢
  exact fwC_k (P := fun u => HI u ∧ SI u ∧ OI u) h4 h4
theorem Inv_ot {B : Nat} {u : kS} (h : Inv B u) (hB : B + 1 < 1000000) : Inv (B + 1) (ot_S u).2 := by
  refine ⟨TI_ot h.1 hB, ?_⟩
  obtain ⟨hT, hH, hS, hO⟩ := h
  have hT2 := TI_pt (TI_ot1 hT) hB
  have hH2 : HI (pt_S (ot_1 u)) := hH
  have hS2 : SI (pt_S (ot_1 u)) := hS
  have hO2 : OI (pt_S (ot_1 u)) := hO
  by_cases q : ptR ((ot_1 u).1 12) ((ot_1 u).1 34) = 0
  · have e : (ot_S u).2 = pt_S (ot_1 u) := congrArg Prod.snd (if_pos q)
    rw [e]
    exact ⟨hH2, hS2, hO2⟩
  · have e : (ot_S u).2 = fw_S (pt_S (ot_1 u)) := congrArg Prod.snd (if_neg q)
    rw [e]
    generalize pt_S (ot_1 u) = v at hT2 hH2 hS2 hO2 ⊢
    exact Inv_fw hT2 hH2 hS2 hO2
theorem Inv_tkL {B : Nat} {u : kS} (h : Inv B u) : ∀ {j : Nat}, B + j < 1000000 → Inv (B + j) (tkL u j).2
  | 0, _ => h
  | j + 1, q => Inv_ot (Inv_tkL h (by omega)) (by omega)
theorem Inv_mono {B B2 : Nat} {u : kS} (h : Inv B u) (hB : B ≤ B2) (h2 : B2 < 1000000) : Inv B2 u := by
  obtain ⟨⟨t1, t2, t3, t4, t5, t6, t7, t8, t9, t10, t11, t12, ⟨k, hk, -, e⟩, t14, t15⟩, h2_⟩ := h
  exact ⟨⟨t1, t2, t3, t4, t5, t6, t7, t8, t9, t10, t11, t12, ⟨k, by omega, h2, e⟩, t14, t15⟩, h2_⟩
theorem Inv_tick {B : Nat} {u : kS} {n : Int32} (h : Inv B u) (hB : B + 60 < 1000000) : Inv (B + 60) (f_tick u n).2 := by
  unfold f_tick
  split
  · exact Inv_mono h (by omega) hB
  · next q =>
    obtain ⟨nn, rfl, hn⟩ := kin_nat q
    rw [nI_clamp (by omega)]
    exact Inv_mono (Inv_tkL h (by omega)) (by omega) hB
/-- the new works -/
theorem Inv_u0 : Inv 0 u0 := by
  refine ⟨⟨⟨by decide, by decide⟩, fun c hc => absurd hc (Nat.not_lt_zero c), ⟨by decide, by decide⟩, Or.inl rfl, by decide, Or.inr (Or.inl rfl), Or.inl rfl, fun _ => rfl, fun _ => rfl, Or.inl rfl, fun q => Or.inl rfl, ⟨Or.inl rfl, Or.inl rfl, Or.inl rfl⟩, ⟨0, Nat.le_refl _, by decide, rfl⟩, fun _ => rfl, fun q => absurd (show (0 : Int32) = 4 from q) (by decide)⟩, ⟨?_, ?_, ⟨by decide, by decide⟩, ⟨by decide, by decide⟩, fun c hc => absurd hc (Nat.not_lt_zero c)⟩, ⟨⟨by decide, by decide⟩, ⟨by decide, by decide⟩, ⟨by decide, by decide⟩⟩, ⟨by decide, by decide⟩, ⟨by decide, by decide⟩, fun j hj => absurd hj (Nat.not_lt_zero j)⟩
  · intro j hj
    have e : u0.2.2.1 7 j = 300 := if_pos hj
    rw [e]
    exact ⟨by decide, by decide⟩
  · intro j hj
    have e : u0.2.2.1 8 j = 300 := if_pos hj
    rw [e]
    exact ⟨by decide, by decide⟩
section
variable {B : Nat} {u : kS}
theorem Inv_cold {x d : Int32} (h : Inv B u) : Inv B (f_cold u x d).2 := by
  unfold f_cold
  split
  · exact h
  · split
    · exact h
    · exact h
theorem Inv_lose {x v : Int32} (h : Inv B u) : Inv B (f_lose u x v).2 := by
  unfold f_lose
  split
  · exact h
  · exact h
theorem Inv_cells {n pp : Int32} (h : Inv B u) : Inv B (f_cells u n pp).2 := by
  unfold f_cells
  split
  · exact h
  · split
    · exact h
    · split
      · exact h
      · next q1 q2 _ =>
        obtain ⟨⟨t1, t2, t3, t4, t5, t6, t7, t8, t9, t10, t11, t12, t13, t14, t15⟩, ⟨h7, h8, h9, h10, hC⟩, hS, hO⟩ := h
        have k2 := kin_t q2
        refine ⟨⟨t1, t2, kin_n.mp q1, t4, t5, t6, t7, t8, t9, t10, t11, t12, t13, t14, t15⟩, ⟨?_, ?_, k2, h10, hC⟩, hS, hO⟩
        · intro j hj
          have e : kfill 300 (u.2.2.1 7) 8 j = 300 := if_pos hj
          show ib (kfill 300 (u.2.2.1 7) 8 j) 0 400
          rw [e]
          exact ⟨by decide, by decide⟩
        · intro j hj
          have e : kfill 300 (u.2.2.1 8) 8 j = 300 := if_pos hj
          show ib (kfill 300 (u.2.2.1 8) 8 j) 0 400
          rw [e]
          exact ⟨by decide, by decide⟩
theorem Inv_start (h : Inv B u) : Inv B (f_start u).2 := by
  unfold f_start
  split
  · exact h
  · split
    · exact h
    · split
      · exact h
      · next q1 q2 q3 =>
        obtain ⟨⟨t1, t2, t3, t4, t5, t6, t7, t8, t9, t10, t11, t12, ⟨k, hk, hB, e⟩, t14, t15⟩, hH, hS, hO⟩ := h
        have hon : u.2.2.1 22 0 = 1 ∨ u.2.2.1 22 1 = 1 := by
          unfold anyR at q2
          by_cases z : u.2.2.1 22 0 = 1
          · exact Or.inl z
          · rw [if_neg z] at q2
            by_cases z2 : u.2.2.1 22 1 = 1
            · exact Or.inr z2
            · rw [if_neg z2] at q2
              exact absurd rfl q2
        refine ⟨⟨t1, t2, t3, t4, t5, t6, t7, t8, t9, Or.inr (Or.inl rfl), fun _ => hon, ⟨Or.inr rfl, Or.inr rfl, t12.2.2⟩, ⟨0, Nat.zero_le _, hB, rfl⟩, ?_, ?_⟩, hH, hS, hO⟩
        · intro z
          have z' : (1 : Int32) = 3 ∨ (1 : Int32) = 4 := z
          exact absurd z' (by decide)
        · intro z
          exact absurd (show (1 : Int32) = 4 from z) (by decide)
theorem Inv_low (h : Inv B u) : Inv B (f_low u).2 := by
  unfold f_low
  split
  · next q1 =>
    obtain ⟨⟨t1, t2, t3, t4, t5, t6, t7, t8, t9, t10, t11, t12, ⟨k, hk, hB, e⟩, t14, t15⟩, hH, hS, hO⟩ := h
    exact ⟨⟨t1, t2, t3, t4, t5, t6, t7, t8, t9, Or.inr (Or.inr (Or.inr (Or.inl rfl))), fun _ => t11 (Or.inr (Or.inl q1)), t12, ⟨0, Nat.zero_le _, hB, rfl⟩, fun _ => rfl, fun z => absurd (show (3 : Int32) = 4 from z) (by decide)⟩, hH, hS, hO⟩
  · exact h
theorem Inv_high (h : Inv B u) : Inv B (f_high u).2 := by
  unfold f_high
  split
  · next q1 =>
    obtain ⟨⟨t1, t2, t3, t4, t5, t6, t7, t8, t9, t10, t11, t12, ⟨k, hk, hB, e⟩, t14, t15⟩, hH, hS, hO⟩ := h
    refine ⟨⟨t1, t2, t3, t4, t5, t6, t7, t8, t9, Or.inr (Or.inr (Or.inl rfl)), fun _ => t11 (Or.inr (Or.inr q1)), t12, ⟨0, Nat.zero_le _, hB, rfl⟩, ?_, fun z => absurd (show (2 : Int32) = 4 from z) (by decide)⟩, hH, hS, hO⟩
    intro z
    have z' : (2 : Int32) = 3 ∨ (2 : Int32) = 4 := z
    exact absurd z' (by decide)
  · exact h
theorem Inv_trip (h : Inv B u) : Inv B (f_trip u).2 := by
  unfold f_trip
  split
  · exact h
  · split
    · exact h
    · obtain ⟨⟨t1, t2, t3, t4, t5, t6, t7, t8, t9, t10, t11, t12, ⟨k, hk, hB, e⟩, t14, t15⟩, hH, hS, hO⟩ := h
      refine ⟨⟨t1, t2, t3, t4, t5, t6, t7, t8, t9, Or.inr (Or.inr (Or.inr (Or.inr rfl))), ?_, t12, ⟨0, Nat.zero_le _, hB, rfl⟩, fun _ => rfl, ?_⟩, hH, hS, hO⟩
      · intro z
        have z' : (4 : Int32) = 1 ∨ (4 : Int32) = 2 ∨ (4 : Int32) = 3 := z
        exact absurd z' (by decide)
      · intro _
        exact ⟨fun z => absurd (show (1 : Int32) ≤ 0 from z) (by decide), fun z => absurd (show (2 : Int32) ≤ 0 from z) (by decide), fun z => absurd (show (3 : Int32) ≤ 0 from z) (by decide)⟩
theorem Inv_reset (h : Inv B u) : Inv B (f_reset u).2 := by
  unfold f_reset
  split
  · exact h
  · split
    · exact h
    · obtain ⟨⟨t1, t2, t3, t4, t5, t6, t7, t8, t9, t10, t11, t12, ⟨k, hk, hB, e⟩, t14, t15⟩, hH, hS, hO⟩ := h
      refine ⟨⟨t1, t2, t3, t4, t5, t6, t7, t8, t9, Or.inl rfl, ?_, ⟨t12.1, t12.2.1, Or.inl rfl⟩, ⟨0, Nat.zero_le _, hB, rfl⟩, ?_, fun z => absurd (show (0 : Int32) = 4 from z) (by decide)⟩, hH, hS, hO⟩
      · intro z
        have z' : (0 : Int32) = 1 ∨ (0 : Int32) = 2 ∨ (0 : Int32) = 3 := z
        exact absurd z' (by decide)
      · intro z
        have z' : (0 : Int32) = 3 ∨ (0 : Int32) = 4 := z
        exact absurd z' (by decide)
theorem Inv_back {n : Int32} (h : Inv B u) : Inv B (f_back u n).2 := by
  unfold f_back
  split
  · exact h
  · split
    · exact h
    · split
      · exact h
      · next q1 q2 q3 =>
        obtain ⟨hT, hH, ⟨s1, s2, s3⟩, hO⟩ := h
        obtain ⟨a1, a2⟩ := id s1
        obtain ⟨b1, b2⟩ := id s2
        obtain ⟨c1, c2⟩ := id s3
        rw [t_lt, show (1 : Int32).toInt = 1 from rfl] at q1
        rw [t_lt] at q2
        rw [t_lt, t_sub (by omega) (by omega)] at q3
        refine ⟨hT, hH, ⟨?_, s2, ?_⟩, hO⟩
        · show ib (u.1 17 + n) 0 (u.2.2.1 10 3).toInt
          unfold ib
          rw [t_add (by omega) (by omega)]
          omega
        · show ib (u.1 18 - n) 0 300
          unfold ib
          rw [t_sub (by omega) (by omega)]
          omega
end
