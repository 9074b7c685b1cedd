section
variable {B : Nat} {u : kS}
theorem Inv_sR {k : Nat} {v : Int32} (h : Inv B u) (h0 : k = 0 → v = -9 ∨ ¬ kin v 0 (u.1 2 - 1) = 0) (h1 : k = 1 → ¬ kin v 0 40 = 0) (h2 : k = 2 → ib v 0 400) (h3 : k = 3 → ib v 10 5000 ∧ (u.1 17).toInt ≤ v.toInt) : Inv B (sR u k v) := by
  obtain ⟨⟨t1, t2, t3, t4, t5, t6, t7, t8, t9, t10, t11, t12, t13, t14, t15⟩, ⟨h7, h8, h9, h10, hC⟩, ⟨s1, s2, s3⟩, hO⟩ := h
  have e : (sR u k v).2.2.1 10 = upd (u.2.2.1 10) k v := rfl
  refine ⟨⟨t1, t2, t3, ?_, ?_, t6, t7, t8, t9, t10, t11, t12, t13, t14, t15⟩, ⟨h7, h8, h9, ?_, hC⟩, ⟨?_, ?_, s3⟩, hO⟩
  · rw [e]
    show upd (u.2.2.1 10) k v 0 = -9 ∨ ¬ kin (upd (u.2.2.1 10) k v 0) 0 (u.1 2 - 1) = 0
    unfold upd
    by_cases q : 0 = k
    · rw [if_pos q]; exact h0 q.symm
    · rw [if_neg q]; exact t4
  · rw [e]
    unfold upd
    by_cases q : 1 = k
    · rw [if_pos q]; exact h1 q.symm
    · rw [if_neg q]; exact t5
  · rw [e]
    unfold upd
    by_cases q : 2 = k
    · rw [if_pos q]; exact h2 q.symm
    · rw [if_neg q]; exact h10
  · rw [e]
    show ib (u.1 17) 0 (upd (u.2.2.1 10) k v 3).toInt
    unfold upd
    by_cases q : 3 = k
    · rw [if_pos q]; exact ⟨s1.1, (h3 q.symm).2⟩
    · rw [if_neg q]; exact s1
  · rw [e]
    unfold upd
    by_cases q : 3 = k
    · rw [if_pos q]; exact (h3 q.symm).1
    · rw [if_neg q]; exact s2
theorem Inv_set {wh v : Int32} (h : Inv B u) : Inv B (f_set u wh v).2 := by
  unfold f_set
  by_cases q : mayS u wh v = 0
  · rw [if_pos q]; exact h
  · rw [if_neg q]
    show Inv B (chgS u wh v)
    unfold mayS at q
    unfold chgS
    by_cases q0 : wh = 0
    · rw [if_pos q0] at q ⊢
      refine Inv_sR h (fun _ => ?_) (fun z => absurd z (by decide)) (fun z => absurd z (by decide)) (fun z => absurd z (by decide))
      by_cases z : v = -9
      · exact Or.inl z
      · rw [if_neg z] at q
        by_cases z2 : kin v 0 (u.1 2 - 1) = 0
        · rw [if_pos z2] at q; exact absurd rfl q
        · exact Or.inr z2
    · rw [if_neg q0] at q ⊢
      by_cases q1 : wh = 1
      · rw [if_pos q1] at q ⊢
        exact Inv_sR h (fun z => absurd z (by decide)) (fun _ => q) (fun z => absurd z (by decide)) (fun z => absurd z (by decide))
      · rw [if_neg q1] at q ⊢
        by_cases q2 : wh = 2
        · rw [if_pos q2] at q ⊢
          exact Inv_sR h (fun z => absurd z (by decide)) (fun z => absurd z (by decide)) (fun _ => kin_t q) (fun z => absurd z (by decide))
        · rw [if_neg q2] at q ⊢
          by_cases q3 : wh = 3
          · rw [if_pos q3] at q ⊢
            refine Inv_sR h (fun z => absurd z (by decide)) (fun z => absurd z (by decide)) (fun z => absurd z (by decide)) (fun _ => ?_)
            by_cases z : kin v 10 5000 = 0
            · rw [if_pos z] at q; exact absurd rfl q
            · rw [if_neg z] at q
              by_cases z2 : v < u.1 17
              · rw [if_pos z2] at q; exact absurd rfl q
              · rw [t_lt] at z2
                exact ⟨kin_t z, by omega⟩
          · rw [if_neg q3] at q ⊢
            by_cases q4 : wh = 4
            · rw [if_pos q4]
              exact Inv_sR h (fun z => absurd z (by decide)) (fun z => absurd z (by decide)) (fun z => absurd z (by decide)) (fun z => absurd z (by decide))
            · rw [if_neg q4]
              exact Inv_sR h (fun z => absurd z (by decide)) (fun z => absurd z (by decide)) (fun z => absurd z (by decide)) (fun z => absurd z (by decide))
theorem clamp1b {x : Int32} (h0 : 0 ≤ x) (h6 : x < 8) : (x + 1).toNatClampNeg = x.toNatClampNeg + 1 := by
  obtain ⟨k, hk, rfl⟩ := nI_of (Int32.not_lt.mpr h0)
  have q : ¬ 8 ≤ k := fun q => absurd h6 (Int32.not_lt.mpr (nI_le (a := 8) q hk))
  rw [nI_1, nI_clamp hk, nI_clamp (by omega)]
theorem Inv_order {n d : Int32} (h : Inv B u) : Inv B (f_order u n d).2 := by
  unfold f_order
  by_cases q1 : kin n 1 500 = 0
  · rw [if_pos q1]; exact h
  · rw [if_neg q1]
    by_cases q2 : kin d 0 9 = 0
    · rw [if_pos q2]; exact h
    · rw [if_neg q2]
      by_cases q3 : u.1 25 < 8
      · rw [if_pos q3]
        obtain ⟨hT, hH, hS, ⟨⟨o1, o2⟩, o3, o4⟩⟩ := h
        have ec := clamp1b o1 q3
        have k1 := kin_t q1
        rw [show (1 : Int32).toInt = 1 from rfl] at k1
        have ox : ib (u.1 25) 0 7 := ⟨t_le.mp o1, by rw [t_lt, show (8 : Int32).toInt = 8 from rfl] at q3; omega⟩
        obtain ⟨ox1, ox2⟩ := ox
        have e1 : (u.1 25 + 1).toInt = (u.1 25).toInt + 1 := by rw [t_add (by rw [show (1 : Int32).toInt = 1 from rfl]; omega) (by rw [show (1 : Int32).toInt = 1 from rfl]; omega)]; rfl
        refine ⟨hT, hH, hS, ⟨?_, ?_⟩, o3, ?_⟩
        · show 0 ≤ u.1 25 + 1
          rw [t_le, e1, show (0 : Int32).toInt = 0 from rfl]; omega
        · show u.1 25 + 1 ≤ 8
          rw [t_le, e1, show (8 : Int32).toInt = 8 from rfl]; omega
        · intro j hj
          have hj2 : j < (u.1 25).toNatClampNeg + 1 := by rw [← ec]; exact hj
          show 0 ≤ (upd (u.2.2.1 26) (u.1 25).toNatClampNeg n j).toInt ∧ ((u.1 29).toInt ≤ (upd (u.2.2.1 27) (u.1 25).toNatClampNeg d j).toInt → upd (u.2.2.1 28) (u.1 25).toNatClampNeg 0 j = 0)
          unfold upd
          by_cases z : j = (u.1 25).toNatClampNeg
          · rw [if_pos z, if_pos z, if_pos z]
            exact ⟨by omega, fun _ => rfl⟩
          · rw [if_neg z, if_neg z, if_neg z]
            exact o4 j (by omega)
      · rw [if_neg q3]; exact h
/-- what a day's end leaves -/
theorem edL_b {fw fd : Nat → Int32} {nd : Int32} {x : kE} {T : Int} (hx : 0 ≤ x.2.2.2.1.toInt ∧ x.2.2.2.1.toInt ≤ T) (hT : T ≤ 5000) : ∀ {k : Nat}, (∀ j, j < k → 0 ≤ (fw j).toInt) → (0 ≤ (edL fw fd nd x k).2.2.2.1.toInt ∧ (edL fw fd nd x k).2.2.2.1.toInt ≤ T) ∧ ∀ j, ¬ fd j = nd → (edL fw fd nd x k).2.1 j = x.2.1 j
  | 0, _ => ⟨hx, fun _ _ => rfl⟩
  | k + 1, hw => by
    obtain ⟨⟨a1, a2⟩, b⟩ := edL_b (fw := fw) (fd := fd) (nd := nd) hx hT (k := k) (fun j hj => hw j (by omega))
    have hk := hw k (by omega)
    show (0 ≤ (edS fw fd nd k (edL fw fd nd x k)).2.2.2.1.toInt ∧ (edS fw fd nd k (edL fw fd nd x k)).2.2.2.1.toInt ≤ T) ∧ ∀ j, ¬ fd j = nd → (edS fw fd nd k (edL fw fd nd x k)).2.1 j = x.2.1 j
    generalize edL fw fd nd x k = y at a1 a2 b ⊢
    unfold edS
    by_cases q : fd k = nd
    · rw [if_pos q]
      refine ⟨?_, fun j hj => ?_⟩
      · show 0 ≤ (if y.2.2.2.1 < fw k then y.2.2.2.1 else y.2.2.2.1 - fw k).toInt ∧ (if y.2.2.2.1 < fw k then y.2.2.2.1 else y.2.2.2.1 - fw k).toInt ≤ T
        by_cases z : y.2.2.2.1 < fw k
        · rw [if_pos z]; exact ⟨a1, a2⟩
        · rw [if_neg z]
          rw [t_lt] at z
          rw [t_sub (by omega) (by omega)]
          omega
      · show upd y.2.1 k _ j = x.2.1 j
        unfold upd
        rw [if_neg (fun e => hj (by rw [e]; exact q))]
        exact b j hj
    · rw [if_neg q]
      exact ⟨⟨a1, a2⟩, b⟩
theorem Inv_deliver (h : Inv B u) : Inv B (f_deliver u).2 := by
  unfold f_deliver
  by_cases q1 : u.1 29 < 10
  · rw [if_pos q1]
    obtain ⟨hT, hH, ⟨s1, s2, s3⟩, ⟨o1, ⟨o2, o3⟩, o4⟩⟩ := h
    have hE := edL_b (fw := u.2.2.1 26) (fd := u.2.2.1 27) (nd := u.1 29) (x := (0, u.2.2.1 28, u.1 30, u.1 17, u.2.1 20)) (T := (u.2.2.1 10 3).toInt) s1 s2.2 (k := (u.1 25).toNatClampNeg) (fun j hj => (o4 j hj).1)
    rw [t_lt, show (10 : Int32).toInt = 10 from rfl] at q1
    have e1 : (u.1 29 + 1).toInt = (u.1 29).toInt + 1 := by rw [t_add (by rw [show (1 : Int32).toInt = 1 from rfl]; omega) (by rw [show (1 : Int32).toInt = 1 from rfl]; omega)]; rfl
    refine ⟨hT, hH, ⟨hE.1, s2, s3⟩, o1, ?_, ?_⟩
    · show ib (u.1 29 + 1) 0 10
      unfold ib
      rw [e1]
      omega
    · intro j hj
      refine ⟨(o4 j hj).1, ?_⟩
      show (u.1 29 + 1).toInt ≤ (u.2.2.1 27 j).toInt → (dlE u).2.1 j = 0
      intro z
      rw [e1] at z
      have hne : ¬ u.2.2.1 27 j = u.1 29 := fun e => by rw [e] at z; omega
      exact (hE.2 j hne).trans ((o4 j hj).2 (by omega))
  · rw [if_neg q1]; exact h
theorem Inv_cooler {k x1 x2 x3 x4 x5 lm : Int32} (h : Inv B u) : Inv B (f_cooler u k x1 x2 x3 x4 x5 lm).2 := by
  unfold f_cooler
  by_cases q1 : cooR k x1 x2 x3 x4 x5 lm = 0
  · rw [if_pos q1]; exact h
  · rw [if_neg q1]
    by_cases q2 : u.1 2 < 6
    · rw [if_pos q2]
      obtain ⟨⟨t1, t2, t3, t4, t5, t6, t7, t8, t9, t10, t11, t12, t13, t14, t15⟩, ⟨h7, h8, h9, h10, hC⟩, hS, hO⟩ := h
      have ec := clamp1 t1.1 q2
      have hk : ¬ kin k 0 2 = 0 := fun z => q1 (coo_a z)
      have hc : ¬ k = 0 → ¬ kcor x1 x2 x3 x4 x5 = 0 := fun z0 z => q1 (coo_b z0 z)
      have hl : k = 2 → ¬ kin lm 0 60 = 0 := fun z0 z => q1 (coo_c z0 z)
      have ox1 : 0 ≤ (u.1 2).toInt := t_le.mp t1.1
      have ox2 : (u.1 2).toInt < 6 := by rw [t_lt, show (6 : Int32).toInt = 6 from rfl] at q2; exact q2
      have e1 : (u.1 2 + 1).toInt = (u.1 2).toInt + 1 := by rw [t_add (by rw [show (1 : Int32).toInt = 1 from rfl]; omega) (by rw [show (1 : Int32).toInt = 1 from rfl]; omega)]; rfl
      have e0 : u.1 2 + 1 - 1 = u.1 2 := by
        rw [t_eq, t_sub (by rw [e1, show (1 : Int32).toInt = 1 from rfl]; omega) (by rw [e1, show (1 : Int32).toInt = 1 from rfl]; omega), e1, show (1 : Int32).toInt = 1 from rfl]
        omega
      refine ⟨⟨⟨?_, ?_⟩, ?_, t3, ?_, t5, t6, t7, t8, t9, t10, t11, t12, t13, t14, t15⟩, ⟨h7, h8, h9, h10, ?_⟩, hS, hO⟩
      · show 0 ≤ u.1 2 + 1
        rw [t_le, e1, show (0 : Int32).toInt = 0 from rfl]; omega
      · show u.1 2 + 1 ≤ 6
        rw [t_le, e1, show (6 : Int32).toInt = 6 from rfl]; omega
      · intro c hc2
        have hc3 : c < (u.1 2).toNatClampNeg + 1 := by rw [← ec]; exact hc2
        show upd (u.2.2.1 3) (u.1 2).toNatClampNeg k c = 0 ∨ upd (u.2.2.1 3) (u.1 2).toNatClampNeg k c = 1 ∨ upd (u.2.2.1 3) (u.1 2).toNatClampNeg k c = 2
        unfold upd
        by_cases z : c = (u.1 2).toNatClampNeg
        · rw [if_pos z]; exact k012 hk
        · rw [if_neg z]; exact t2 c (by omega)
      · show u.2.2.1 10 0 = -9 ∨ ¬ kin (u.2.2.1 10 0) 0 (u.1 2 + 1 - 1) = 0
        rw [e0]
        rcases t4 with z | z
        · exact Or.inl z
        · refine Or.inr (fun w => z (kin_0.mpr (fun y => kin_0.mp w ⟨y.1, ?_⟩)))
          have y2 := t_le.mp y.2
          rw [t_sub (by rw [show (1 : Int32).toInt = 1 from rfl]; omega) (by rw [show (1 : Int32).toInt = 1 from rfl]; omega), show (1 : Int32).toInt = 1 from rfl] at y2
          rw [t_le]
          omega
      · intro c hc2
        have hc3 : c < (u.1 2).toNatClampNeg + 1 := by rw [← ec]; exact hc2
        show ¬ upd (u.2.2.1 3) (u.1 2).toNatClampNeg k c = 0 → (∀ j, j < 5 → ib (up5 (u.2.2.1 4) (5 * (u.1 2).toNatClampNeg) x1 x2 x3 x4 x5 (5 * c + j)) 0 50) ∧ (upd (u.2.2.1 3) (u.1 2).toNatClampNeg k c = 2 → ib (upd (u.2.2.1 5) (u.1 2).toNatClampNeg lm c) 0 60)
        by_cases z : c = (u.1 2).toNatClampNeg
        · rw [z]
          rw [show upd (u.2.2.1 3) (u.1 2).toNatClampNeg k (u.1 2).toNatClampNeg = k from if_pos rfl, show upd (u.2.2.1 5) (u.1 2).toNatClampNeg lm (u.1 2).toNatClampNeg = lm from if_pos rfl]
          intro w
          have hcc := hc w
          have hcor : 0 ≤ x1 ∧ x1 ≤ x2 ∧ x2 ≤ x3 ∧ x3 ≤ x4 ∧ x4 ≤ x5 ∧ x5 ≤ 50 := Decidable.not_not.mp (fun y => hcc (kcor_0.mpr y))
          obtain ⟨c1, c2, c3, c4, c5, c6⟩ := hcor
          rw [t_le] at c1 c2 c3 c4 c5 c6
          rw [show (0 : Int32).toInt = 0 from rfl] at c1
          rw [show (50 : Int32).toInt = 50 from rfl] at c6
          refine ⟨fun j hj => ?_, fun w2 => kin_t (hl w2)⟩
          rw [up5_at (f' := fun _ => 0) (n' := 0) hj]
          unfold ib
          rcases (show j = 0 ∨ j = 1 ∨ j = 2 ∨ j = 3 ∨ j = 4 by omega) with rfl | rfl | rfl | rfl | rfl
          · rw [show up5 (fun _ => 0) 0 x1 x2 x3 x4 x5 (0 + 0) = x1 from rfl]; omega
          · rw [show up5 (fun _ => 0) 0 x1 x2 x3 x4 x5 (0 + 1) = x2 from rfl]; omega
          · rw [show up5 (fun _ => 0) 0 x1 x2 x3 x4 x5 (0 + 2) = x3 from rfl]; omega
          · rw [show up5 (fun _ => 0) 0 x1 x2 x3 x4 x5 (0 + 3) = x4 from rfl]; omega
          · rw [show up5 (fun _ => 0) 0 x1 x2 x3 x4 x5 (0 + 4) = x5 from rfl]; omega
        · rw [show upd (u.2.2.1 3) (u.1 2).toNatClampNeg k c = u.2.2.1 3 c from if_neg z, show upd (u.2.2.1 5) (u.1 2).toNatClampNeg lm c = u.2.2.1 5 c from if_neg z]
          intro w
          obtain ⟨w1, w2⟩ := hC c (by omega) w
          refine ⟨fun j hj => ?_, w2⟩
          rw [up5_lo (by omega)]
          exact w1 j hj
    · rw [if_neg q2]; exact h
/-! what the contracts ask for -/
theorem Inv_17 (h : Inv B u) : (u.1 17 + u.1 18).toInt64 = (u.1 17).toInt64 + (u.1 18).toInt64 := by
  obtain ⟨-, -, ⟨⟨s1, s2⟩, ⟨s3, s4⟩, s5, s6⟩, -⟩ := h
  rw [← Int64.toInt_inj, Int32.toInt_toInt64, Int64.toInt_add, Int32.toInt_toInt64, Int32.toInt_toInt64, t_add (by omega) (by omega)]
  exact (Int.bmod_eq_of_le (by omega) (by omega)).symm
theorem Inv_del (h : Inv B u) : ∃ no : Nat, u.1 25 = nI no ∧ no ≤ 8 ∧ u.1 29 ≤ 10 ∧ ∀ j : Nat, j < no → u.2.2.1 27 j = u.1 29 → u.2.2.1 28 j = 0 := by
  obtain ⟨-, -, -, ⟨⟨o1, o2⟩, ⟨o3, o5⟩, o4⟩⟩ := h
  obtain ⟨k, hk, e⟩ := nI_of (Int32.not_lt.mpr o1)
  rw [e] at o2 o4
  rw [nI_clamp hk] at o4
  refine ⟨k, e, (nI_leI hk (by decide)).mp (show nI k ≤ nI 8 from o2), ?_, fun j hj q => (o4 j hj).2 (by rw [q]; exact Int.le_refl _)⟩
  rw [t_le, show (10 : Int32).toInt = 10 from rfl]
  exact o5
end
