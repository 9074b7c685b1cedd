theorem kIx_2 {x : Int32} (h : ¬ kin x 0 1 = 0) : kIx x x.toNatClampNeg 2 := by
  obtain ⟨a1, a2⟩ := kin_n.mp h
  exact kIx_le a1 (Int32.lt_of_le_of_lt a2 (by decide)) (by decide)
theorem kin1 {x : Int32} (hx : ¬ kin x 0 1 = 0) : x = 0 ∨ x = 1 := by
  obtain ⟨a1, a2⟩ := kin_n.mp hx
  obtain ⟨k, hk, rfl⟩ := nI_of (Int32.not_lt.mpr a1)
  have h3 : k ≤ 1 := (nI_leI hk (by decide)).mp (show nI k ≤ nI 1 from a2)
  rcases (show k = 0 ∨ k = 1 by omega) with rfl | rfl
  · exact Or.inl rfl
  · exact Or.inr rfl
theorem kin2 {x : Int32} (hx : ¬ kin x 0 2 = 0) : x = 0 ∨ x = 1 ∨ x = 2 := by
  obtain ⟨a1, a2⟩ := kin_n.mp hx
  obtain ⟨k, hk, rfl⟩ := nI_of (Int32.not_lt.mpr a1)
  have h3 : k ≤ 2 := (nI_leI hk (by decide)).mp (show nI k ≤ nI 2 from a2)
  rcases (show k = 0 ∨ k = 1 ∨ k = 2 by omega) with rfl | rfl | rfl
  · exact Or.inl rfl
  · exact Or.inr (Or.inl rfl)
  · exact Or.inr (Or.inr rfl)
section
variable {i : Nat → Int32} {l_ : Nat → Int64} {a : Nat → Nat → Int32} {h : Nat → Int64} {x y : Int32}
theorem f_ads_1 (hx : kin x 0 1 = 0) : f_adsorber (i, l_, a, h) x y = -1 := by
  have e : ∀ k : Int32, 0 ≤ k → k ≤ 1 → ¬ x = k := fun k h1 h2 q => kin_0.mp hx (q ▸ ⟨h1, h2⟩)
  simp only [f_adsorber, adR, e 0 (by decide) (by decide), e 1 (by decide) (by decide), if_false]
theorem f_ads_2 (hy : kin y 0 2 = 0) : f_adsorber (i, l_, a, h) x y = -1 := by
  have e : ∀ k : Int32, 0 ≤ k → k ≤ 2 → ¬ y = k := fun k h1 h2 q => kin_0.mp hy (q ▸ ⟨h1, h2⟩)
  simp only [f_adsorber, adR, e 0 (by decide) (by decide), e 1 (by decide) (by decide), e 2 (by decide) (by decide), if_false, ite_self]
theorem f_ads_3 (hx : ¬ kin x 0 1 = 0) (hy : ¬ kin y 0 2 = 0) : f_adsorber (i, l_, a, h) x y = if y = 0 then a 22 x.toNatClampNeg else if y = 1 then a 23 x.toNatClampNeg else a 24 x.toNatClampNeg := by
  rcases kin1 hx with rfl | rfl <;> rcases kin2 hy with rfl | rfl | rfl <;> rfl
theorem kab {t : Int32} (ht : 0 ≤ t ∧ t ≤ 8) : (¬ kin x 0 (t - 1) = 0) ↔ (0 ≤ x ∧ x < t) := by
  obtain ⟨k, hk, rfl⟩ := nI_of (Int32.not_lt.mpr ht.1)
  have e2 : k ≤ 8 := (nI_leI hk (by decide)).mp (show nI k ≤ nI 8 from ht.2)
  rw [kin_n]
  rcases Nat.eq_zero_or_pos k with rfl | e1
  · constructor
    · intro q
      exact absurd (show (0 : Int32) ≤ -1 from Int32.le_trans q.1 q.2) (by decide)
    · intro q
      exact absurd (Int32.lt_of_le_of_lt q.1 (show x < 0 from q.2)) (by decide)
  · have e : nI k - 1 = nI (k - 1) := pk_sub (b := 1) e1
    rw [e]
    constructor
    · intro q
      exact ⟨q.1, Int32.lt_of_le_of_lt q.2 (nI_lt (by omega) (by omega))⟩
    · intro q
      obtain ⟨j, hj, rfl⟩ := nI_of (Int32.not_lt.mpr q.1)
      have := (nI_ltI hj hk).mp q.2
      exact ⟨q.1, nI_le (by omega) (by omega)⟩
theorem kIx_ab (h1 : ¬ kin x 0 (i 25 - 1) = 0) (ht : 0 ≤ i 25 ∧ i 25 ≤ 8) : kIx x x.toNatClampNeg 8 := by
  obtain ⟨a1, a2⟩ := (kab ht).mp h1
  exact kIx_le a1 (show x < nI 8 from Int32.lt_of_lt_of_le a2 ht.2) (by decide)
theorem f_ab_1 (ht : 0 ≤ i 25 ∧ i 25 ≤ 8) (hx : kin x 0 (i 25 - 1) = 0) : f_about (i, l_, a, h) x y = -1 := by
  have e : ¬ (0 ≤ x ∧ x < i 25) := fun q => (kab ht).mpr q hx
  unfold f_about orR
  by_cases h1 : x < 0
  · rw [if_pos h1]
  · rw [if_neg h1, if_pos (Int32.not_lt.mp (fun q => e ⟨Int32.not_lt.mp h1, q⟩))]
theorem f_ab_2 (hy : kin y 0 2 = 0) : f_about (i, l_, a, h) x y = -1 := by
  have e : ∀ k : Int32, 0 ≤ k → k ≤ 2 → ¬ y = k := fun k h1 h2 q => kin_0.mp hy (q ▸ ⟨h1, h2⟩)
  simp only [f_about, orR, e 0 (by decide) (by decide), e 1 (by decide) (by decide), e 2 (by decide) (by decide), if_false, ite_self]
theorem f_ab_3 (ht : 0 ≤ i 25 ∧ i 25 ≤ 8) (hx : ¬ kin x 0 (i 25 - 1) = 0) (hy : ¬ kin y 0 2 = 0) : f_about (i, l_, a, h) x y = if y = 0 then a 26 x.toNatClampNeg else if y = 1 then a 27 x.toNatClampNeg else a 28 x.toNatClampNeg := by
  obtain ⟨a1, a2⟩ := (kab ht).mp hx
  unfold f_about orR
  rw [if_neg (Int32.not_lt.mpr a1), if_neg (Int32.not_le.mpr a2)]
  rcases kin2 hy with rfl | rfl | rfl <;> rfl
end
theorem kfL_0 {f : Nat → Int64} : kfL f 0 = f := by funext j; simp [kfL]
theorem kfL_s {f : Nat → Int64} {i : Nat} : vp_updL (kfL f i) i 0 = kfL f (i + 1) := by
  funext j
  by_cases h : j = i
  · subst h; simp [vp_updL, kfL]
  · simp only [vp_updL, kfL, h, if_false]
    by_cases h2 : j < i
    · rw [if_pos h2, if_pos (by omega)]
    · rw [if_neg h2, if_neg (by omega)]
def s_fresh (u : kS) : kS := (u.1, u.2.1, va_up (va_up u.2.2.1 7 (kfill 300 (u.2.2.1 7) 8)) 8 (kfill 300 (u.2.2.1 8) 8), kfL u.2.2.2 4)
/-- one adsorber goes on, as the reference does it -/
def go_SE (u : kS) (z o : Nat) : kS := (u.1, u.2.1, va_up (va_up (va_up u.2.2.1 22 (upd (u.2.2.1 22) z (stH (u.2.2.1 22 z) (u.2.2.1 24 z) (u.2.2.1 10 5) (u.2.2.1 22 o)))) 23 (upd (u.2.2.1 23) z (goL (u.2.2.1 22 z) (u.2.2.1 23 z) (u.2.2.1 24 z) (u.2.2.1 10 5)))) 24 (upd (u.2.2.1 24) z (stT (u.2.2.1 22 z) (u.2.2.1 24 z) (u.2.2.1 10 5) (u.2.2.1 22 o))), u.2.2.2)
def go_S0 (u : kS) : kS := go_SE u 0 1
def go_S1 (u : kS) : kS := go_SE u 1 0
section
variable (ho lo ti ht oh : Int32)
theorem st_3 {ho : Int32} (hh : ho = 0 ∨ ho = 1 ∨ ho = 2 ∨ ho = 3) (h2 : 2 ≤ ho) (hn : ¬ ho = 2) : ho = 3 := by
  rcases hh with rfl | rfl | rfl | rfl
  · exact absurd h2 (by decide)
  · exact absurd h2 (by decide)
  · exact absurd rfl hn
  · rfl
theorem st_a (hh : ho = 0 ∨ ho = 1 ∨ ho = 2 ∨ ho = 3) (h2 : ¬ 2 ≤ ho) : stH ho ti ht oh = ho ∧ goL ho lo ti ht = lo ∧ stT ho ti ht oh = ti := by
  rcases hh with rfl | rfl | rfl | rfl
  · simp [stH, stT, goR, goH, goL, goT]
  · simp [stH, stT, goR, goH, goL, goT]
  · exact absurd (by decide) h2
  · exact absurd (by decide) h2
theorem st_b (hh : ho = 0 ∨ ho = 1 ∨ ho = 2 ∨ ho = 3) (h2 : 2 ≤ ho) (hl : ¬ ht ≤ ti + 1) : stH ho ti ht oh = ho ∧ goL ho lo ti ht = lo ∧ stT ho ti ht oh = ti + 1 := by
  have hl := Int32.not_le.mp hl
  rcases hh with rfl | rfl | rfl | rfl
  · exact absurd h2 (by decide)
  · exact absurd h2 (by decide)
  · simp [stH, stT, goR, goH, goL, goT, hl]
  · simp [stH, stT, goR, goH, goL, goT, hl]
theorem st_c (h2 : ho = 2) (hl : ht ≤ ti + 1) : stH ho ti ht oh = 3 ∧ goL ho lo ti ht = lo ∧ stT ho ti ht oh = 0 := by
  subst h2
  have hl := Int32.not_lt.mpr hl
  simp [stH, stT, goR, goH, goL, goT, hl]
theorem st_d (h2 : ho = 3) (hl : ht ≤ ti + 1) (h1 : oh = 1) : stH ho ti ht oh = 0 ∧ goL ho lo ti ht = 0 ∧ stT ho ti ht oh = 0 := by
  subst h2 h1
  have hl := Int32.not_lt.mpr hl
  simp [stH, stT, goR, goH, goL, goT, anyR, hl]
theorem st_e (h2 : ho = 3) (hl : ht ≤ ti + 1) (h1 : ¬ oh = 1) : stH ho ti ht oh = 1 ∧ goL ho lo ti ht = 0 ∧ stT ho ti ht oh = 0 := by
  subst h2
  have hl := Int32.not_lt.mpr hl
  simp [stH, stT, goR, goH, goL, goT, anyR, hl, h1]
end
theorem fa_upd_twice (f : Nat → Int32) (i : Nat) (x y : Int32) : upd (upd f i x) i y = upd f i y := by
  funext k
  by_cases h : k = i <;> simp [upd, h]
theorem fa_upd_self (f : Nat → Int32) (i : Nat) : upd f i (f i) = f := by
  funext k
  by_cases h : k = i
  · subst h; simp [upd]
  · simp [upd, h]
theorem fa_upd_same {f : Nat → Int32} {i : Nat} {x : Int32} (h : f i = x) : upd f i x = f := by
  funext k
  by_cases hk : k = i
  · subst hk; simp [upd, h]
  · simp [upd, hk]
set_option maxRecDepth 100000 in
set_option maxHeartbeats 4000000 in
theorem r_trip (l : Launch) (g : kG) (h0 : Nat) (ad : Nat → Nat) (i : Nat → Int32) (l_ : Nat → Int64) (a : Nat → Nat → Int32) (h : Nat → Int64) : kM l yX10_trip cX10_trip 1 (some .int) (rmK 1 0 0 20) g [.ref h0] (wR g h0 ad (i, l_, a, h)) (kDi g (f_trip (i, l_, a, h)).1 (wR g h0 ad (f_trip (i, l_, a, h)).2)) := by
  refine k_enter (by decide) (Nat.le_of_ble_eq_true rfl) ?_
  intro p e s m args below meth c A F
  refine k_aload_n (n := 1) F dX10_trip_0 rfl 0 rfl rfl ?_
  refine k_iconst (n := 2) (v := 0) F dX10_trip_1 rfl rfl ?_
  refine k_rput_0 (n := 5) F dX10_trip_2 rfl ?_
  refine k_aload_n (n := 6) F dX10_trip_5 rfl 0 rfl rfl ?_
  refine k_rget_12 (n := 9) (v := i 12) F rfl dX10_trip_6 rfl ?_
  refine k_if_eq (n := 12) (tgt := 20) F dX10_trip_9 (by decide) rfl (fun hc1 => ?_) (fun hc1 => ?_)
  · refine k_bipush (n := 22) (v := -2) F dX10_trip_20 rfl rfl ?_
    exact k_iret F (by first | (simp only [f_trip, s_trips, s_trip, hc1, if_true, if_false, not_true_eq_false, not_false_eq_true]; done) | (simp only [f_trip, s_trips, s_trip, hc1, if_true, if_false, not_true_eq_false, not_false_eq_true, upd, va_up, vp_updL, reduceIte, Nat.reduceEqDiff]; done) | (simp [f_trip, s_trips, s_trip, hc1]; done) | (simp_all [f_trip, s_trips, s_trip, hc1]; done)) (by first | (simp only [f_trip, s_trips, s_trip, hc1, if_true, if_false, not_true_eq_false, not_false_eq_true]; done) | (simp only [f_trip, s_trips, s_trip, hc1, if_true, if_false, not_true_eq_false, not_false_eq_true, wR, upd, va_up, vp_updL, reduceIte, Nat.reduceEqDiff]; done) | (simp [f_trip, s_trips, s_trip, hc1, wR, upd, va_up, vp_updL]; done) | (simp_all [f_trip, s_trips, s_trip, hc1, wR, upd, va_up, vp_updL]; done)) dX10_trip_22
  · refine k_aload_n (n := 13) F dX10_trip_12 rfl 0 rfl rfl ?_
    refine k_rget_12 (n := 16) (v := i 12) F rfl dX10_trip_13 rfl ?_
    refine k_iconst (n := 17) (v := 4) F dX10_trip_16 rfl rfl ?_
    refine k_icmp_ne (n := 20) (tgt := 23) F dX10_trip_17 (by decide) rfl (fun hc2 => ?_) (fun hc2 => ?_)
    · refine k_aload_n (n := 24) F dX10_trip_23 rfl 0 rfl rfl ?_
      refine k_cvA (n := 27) (w0 := wR g h0 ad (s_trips (i, l_, a, h))) (is := [0, 1, 2, 3, 4, 5, 6, 7, 8, 9, 10, 11, 12, 13, 14]) F (k_rV (k := 0) (b := h0) (As := []) (rest := []) F (r_trips l g h0 ad i l_ a h) [0, 1, 2, 3, 4, 5, 6, 7, 8, 9, 10, 11, 12, 13, 14] rfl rfl 0 rfl rfl mw_744 mw_741 mw_743 mw_s21 mw_9 (by decide) ⟨by decide, by decide⟩ rfl (Nat.le_of_ble_eq_true rfl) ⟨by decide, by decide⟩ dX10_trip_24) rfl rfl ?_
      refine k_aload_n (n := 28) F dX10_trip_27 rfl 0 rfl rfl ?_
      refine k_rget_12 (n := 31) (v := (s_trips (i, l_, a, h)).1 12) F rfl dX10_trip_28 rfl ?_
      exact k_iret F (by first | (simp only [f_trip, s_trips, s_trip, hc1, hc2, if_true, if_false, not_true_eq_false, not_false_eq_true]; done) | (simp only [f_trip, s_trips, s_trip, hc1, hc2, if_true, if_false, not_true_eq_false, not_false_eq_true, upd, va_up, vp_updL, reduceIte, Nat.reduceEqDiff]; done) | (simp [f_trip, s_trips, s_trip, hc1, hc2]; done) | (simp_all [f_trip, s_trips, s_trip, hc1, hc2]; done)) (by first | (simp only [f_trip, s_trips, s_trip, hc1, hc2, if_true, if_false, not_true_eq_false, not_false_eq_true]; done) | (simp only [f_trip, s_trips, s_trip, hc1, hc2, if_true, if_false, not_true_eq_false, not_false_eq_true, wR, upd, va_up, vp_updL, reduceIte, Nat.reduceEqDiff]; done) | (simp [f_trip, s_trips, s_trip, hc1, hc2, wR, upd, va_up, vp_updL]; done) | (simp_all [f_trip, s_trips, s_trip, hc1, hc2, wR, upd, va_up, vp_updL]; done)) dX10_trip_31
    · refine k_bipush (n := 22) (v := -2) F dX10_trip_20 rfl rfl ?_
      exact k_iret F (by first | (simp only [f_trip, s_trips, s_trip, hc1, hc2, if_true, if_false, not_true_eq_false, not_false_eq_true]; done) | (simp only [f_trip, s_trips, s_trip, hc1, hc2, if_true, if_false, not_true_eq_false, not_false_eq_true, upd, va_up, vp_updL, reduceIte, Nat.reduceEqDiff]; done) | (simp [f_trip, s_trips, s_trip, hc1, hc2]; done) | (simp_all [f_trip, s_trips, s_trip, hc1, hc2]; done)) (by first | (simp only [f_trip, s_trips, s_trip, hc1, hc2, if_true, if_false, not_true_eq_false, not_false_eq_true]; done) | (simp only [f_trip, s_trips, s_trip, hc1, hc2, if_true, if_false, not_true_eq_false, not_false_eq_true, wR, upd, va_up, vp_updL, reduceIte, Nat.reduceEqDiff]; done) | (simp [f_trip, s_trips, s_trip, hc1, hc2, wR, upd, va_up, vp_updL]; done) | (simp_all [f_trip, s_trips, s_trip, hc1, hc2, wR, upd, va_up, vp_updL]; done)) dX10_trip_22
set_option maxRecDepth 100000 in
set_option maxHeartbeats 4000000 in
theorem r_adsorber (l : Launch) (g : kG) (h0 : Nat) (ad : Nat → Nat) (i : Nat → Int32) (l_ : Nat → Int64) (a : Nat → Nat → Int32) (h : Nat → Int64) (x y : Int32) : kM l yX10_adsorber cX10_adsorber 3 (some .int) (rmK 1 0 0 22) g [.ref h0, .int x, .int y] (wR g h0 ad (i, l_, a, h)) (kDi g (f_adsorber (i, l_, a, h) x y) (wR g h0 ad (i, l_, a, h))) := by
  refine k_enter (by decide) (Nat.le_of_ble_eq_true rfl) ?_
  intro p e s m args below meth c A F
  refine k_aload_n (n := 1) F dX10_adsorber_0 rfl 0 rfl rfl ?_
  refine k_iconst (n := 2) (v := 0) F dX10_adsorber_1 rfl rfl ?_
  refine k_rput_0 (n := 5) F dX10_adsorber_2 rfl ?_
  refine k_iload_n (n := 6) F dX10_adsorber_5 rfl 1 rfl rfl ?_
  refine k_iconst (n := 7) (v := 0) F dX10_adsorber_6 rfl rfl ?_
  refine k_iconst (n := 8) (v := 1) F dX10_adsorber_7 rfl rfl ?_
  refine k_ciR (n := 11) F (k_rS (k := 3) (As := [.int x, .int 0, .int 1]) (rest := []) F (c_in l g x 0 1) [] rfl rfl mw_693 mw_691 mw_692 mw_9 (by decide) ⟨by decide, by decide⟩ rfl (Nat.le_of_ble_eq_true rfl) ⟨by decide, by decide⟩ dX10_adsorber_8) [] rfl rfl ?_
  refine k_if_eq (n := 14) (tgt := 23) F dX10_adsorber_11 (by decide) rfl (fun hc1 => ?_) (fun hc1 => ?_)
  · refine k_iconst (n := 24) (v := -1) F dX10_adsorber_23 rfl rfl ?_
    exact k_iret F (by rw [f_ads_1 hc1]) rfl dX10_adsorber_24
  · refine k_iload_n (n := 15) F dX10_adsorber_14 rfl 2 rfl rfl ?_
    refine k_iconst (n := 16) (v := 0) F dX10_adsorber_15 rfl rfl ?_
    refine k_iconst (n := 17) (v := 2) F dX10_adsorber_16 rfl rfl ?_
    refine k_ciR (n := 20) F (k_rS (k := 3) (As := [.int y, .int 0, .int 2]) (rest := []) F (c_in l g y 0 2) [] rfl rfl mw_693 mw_691 mw_692 mw_9 (by decide) ⟨by decide, by decide⟩ rfl (Nat.le_of_ble_eq_true rfl) ⟨by decide, by decide⟩ dX10_adsorber_17) [] rfl rfl ?_
    refine k_if_ne (n := 23) (tgt := 25) F dX10_adsorber_20 (by decide) rfl (fun hc2 => ?_) (fun hc2 => ?_)
    · refine k_iload_n (n := 26) F dX10_adsorber_25 rfl 2 rfl rfl ?_
      refine k_if_ne (n := 29) (tgt := 38) F dX10_adsorber_26 (by decide) rfl (fun hc3 => ?_) (fun hc3 => ?_)
      · refine k_iload_n (n := 39) F dX10_adsorber_38 rfl 2 rfl rfl ?_
        refine k_iconst (n := 40) (v := 1) F dX10_adsorber_39 rfl rfl ?_
        refine k_icmp_ne (n := 43) (tgt := 52) F dX10_adsorber_40 (by decide) rfl (fun hc4 => ?_) (fun hc4 => ?_)
        · refine k_aload_n (n := 53) F dX10_adsorber_52 rfl 0 rfl rfl ?_
          refine k_rget_24 (n := 56) F dX10_adsorber_53 rfl ?_
          refine k_iload_n (n := 57) F dX10_adsorber_56 rfl 1 rfl rfl ?_
          refine k_rald_24 (n := 58) (N := x.toNatClampNeg) (f := a 24) F rfl (kIx_2 hc1) dX10_adsorber_57 rfl ?_
          exact k_iret F (by rw [f_ads_3 hc1 hc2]; simp [hc3, hc4]) rfl dX10_adsorber_58
        · refine k_aload_n (n := 44) F dX10_adsorber_43 rfl 0 rfl rfl ?_
          refine k_rget_23 (n := 47) F dX10_adsorber_44 rfl ?_
          refine k_iload_n (n := 48) F dX10_adsorber_47 rfl 1 rfl rfl ?_
          refine k_rald_23 (n := 49) (N := x.toNatClampNeg) (f := a 23) F rfl (kIx_2 hc1) dX10_adsorber_48 rfl ?_
          refine k_goto (tgt := 58) F dX10_adsorber_49 (by decide) ?_
          exact k_iret F (by rw [f_ads_3 hc1 hc2]; simp [hc3, hc4]) rfl dX10_adsorber_58
      · refine k_aload_n (n := 30) F dX10_adsorber_29 rfl 0 rfl rfl ?_
        refine k_rget_22 (n := 33) F dX10_adsorber_30 rfl ?_
        refine k_iload_n (n := 34) F dX10_adsorber_33 rfl 1 rfl rfl ?_
        refine k_rald_22 (n := 35) (N := x.toNatClampNeg) (f := a 22) F rfl (kIx_2 hc1) dX10_adsorber_34 rfl ?_
        refine k_goto (tgt := 58) F dX10_adsorber_35 (by decide) ?_
        exact k_iret F (by rw [f_ads_3 hc1 hc2]; simp [hc3]) rfl dX10_adsorber_58
    · refine k_iconst (n := 24) (v := -1) F dX10_adsorber_23 rfl rfl ?_
      exact k_iret F (by rw [f_ads_2 hc2]) rfl dX10_adsorber_24
set_option maxRecDepth 100000 in
set_option maxHeartbeats 4000000 in
theorem r_about (l : Launch) (g : kG) (h0 : Nat) (ad : Nat → Nat) (i : Nat → Int32) (l_ : Nat → Int64) (a : Nat → Nat → Int32) (h : Nat → Int64) (x y : Int32) (h25 : 0 ≤ i 25 ∧ i 25 ≤ 8) : kM l yX10_about cX10_about 3 (some .int) (rmK 1 0 0 22) g [.ref h0, .int x, .int y] (wR g h0 ad (i, l_, a, h)) (kDi g (f_about (i, l_, a, h) x y) (wR g h0 ad (i, l_, a, h))) := by
  refine k_enter (by decide) (Nat.le_of_ble_eq_true rfl) ?_
  intro p e s m args below meth c A F
  refine k_aload_n (n := 1) F dX10_about_0 rfl 0 rfl rfl ?_
  refine k_iconst (n := 2) (v := 0) F dX10_about_1 rfl rfl ?_
  refine k_rput_0 (n := 5) F dX10_about_2 rfl ?_
  refine k_iload_n (n := 6) F dX10_about_5 rfl 1 rfl rfl ?_
  refine k_iconst (n := 7) (v := 0) F dX10_about_6 rfl rfl ?_
  refine k_aload_n (n := 8) F dX10_about_7 rfl 0 rfl rfl ?_
  refine k_rget_25 (n := 11) (v := i 25) F rfl dX10_about_8 rfl ?_
  refine k_iconst (n := 12) (v := 1) F dX10_about_11 rfl rfl ?_
  refine k_isub (n := 13) F dX10_about_12 rfl ?_
  refine k_ciR (n := 16) F (k_rS (k := 3) (As := [.int x, .int 0, .int ((i 25) - 1)]) (rest := []) F (c_in l g x 0 ((i 25) - 1)) [] rfl rfl mw_693 mw_691 mw_692 mw_9 (by decide) ⟨by decide, by decide⟩ rfl (Nat.le_of_ble_eq_true rfl) ⟨by decide, by decide⟩ dX10_about_13) [] rfl rfl ?_
  refine k_if_eq (n := 19) (tgt := 28) F dX10_about_16 (by decide) rfl (fun hc1 => ?_) (fun hc1 => ?_)
  · refine k_iconst (n := 29) (v := -1) F dX10_about_28 rfl rfl ?_
    exact k_iret F (by rw [f_ab_1 h25 hc1]) rfl dX10_about_29
  · refine k_iload_n (n := 20) F dX10_about_19 rfl 2 rfl rfl ?_
    refine k_iconst (n := 21) (v := 0) F dX10_about_20 rfl rfl ?_
    refine k_iconst (n := 22) (v := 2) F dX10_about_21 rfl rfl ?_
    refine k_ciR (n := 25) F (k_rS (k := 3) (As := [.int y, .int 0, .int 2]) (rest := []) F (c_in l g y 0 2) [] rfl rfl mw_693 mw_691 mw_692 mw_9 (by decide) ⟨by decide, by decide⟩ rfl (Nat.le_of_ble_eq_true rfl) ⟨by decide, by decide⟩ dX10_about_22) [] rfl rfl ?_
    refine k_if_ne (n := 28) (tgt := 30) F dX10_about_25 (by decide) rfl (fun hc2 => ?_) (fun hc2 => ?_)
    · refine k_iload_n (n := 31) F dX10_about_30 rfl 2 rfl rfl ?_
      refine k_if_ne (n := 34) (tgt := 43) F dX10_about_31 (by decide) rfl (fun hc3 => ?_) (fun hc3 => ?_)
      · refine k_iload_n (n := 44) F dX10_about_43 rfl 2 rfl rfl ?_
        refine k_iconst (n := 45) (v := 1) F dX10_about_44 rfl rfl ?_
        refine k_icmp_ne (n := 48) (tgt := 57) F dX10_about_45 (by decide) rfl (fun hc4 => ?_) (fun hc4 => ?_)
        · refine k_aload_n (n := 58) F dX10_about_57 rfl 0 rfl rfl ?_
          refine k_rget_28 (n := 61) F dX10_about_58 rfl ?_
          refine k_iload_n (n := 62) F dX10_about_61 rfl 1 rfl rfl ?_
          refine k_rald_28 (n := 63) (N := x.toNatClampNeg) (f := a 28) F rfl (kIx_ab hc1 h25) dX10_about_62 rfl ?_
          exact k_iret F (by rw [f_ab_3 h25 hc1 hc2]; simp [hc3, hc4]) rfl dX10_about_63
        · refine k_aload_n (n := 49) F dX10_about_48 rfl 0 rfl rfl ?_
          refine k_rget_27 (n := 52) F dX10_about_49 rfl ?_
          refine k_iload_n (n := 53) F dX10_about_52 rfl 1 rfl rfl ?_
          refine k_rald_27 (n := 54) (N := x.toNatClampNeg) (f := a 27) F rfl (kIx_ab hc1 h25) dX10_about_53 rfl ?_
          refine k_goto (tgt := 63) F dX10_about_54 (by decide) ?_
          exact k_iret F (by rw [f_ab_3 h25 hc1 hc2]; simp [hc3, hc4]) rfl dX10_about_63
      · refine k_aload_n (n := 35) F dX10_about_34 rfl 0 rfl rfl ?_
        refine k_rget_26 (n := 38) F dX10_about_35 rfl ?_
        refine k_iload_n (n := 39) F dX10_about_38 rfl 1 rfl rfl ?_
        refine k_rald_26 (n := 40) (N := x.toNatClampNeg) (f := a 26) F rfl (kIx_ab hc1 h25) dX10_about_39 rfl ?_
        refine k_goto (tgt := 63) F dX10_about_40 (by decide) ?_
        exact k_iret F (by rw [f_ab_3 h25 hc1 hc2]; simp [hc3]) rfl dX10_about_63
    · refine k_iconst (n := 29) (v := -1) F dX10_about_28 rfl rfl ?_
      exact k_iret F (by rw [f_ab_2 hc2]) rfl dX10_about_29
set_option maxRecDepth 100000 in
set_option maxHeartbeats 4000000 in
theorem r_fresh (l : Launch) (g : kG) (h0 : Nat) (ad : Nat → Nat) (i : Nat → Int32) (l_ : Nat → Int64) (a : Nat → Nat → Int32) (h : Nat → Int64) : kM l yX10_fresh cX10_fresh 2 none (rmK 0 0 0 0) g [.ref h0] (wR g h0 ad (i, l_, a, h)) (kDv g (wR g h0 ad (s_fresh (i, l_, a, h)))) := by
  refine k_enter (by decide) (Nat.le_of_ble_eq_true rfl) ?_
  intro p e s m args below meth c A F
  have loop2 : ∀ (k j : Nat), j ≤ 4 → 5 ≤ j + k → KW p l e ((rmK 0 0 0 0)) s m args below meth c (MQ below ((kDv g (wR g h0 ad (s_fresh (i, l_, a, h)))) A) args s ((rmK 0 0 0 0)).cells ((rmK 0 0 0 0)).slots A) g A 2 (wR g h0 ad (i, l_, va_up (va_up a 7 (kfill 300 (a 7) 8)) 8 (kfill 300 (a 8) 8), kfL h j)) 0 0 34 [(1, .int (nI j)), (0, .ref h0)] [] := by
    intro k
    induction k with
    | zero =>
      intro j h1 h2
      exact absurd h2 (by omega)
    | succ k ih =>
      intro j h1 h2
      refine k_iload_n (n := 35) F dX10_fresh_34 rfl 0 rfl rfl ?_
      refine k_iconst (n := 36) (v := 4) F dX10_fresh_35 rfl rfl ?_
      refine k_icmp_ge (n := 39) (tgt := 52) F dX10_fresh_36 (by decide) rfl (fun hc101 => ?_) (fun hc101 => ?_)
      · have hj9 : j = 4 := by have h9 : nI 4 ≤ nI j := hc101; rw [nI_leI (by omega) (by omega)] at h9; omega
        subst hj9
        exact k_vret F rfl dX10_fresh_52
      · refine k_aload_n (n := 40) F dX10_fresh_39 rfl 1 rfl rfl ?_
        refine k_rget_11 (n := 43) F dX10_fresh_40 rfl ?_
        refine k_iload_n (n := 44) F dX10_fresh_43 rfl 0 rfl rfl ?_
        refine k_lconst (n := 45) (v := 0) F dX10_fresh_44 rfl rfl ?_
        refine k_rast_11 (n := 46) (N := j) (f := kfL h j) (u' := (i, l_, va_up (va_up a 7 (kfill 300 (a 7) 8)) 8 (kfill 300 (a 8) 8), vp_updL (kfL h j) j 0)) F rfl (kIx_nI (by have h9 : ¬ nI 4 ≤ nI j := hc101; rw [nI_leI (by omega) (by omega)] at h9; omega) (by decide)) rfl dX10_fresh_45 rfl ?_
        refine k_iinc (n := 49) (j := 0) (v := nI (j + 1)) (lv' := [(1, .int (nI (j + 1))), (0, .ref h0)]) F dX10_fresh_46 rfl (nI_1 j) (by decide) rfl rfl ?_
        refine k_goto (tgt := 34) F dX10_fresh_49 (by decide) ?_
        have hj9 : j < 4 := by have h9 : ¬ nI 4 ≤ nI j := hc101; rw [nI_leI (by omega) (by omega)] at h9; omega
        refine k_lv (lv' := [(1, .int (nI (j + 1))), (0, .ref h0)]) [0, 1] rfl ?_
        refine k_world (ws' := wR g h0 ad (i, l_, va_up (va_up a 7 (kfill 300 (a 7) 8)) 8 (kfill 300 (a 8) 8), kfL h (j + 1))) (by rw [kfL_s]) ?_
        exact ih (j + 1) (by omega) (by omega)
  have loop1 : ∀ (k j : Nat), j ≤ 8 → 9 ≤ j + k → KW p l e ((rmK 0 0 0 0)) s m args below meth c (MQ below ((kDv g (wR g h0 ad (s_fresh (i, l_, a, h)))) A) args s ((rmK 0 0 0 0)).cells ((rmK 0 0 0 0)).slots A) g A 2 (wR g h0 ad (i, l_, va_up (va_up a 7 (kfill 300 (a 7) j)) 8 (kfill 300 (a 8) j), h)) 0 0 2 [(1, .int (nI j)), (0, .ref h0)] [] := by
    intro k
    induction k with
    | zero =>
      intro j h1 h2
      exact absurd h2 (by omega)
    | succ k ih =>
      intro j h1 h2
      refine k_iload_n (n := 3) F dX10_fresh_2 rfl 0 rfl rfl ?_
      refine k_bipush (n := 5) (v := 8) F dX10_fresh_3 rfl rfl ?_
      refine k_icmp_ge (n := 8) (tgt := 32) F dX10_fresh_5 (by decide) rfl (fun hc201 => ?_) (fun hc201 => ?_)
      · refine k_iconst (n := 33) (v := 0) F dX10_fresh_32 rfl rfl ?_
        refine k_istore_n (n := 34) (lv' := [(1, .int 0), (0, .ref h0)]) F dX10_fresh_33 rfl (by decide) rfl rfl ?_
        have hj9 : j = 8 := by have h9 : nI 8 ≤ nI j := hc201; rw [nI_leI (by omega) (by omega)] at h9; omega
        subst hj9
        refine k_lv (lv' := [(1, .int (nI 0)), (0, .ref h0)]) [0, 1] rfl ?_
        refine k_world (ws' := wR g h0 ad (i, l_, va_up (va_up a 7 (kfill 300 (a 7) 8)) 8 (kfill 300 (a 8) 8), kfL h 0)) (by rw [kfL_0]) ?_
        exact loop2 5 0 (by omega) (by omega)
      · refine k_aload_n (n := 9) F dX10_fresh_8 rfl 1 rfl rfl ?_
        refine k_rget_7 (n := 12) F dX10_fresh_9 rfl ?_
        refine k_iload_n (n := 13) F dX10_fresh_12 rfl 0 rfl rfl ?_
        refine k_sipush (n := 16) (v := 300) F dX10_fresh_13 rfl rfl ?_
        refine k_rast_7 (n := 17) (N := j) (f := kfill 300 (a 7) j) (u' := (i, l_, va_up (va_up (va_up a 7 (kfill 300 (a 7) j)) 8 (kfill 300 (a 8) j)) 7 (upd (kfill 300 (a 7) j) j 300), h)) F (show (va_up (va_up a 7 (kfill 300 (a 7) j)) 8 (kfill 300 (a 8) j)) 7 = kfill 300 (a 7) j from (va_up_ne _ (k := 8) (j := 7) _ (by decide)).trans (va_up_self _ _ _)) (kIx_nI (by have h9 : ¬ nI 8 ≤ nI j := hc201; rw [nI_leI (by omega) (by omega)] at h9; omega) (by decide)) rfl dX10_fresh_16 rfl ?_
        refine k_aload_n (n := 18) F dX10_fresh_17 rfl 1 rfl rfl ?_
        refine k_rget_8 (n := 21) F dX10_fresh_18 rfl ?_
        refine k_iload_n (n := 22) F dX10_fresh_21 rfl 0 rfl rfl ?_
        refine k_sipush (n := 25) (v := 300) F dX10_fresh_22 rfl rfl ?_
        refine k_rast_8 (n := 26) (N := j) (f := kfill 300 (a 8) j) (u' := (i, l_, va_up (va_up (va_up (va_up a 7 (kfill 300 (a 7) j)) 8 (kfill 300 (a 8) j)) 7 (upd (kfill 300 (a 7) j) j 300)) 8 (upd (kfill 300 (a 8) j) j 300), h)) F (show (va_up (va_up (va_up a 7 (kfill 300 (a 7) j)) 8 (kfill 300 (a 8) j)) 7 (upd (kfill 300 (a 7) j) j 300)) 8 = kfill 300 (a 8) j from (va_up_ne _ (k := 7) (j := 8) _ (by decide)).trans (va_up_self _ _ _)) (kIx_nI (by have h9 : ¬ nI 8 ≤ nI j := hc201; rw [nI_leI (by omega) (by omega)] at h9; omega) (by decide)) rfl dX10_fresh_25 rfl ?_
        refine k_iinc (n := 29) (j := 0) (v := nI (j + 1)) (lv' := [(1, .int (nI (j + 1))), (0, .ref h0)]) F dX10_fresh_26 rfl (nI_1 j) (by decide) rfl rfl ?_
        refine k_goto (tgt := 2) F dX10_fresh_29 (by decide) ?_
        have hj9 : j < 8 := by have h9 : ¬ nI 8 ≤ nI j := hc201; rw [nI_leI (by omega) (by omega)] at h9; omega
        refine k_lv (lv' := [(1, .int (nI (j + 1))), (0, .ref h0)]) [0, 1] rfl ?_
        refine k_world (ws' := wR g h0 ad (i, l_, va_up (va_up a 7 (kfill 300 (a 7) (j + 1))) 8 (kfill 300 (a 8) (j + 1)), h)) (by rw [kfill_s, kfill_s]; simp only [wR, upd, va_up, vp_updL, reduceIte, Nat.reduceEqDiff]) ?_
        exact ih (j + 1) (by omega) (by omega)
  refine k_iconst (n := 1) (v := 0) F dX10_fresh_0 rfl rfl ?_
  refine k_istore_n (n := 2) (lv' := [(1, .int 0), (0, .ref h0)]) F dX10_fresh_1 rfl (by decide) rfl rfl ?_
  refine k_lv (lv' := [(1, .int (nI 0)), (0, .ref h0)]) [0, 1] rfl ?_
  refine k_same (ws' := wR g h0 ad (i, l_, va_up (va_up a 7 (kfill 300 (a 7) 0)) 8 (kfill 300 (a 8) 0), h)) (fun H hP => by have e7 := kfill_0 (v := 300) (f := a 7); have e8 := kfill_0 (v := 300) (f := a 8); simp only [wR, upd, va_up, vp_updL, reduceIte, Nat.reduceEqDiff, e7, e8]; simpa only [wR] using hP) rfl ?_
  exact loop1 9 0 (by omega) (by omega)
set_option maxRecDepth 100000 in
set_option maxHeartbeats 4000000 in
theorem r_cells (l : Launch) (g : kG) (h0 : Nat) (ad : Nat → Nat) (i : Nat → Int32) (l_ : Nat → Int64) (a : Nat → Nat → Int32) (h : Nat → Int64) (n pp : Int32) : kM l yX10_cells cX10_cells 3 (some .int) (rmK 1 0 0 22) g [.ref h0, .int n, .int pp] (wR g h0 ad (i, l_, a, h)) (kDi g (f_cells (i, l_, a, h) n pp).1 (wR g h0 ad (f_cells (i, l_, a, h) n pp).2)) := by
  refine k_enter (by decide) (Nat.le_of_ble_eq_true rfl) ?_
  intro p e s m args below meth c A F
  refine k_aload_n (n := 1) F dX10_cells_0 rfl 0 rfl rfl ?_
  refine k_iconst (n := 2) (v := 0) F dX10_cells_1 rfl rfl ?_
  refine k_rput_0 (n := 5) F dX10_cells_2 rfl ?_
  refine k_iload_n (n := 6) F dX10_cells_5 rfl 1 rfl rfl ?_
  refine k_iconst (n := 7) (v := 1) F dX10_cells_6 rfl rfl ?_
  refine k_bipush (n := 9) (v := 8) F dX10_cells_7 rfl rfl ?_
  refine k_ciR (n := 12) F (k_rS (k := 3) (As := [.int n, .int 1, .int 8]) (rest := []) F (c_in l g n 1 8) [] rfl rfl mw_693 mw_691 mw_692 mw_9 (by decide) ⟨by decide, by decide⟩ rfl (Nat.le_of_ble_eq_true rfl) ⟨by decide, by decide⟩ dX10_cells_9) [] rfl rfl ?_
  refine k_if_eq (n := 15) (tgt := 25) F dX10_cells_12 (by decide) rfl (fun hc1 => ?_) (fun hc1 => ?_)
  · refine k_iconst (n := 26) (v := -1) F dX10_cells_25 rfl rfl ?_
    exact k_iret F (by first | (simp only [f_cells, s_fresh, hc1, if_true, if_false, not_true_eq_false, not_false_eq_true]; done) | (simp only [f_cells, s_fresh, hc1, if_true, if_false, not_true_eq_false, not_false_eq_true, upd, va_up, vp_updL, reduceIte, Nat.reduceEqDiff]; done) | (simp [f_cells, s_fresh, hc1]; done) | (simp_all [f_cells, s_fresh, hc1]; done)) (by first | (simp only [f_cells, s_fresh, hc1, if_true, if_false, not_true_eq_false, not_false_eq_true]; done) | (simp only [f_cells, s_fresh, hc1, if_true, if_false, not_true_eq_false, not_false_eq_true, wR, upd, va_up, vp_updL, reduceIte, Nat.reduceEqDiff]; done) | (simp [f_cells, s_fresh, hc1, wR, upd, va_up, vp_updL]; done) | (simp_all [f_cells, s_fresh, hc1, wR, upd, va_up, vp_updL]; done)) dX10_cells_26
  · refine k_iload_n (n := 16) F dX10_cells_15 rfl 2 rfl rfl ?_
    refine k_iconst (n := 17) (v := 1) F dX10_cells_16 rfl rfl ?_
    refine k_bipush (n := 19) (v := 50) F dX10_cells_17 rfl rfl ?_
    refine k_ciR (n := 22) F (k_rS (k := 3) (As := [.int pp, .int 1, .int 50]) (rest := []) F (c_in l g pp 1 50) [] rfl rfl mw_693 mw_691 mw_692 mw_9 (by decide) ⟨by decide, by decide⟩ rfl (Nat.le_of_ble_eq_true rfl) ⟨by decide, by decide⟩ dX10_cells_19) [] rfl rfl ?_
    refine k_if_ne (n := 25) (tgt := 27) F dX10_cells_22 (by decide) rfl (fun hc2 => ?_) (fun hc2 => ?_)
    · refine k_aload_n (n := 28) F dX10_cells_27 rfl 0 rfl rfl ?_
      refine k_rget_12 (n := 31) (v := i 12) F rfl dX10_cells_28 rfl ?_
      refine k_if_eq (n := 34) (tgt := 37) F dX10_cells_31 (by decide) rfl (fun hc3 => ?_) (fun hc3 => ?_)
      · refine k_aload_n (n := 38) F dX10_cells_37 rfl 0 rfl rfl ?_
        refine k_iload_n (n := 39) F dX10_cells_38 rfl 1 rfl rfl ?_
        refine k_rput_6 (n := 42) (u' := (upd i 6 n, l_, a, h)) F rfl dX10_cells_39 rfl ?_
        refine k_aload_n (n := 43) F dX10_cells_42 rfl 0 rfl rfl ?_
        refine k_iload_n (n := 44) F dX10_cells_43 rfl 2 rfl rfl ?_
        refine k_rput_9 (n := 47) (u' := (upd (upd i 6 n) 9 pp, l_, a, h)) F rfl dX10_cells_44 rfl ?_
        refine k_aload_n (n := 48) F dX10_cells_47 rfl 0 rfl rfl ?_
        refine k_cvA (n := 51) (w0 := wR g h0 ad (s_fresh (upd (upd i 6 n) 9 pp, l_, a, h))) (is := [0, 1, 2, 3, 4, 5, 6, 7, 8, 9, 10, 11, 12, 13, 14]) F (k_rV (k := 0) (b := h0) (As := []) (rest := []) F (r_fresh l g h0 ad (upd (upd i 6 n) 9 pp) l_ a h) [0, 1, 2, 3, 4, 5, 6, 7, 8, 9, 10, 11, 12, 13, 14] rfl rfl 0 rfl rfl mw_582 mw_579 mw_581 mw_s18 mw_9 (by decide) ⟨by decide, by decide⟩ rfl (Nat.le_of_ble_eq_true rfl) ⟨by decide, by decide⟩ dX10_cells_48) rfl rfl ?_
        refine k_iconst (n := 52) (v := 1) F dX10_cells_51 rfl rfl ?_
        exact k_iret F (by first | (simp only [f_cells, s_fresh, hc1, hc2, hc3, if_true, if_false, not_true_eq_false, not_false_eq_true]; done) | (simp only [f_cells, s_fresh, hc1, hc2, hc3, if_true, if_false, not_true_eq_false, not_false_eq_true, upd, va_up, vp_updL, reduceIte, Nat.reduceEqDiff]; done) | (simp [f_cells, s_fresh, hc1, hc2, hc3]; done) | (simp_all [f_cells, s_fresh, hc1, hc2, hc3]; done)) (by first | (simp only [f_cells, s_fresh, hc1, hc2, hc3, if_true, if_false, not_true_eq_false, not_false_eq_true]; done) | (simp only [f_cells, s_fresh, hc1, hc2, hc3, if_true, if_false, not_true_eq_false, not_false_eq_true, wR, upd, va_up, vp_updL, reduceIte, Nat.reduceEqDiff]; done) | (simp [f_cells, s_fresh, hc1, hc2, hc3, wR, upd, va_up, vp_updL]; done) | (simp_all [f_cells, s_fresh, hc1, hc2, hc3, wR, upd, va_up, vp_updL]; done)) dX10_cells_52
      · refine k_bipush (n := 36) (v := -2) F dX10_cells_34 rfl rfl ?_
        exact k_iret F (by first | (simp only [f_cells, s_fresh, hc1, hc2, hc3, if_true, if_false, not_true_eq_false, not_false_eq_true]; done) | (simp only [f_cells, s_fresh, hc1, hc2, hc3, if_true, if_false, not_true_eq_false, not_false_eq_true, upd, va_up, vp_updL, reduceIte, Nat.reduceEqDiff]; done) | (simp [f_cells, s_fresh, hc1, hc2, hc3]; done) | (simp_all [f_cells, s_fresh, hc1, hc2, hc3]; done)) (by first | (simp only [f_cells, s_fresh, hc1, hc2, hc3, if_true, if_false, not_true_eq_false, not_false_eq_true]; done) | (simp only [f_cells, s_fresh, hc1, hc2, hc3, if_true, if_false, not_true_eq_false, not_false_eq_true, wR, upd, va_up, vp_updL, reduceIte, Nat.reduceEqDiff]; done) | (simp [f_cells, s_fresh, hc1, hc2, hc3, wR, upd, va_up, vp_updL]; done) | (simp_all [f_cells, s_fresh, hc1, hc2, hc3, wR, upd, va_up, vp_updL]; done)) dX10_cells_36
    · refine k_iconst (n := 26) (v := -1) F dX10_cells_25 rfl rfl ?_
      exact k_iret F (by first | (simp only [f_cells, s_fresh, hc1, hc2, if_true, if_false, not_true_eq_false, not_false_eq_true]; done) | (simp only [f_cells, s_fresh, hc1, hc2, if_true, if_false, not_true_eq_false, not_false_eq_true, upd, va_up, vp_updL, reduceIte, Nat.reduceEqDiff]; done) | (simp [f_cells, s_fresh, hc1, hc2]; done) | (simp_all [f_cells, s_fresh, hc1, hc2]; done)) (by first | (simp only [f_cells, s_fresh, hc1, hc2, if_true, if_false, not_true_eq_false, not_false_eq_true]; done) | (simp only [f_cells, s_fresh, hc1, hc2, if_true, if_false, not_true_eq_false, not_false_eq_true, wR, upd, va_up, vp_updL, reduceIte, Nat.reduceEqDiff]; done) | (simp [f_cells, s_fresh, hc1, hc2, wR, upd, va_up, vp_updL]; done) | (simp_all [f_cells, s_fresh, hc1, hc2, wR, upd, va_up, vp_updL]; done)) dX10_cells_26
set_option maxRecDepth 100000 in
set_option maxHeartbeats 4000000 in
theorem r_stores (l : Launch) (g : kG) (h0 : Nat) (ad : Nat → Nat) (i : Nat → Int32) (l_ : Nat → Int64) (a : Nat → Nat → Int32) (h : Nat → Int64) (q : Int32) : kM l yX10_stores cX10_stores 5 none (rmK 0 0 0 0) g [.ref h0, .int q] (wR g h0 ad (i, l_, a, h)) (kDv g (wR g h0 ad (tk_S (i, l_, a, h) q))) := by
  refine k_enter (by decide) (Nat.le_of_ble_eq_true rfl) ?_
  intro p e s m args below meth c A F
  refine k_aload_n (n := 1) F dX10_stores_0 rfl 0 rfl rfl ?_
  refine k_dup (n := 2) F dX10_stores_1 rfl rfl ?_
  refine k_rget_19 (n := 5) (v := l_ 19) F rfl dX10_stores_2 rfl ?_
  refine k_iload_n (n := 6) F dX10_stores_5 rfl 1 rfl rfl ?_
  refine k_i2l (n := 7) F dX10_stores_6 rfl ?_
  refine k_ladd (n := 8) F dX10_stores_7 rfl ?_
  refine k_rput_19 (n := 11) (u' := (i, vp_updL l_ 19 ((l_ 19) + q.toInt64), a, h)) F rfl dX10_stores_8 rfl ?_
  refine k_aload_n (n := 12) F dX10_stores_11 rfl 0 rfl rfl ?_
  refine k_rget_10 (n := 15) F dX10_stores_12 rfl ?_
  refine k_iconst (n := 16) (v := 3) F dX10_stores_15 rfl rfl ?_
  refine k_rald_10 (n := 17) (N := 3) (f := a 10) F rfl (kIx_nI (j := 3) (by decide) (by decide)) dX10_stores_16 rfl ?_
  refine k_aload_n (n := 18) F dX10_stores_17 rfl 0 rfl rfl ?_
  refine k_rget_17 (n := 21) (v := i 17) F rfl dX10_stores_18 rfl ?_
  refine k_isub (n := 22) F dX10_stores_21 rfl ?_
  refine k_iload_n (n := 23) F dX10_stores_22 rfl 1 rfl rfl ?_
  refine k_icmp_ge (n := 26) (tgt := 40) F dX10_stores_23 (by decide) rfl (fun hc1 => ?_) (fun hc1 => ?_)
  · refine k_iload_n (n := 41) F dX10_stores_40 rfl 1 rfl rfl ?_
    refine k_istore_n (n := 42) (lv' := [(2, .int q), (0, .ref h0), (1, .int q)]) F dX10_stores_41 rfl (by decide) rfl rfl ?_
    refine k_iload_n (n := 43) F dX10_stores_42 rfl 2 rfl rfl ?_
    refine k_iload_n (n := 44) F dX10_stores_43 rfl 0 rfl rfl ?_
    refine k_isub (n := 45) F dX10_stores_44 rfl ?_
    refine k_istore_n (n := 46) (lv' := [(3, .int (q - q)), (2, .int q), (0, .ref h0), (1, .int q)]) F dX10_stores_45 rfl (by decide) rfl rfl ?_
    refine k_aload_n (n := 47) F dX10_stores_46 rfl 2 rfl rfl ?_
    refine k_dup (n := 48) F dX10_stores_47 rfl rfl ?_
    refine k_rget_17 (n := 51) (v := i 17) F rfl dX10_stores_48 rfl ?_
    refine k_iload_n (n := 52) F dX10_stores_51 rfl 1 rfl rfl ?_
    refine k_iadd (n := 53) F dX10_stores_52 rfl ?_
    refine k_rput_17 (n := 56) (u' := (upd i 17 ((i 17) + q), vp_updL l_ 19 ((l_ 19) + q.toInt64), a, h)) F rfl dX10_stores_53 rfl ?_
    refine k_sipush (n := 59) (v := 300) F dX10_stores_56 rfl rfl ?_
    refine k_aload_n (n := 60) F dX10_stores_59 rfl 2 rfl rfl ?_
    refine k_rget_18 (n := 63) (v := i 18) F (show (upd i 17 ((i 17) + q)) 18 = i 18 from pk_un (k := 17) (j := 18) (by decide)) dX10_stores_60 rfl ?_
    refine k_isub (n := 64) F dX10_stores_63 rfl ?_
    refine k_iload_n (n := 65) F dX10_stores_64 rfl 0 rfl rfl ?_
    refine k_icmp_ge (n := 68) (tgt := 79) F dX10_stores_65 (by decide) rfl (fun hc2 => ?_) (fun hc2 => ?_)
    · refine k_iload_n (n := 80) F dX10_stores_79 rfl 0 rfl rfl ?_
      refine k_istore (n := 82) (lv' := [(4, .int (q - q)), (3, .int (q - q)), (2, .int q), (0, .ref h0), (1, .int q)]) F dX10_stores_80 (by decide) rfl rfl ?_
      refine k_aload_n (n := 83) F dX10_stores_82 rfl 3 rfl rfl ?_
      refine k_dup (n := 84) F dX10_stores_83 rfl rfl ?_
      refine k_rget_18 (n := 87) (v := i 18) F (show (upd i 17 ((i 17) + q)) 18 = i 18 from pk_un (k := 17) (j := 18) (by decide)) dX10_stores_84 rfl ?_
      refine k_iload (n := 89) F dX10_stores_87 0 rfl rfl ?_
      refine k_iadd (n := 90) F dX10_stores_89 rfl ?_
      refine k_rput_18 (n := 93) (u' := (upd (upd i 17 ((i 17) + q)) 18 ((i 18) + (q - q)), vp_updL l_ 19 ((l_ 19) + q.toInt64), a, h)) F rfl dX10_stores_90 rfl ?_
      refine k_aload_n (n := 94) F dX10_stores_93 rfl 3 rfl rfl ?_
      refine k_dup (n := 95) F dX10_stores_94 rfl rfl ?_
      refine k_rget_21 (n := 98) (v := l_ 21) F (show (vp_updL l_ 19 ((l_ 19) + q.toInt64)) 21 = l_ 21 from pk_uLn (k := 19) (j := 21) (by decide)) dX10_stores_95 rfl ?_
      refine k_iload_n (n := 99) F dX10_stores_98 rfl 1 rfl rfl ?_
      refine k_iload (n := 101) F dX10_stores_99 0 rfl rfl ?_
      refine k_isub (n := 102) F dX10_stores_101 rfl ?_
      refine k_i2l (n := 103) F dX10_stores_102 rfl ?_
      refine k_ladd (n := 104) F dX10_stores_103 rfl ?_
      refine k_rput_21 (n := 107) (u' := (upd (upd i 17 ((i 17) + q)) 18 ((i 18) + (q - q)), vp_updL (vp_updL l_ 19 ((l_ 19) + q.toInt64)) 21 ((l_ 21) + (((q - q) - (q - q)).toInt64)), a, h)) F rfl dX10_stores_104 rfl ?_
      exact k_vret F (by first | (simp only [tk_S, tkT, tkB, hc1, Int32.not_lt.mpr hc1, hc2, Int32.not_lt.mpr hc2, if_true, if_false, not_true_eq_false, not_false_eq_true]; done) | (simp only [tk_S, tkT, tkB, hc1, Int32.not_lt.mpr hc1, hc2, Int32.not_lt.mpr hc2, if_true, if_false, not_true_eq_false, not_false_eq_true, wR, upd, va_up, vp_updL, reduceIte, Nat.reduceEqDiff]; done) | (simp [tk_S, tkT, tkB, hc1, Int32.not_lt.mpr hc1, hc2, Int32.not_lt.mpr hc2, wR, upd, va_up, vp_updL]; done) | (simp_all [tk_S, tkT, tkB, hc1, Int32.not_lt.mpr hc1, hc2, Int32.not_lt.mpr hc2, wR, upd, va_up, vp_updL]; done)) dX10_stores_107
    · refine k_sipush (n := 71) (v := 300) F dX10_stores_68 rfl rfl ?_
      refine k_aload_n (n := 72) F dX10_stores_71 rfl 2 rfl rfl ?_
      refine k_rget_18 (n := 75) (v := i 18) F (show (upd i 17 ((i 17) + q)) 18 = i 18 from pk_un (k := 17) (j := 18) (by decide)) dX10_stores_72 rfl ?_
      refine k_isub (n := 76) F dX10_stores_75 rfl ?_
      refine k_goto (tgt := 80) F dX10_stores_76 (by decide) ?_
      refine k_istore (n := 82) (lv' := [(4, .int (300 - (i 18))), (3, .int (q - q)), (2, .int q), (0, .ref h0), (1, .int q)]) F dX10_stores_80 (by decide) rfl rfl ?_
      refine k_aload_n (n := 83) F dX10_stores_82 rfl 3 rfl rfl ?_
      refine k_dup (n := 84) F dX10_stores_83 rfl rfl ?_
      refine k_rget_18 (n := 87) (v := i 18) F (show (upd i 17 ((i 17) + q)) 18 = i 18 from pk_un (k := 17) (j := 18) (by decide)) dX10_stores_84 rfl ?_
      refine k_iload (n := 89) F dX10_stores_87 0 rfl rfl ?_
      refine k_iadd (n := 90) F dX10_stores_89 rfl ?_
      refine k_rput_18 (n := 93) (u' := (upd (upd i 17 ((i 17) + q)) 18 ((i 18) + (300 - (i 18))), vp_updL l_ 19 ((l_ 19) + q.toInt64), a, h)) F rfl dX10_stores_90 rfl ?_
      refine k_aload_n (n := 94) F dX10_stores_93 rfl 3 rfl rfl ?_
      refine k_dup (n := 95) F dX10_stores_94 rfl rfl ?_
      refine k_rget_21 (n := 98) (v := l_ 21) F (show (vp_updL l_ 19 ((l_ 19) + q.toInt64)) 21 = l_ 21 from pk_uLn (k := 19) (j := 21) (by decide)) dX10_stores_95 rfl ?_
      refine k_iload_n (n := 99) F dX10_stores_98 rfl 1 rfl rfl ?_
      refine k_iload (n := 101) F dX10_stores_99 0 rfl rfl ?_
      refine k_isub (n := 102) F dX10_stores_101 rfl ?_
      refine k_i2l (n := 103) F dX10_stores_102 rfl ?_
      refine k_ladd (n := 104) F dX10_stores_103 rfl ?_
      refine k_rput_21 (n := 107) (u' := (upd (upd i 17 ((i 17) + q)) 18 ((i 18) + (300 - (i 18))), vp_updL (vp_updL l_ 19 ((l_ 19) + q.toInt64)) 21 ((l_ 21) + (((q - q) - (300 - (i 18))).toInt64)), a, h)) F rfl dX10_stores_104 rfl ?_
      exact k_vret F (by first | (simp only [tk_S, tkT, tkB, hc1, Int32.not_lt.mpr hc1, hc2, Int32.not_le.mp hc2, if_true, if_false, not_true_eq_false, not_false_eq_true]; done) | (simp only [tk_S, tkT, tkB, hc1, Int32.not_lt.mpr hc1, hc2, Int32.not_le.mp hc2, if_true, if_false, not_true_eq_false, not_false_eq_true, wR, upd, va_up, vp_updL, reduceIte, Nat.reduceEqDiff]; done) | (simp [tk_S, tkT, tkB, hc1, Int32.not_lt.mpr hc1, hc2, Int32.not_le.mp hc2, wR, upd, va_up, vp_updL]; done) | (simp_all [tk_S, tkT, tkB, hc1, Int32.not_lt.mpr hc1, hc2, Int32.not_le.mp hc2, wR, upd, va_up, vp_updL]; done)) dX10_stores_107
  · refine k_aload_n (n := 27) F dX10_stores_26 rfl 0 rfl rfl ?_
    refine k_rget_10 (n := 30) F dX10_stores_27 rfl ?_
    refine k_iconst (n := 31) (v := 3) F dX10_stores_30 rfl rfl ?_
    refine k_rald_10 (n := 32) (N := 3) (f := a 10) F rfl (kIx_nI (j := 3) (by decide) (by decide)) dX10_stores_31 rfl ?_
    refine k_aload_n (n := 33) F dX10_stores_32 rfl 0 rfl rfl ?_
    refine k_rget_17 (n := 36) (v := i 17) F rfl dX10_stores_33 rfl ?_
    refine k_isub (n := 37) F dX10_stores_36 rfl ?_
    refine k_goto (tgt := 41) F dX10_stores_37 (by decide) ?_
    refine k_istore_n (n := 42) (lv' := [(2, .int (((a 10) 3) - (i 17))), (0, .ref h0), (1, .int q)]) F dX10_stores_41 rfl (by decide) rfl rfl ?_
    refine k_iload_n (n := 43) F dX10_stores_42 rfl 2 rfl rfl ?_
    refine k_iload_n (n := 44) F dX10_stores_43 rfl 0 rfl rfl ?_
    refine k_isub (n := 45) F dX10_stores_44 rfl ?_
    refine k_istore_n (n := 46) (lv' := [(3, .int (q - (((a 10) 3) - (i 17)))), (2, .int (((a 10) 3) - (i 17))), (0, .ref h0), (1, .int q)]) F dX10_stores_45 rfl (by decide) rfl rfl ?_
    refine k_aload_n (n := 47) F dX10_stores_46 rfl 2 rfl rfl ?_
    refine k_dup (n := 48) F dX10_stores_47 rfl rfl ?_
    refine k_rget_17 (n := 51) (v := i 17) F rfl dX10_stores_48 rfl ?_
    refine k_iload_n (n := 52) F dX10_stores_51 rfl 1 rfl rfl ?_
    refine k_iadd (n := 53) F dX10_stores_52 rfl ?_
    refine k_rput_17 (n := 56) (u' := (upd i 17 ((i 17) + (((a 10) 3) - (i 17))), vp_updL l_ 19 ((l_ 19) + q.toInt64), a, h)) F rfl dX10_stores_53 rfl ?_
    refine k_sipush (n := 59) (v := 300) F dX10_stores_56 rfl rfl ?_
    refine k_aload_n (n := 60) F dX10_stores_59 rfl 2 rfl rfl ?_
    refine k_rget_18 (n := 63) (v := i 18) F (show (upd i 17 ((i 17) + (((a 10) 3) - (i 17)))) 18 = i 18 from pk_un (k := 17) (j := 18) (by decide)) dX10_stores_60 rfl ?_
    refine k_isub (n := 64) F dX10_stores_63 rfl ?_
    refine k_iload_n (n := 65) F dX10_stores_64 rfl 0 rfl rfl ?_
    refine k_icmp_ge (n := 68) (tgt := 79) F dX10_stores_65 (by decide) rfl (fun hc3 => ?_) (fun hc3 => ?_)
    · refine k_iload_n (n := 80) F dX10_stores_79 rfl 0 rfl rfl ?_
      refine k_istore (n := 82) (lv' := [(4, .int (q - (((a 10) 3) - (i 17)))), (3, .int (q - (((a 10) 3) - (i 17)))), (2, .int (((a 10) 3) - (i 17))), (0, .ref h0), (1, .int q)]) F dX10_stores_80 (by decide) rfl rfl ?_
      refine k_aload_n (n := 83) F dX10_stores_82 rfl 3 rfl rfl ?_
      refine k_dup (n := 84) F dX10_stores_83 rfl rfl ?_
      refine k_rget_18 (n := 87) (v := i 18) F (show (upd i 17 ((i 17) + (((a 10) 3) - (i 17)))) 18 = i 18 from pk_un (k := 17) (j := 18) (by decide)) dX10_stores_84 rfl ?_
      refine k_iload (n := 89) F dX10_stores_87 0 rfl rfl ?_
      refine k_iadd (n := 90) F dX10_stores_89 rfl ?_
      refine k_rput_18 (n := 93) (u' := (upd (upd i 17 ((i 17) + (((a 10) 3) - (i 17)))) 18 ((i 18) + (q - (((a 10) 3) - (i 17)))), vp_updL l_ 19 ((l_ 19) + q.toInt64), a, h)) F rfl dX10_stores_90 rfl ?_
      refine k_aload_n (n := 94) F dX10_stores_93 rfl 3 rfl rfl ?_
      refine k_dup (n := 95) F dX10_stores_94 rfl rfl ?_
      refine k_rget_21 (n := 98) (v := l_ 21) F (show (vp_updL l_ 19 ((l_ 19) + q.toInt64)) 21 = l_ 21 from pk_uLn (k := 19) (j := 21) (by decide)) dX10_stores_95 rfl ?_
      refine k_iload_n (n := 99) F dX10_stores_98 rfl 1 rfl rfl ?_
      refine k_iload (n := 101) F dX10_stores_99 0 rfl rfl ?_
      refine k_isub (n := 102) F dX10_stores_101 rfl ?_
      refine k_i2l (n := 103) F dX10_stores_102 rfl ?_
      refine k_ladd (n := 104) F dX10_stores_103 rfl ?_
      refine k_rput_21 (n := 107) (u' := (upd (upd i 17 ((i 17) + (((a 10) 3) - (i 17)))) 18 ((i 18) + (q - (((a 10) 3) - (i 17)))), vp_updL (vp_updL l_ 19 ((l_ 19) + q.toInt64)) 21 ((l_ 21) + (((q - (((a 10) 3) - (i 17))) - (q - (((a 10) 3) - (i 17)))).toInt64)), a, h)) F rfl dX10_stores_104 rfl ?_
      exact k_vret F (by first | (simp only [tk_S, tkT, tkB, hc1, Int32.not_le.mp hc1, hc3, Int32.not_lt.mpr hc3, if_true, if_false, not_true_eq_false, not_false_eq_true]; done) | (simp only [tk_S, tkT, tkB, hc1, Int32.not_le.mp hc1, hc3, Int32.not_lt.mpr hc3, if_true, if_false, not_true_eq_false, not_false_eq_true, wR, upd, va_up, vp_updL, reduceIte, Nat.reduceEqDiff]; done) | (simp [tk_S, tkT, tkB, hc1, Int32.not_le.mp hc1, hc3, Int32.not_lt.mpr hc3, wR, upd, va_up, vp_updL]; done) | (simp_all [tk_S, tkT, tkB, hc1, Int32.not_le.mp hc1, hc3, Int32.not_lt.mpr hc3, wR, upd, va_up, vp_updL]; done)) dX10_stores_107
    · refine k_sipush (n := 71) (v := 300) F dX10_stores_68 rfl rfl ?_
      refine k_aload_n (n := 72) F dX10_stores_71 rfl 2 rfl rfl ?_
      refine k_rget_18 (n := 75) (v := i 18) F (show (upd i 17 ((i 17) + (((a 10) 3) - (i 17)))) 18 = i 18 from pk_un (k := 17) (j := 18) (by decide)) dX10_stores_72 rfl ?_
      refine k_isub (n := 76) F dX10_stores_75 rfl ?_
      refine k_goto (tgt := 80) F dX10_stores_76 (by decide) ?_
      refine k_istore (n := 82) (lv' := [(4, .int (300 - (i 18))), (3, .int (q - (((a 10) 3) - (i 17)))), (2, .int (((a 10) 3) - (i 17))), (0, .ref h0), (1, .int q)]) F dX10_stores_80 (by decide) rfl rfl ?_
      refine k_aload_n (n := 83) F dX10_stores_82 rfl 3 rfl rfl ?_
      refine k_dup (n := 84) F dX10_stores_83 rfl rfl ?_
      refine k_rget_18 (n := 87) (v := i 18) F (show (upd i 17 ((i 17) + (((a 10) 3) - (i 17)))) 18 = i 18 from pk_un (k := 17) (j := 18) (by decide)) dX10_stores_84 rfl ?_
      refine k_iload (n := 89) F dX10_stores_87 0 rfl rfl ?_
      refine k_iadd (n := 90) F dX10_stores_89 rfl ?_
      refine k_rput_18 (n := 93) (u' := (upd (upd i 17 ((i 17) + (((a 10) 3) - (i 17)))) 18 ((i 18) + (300 - (i 18))), vp_updL l_ 19 ((l_ 19) + q.toInt64), a, h)) F rfl dX10_stores_90 rfl ?_
      refine k_aload_n (n := 94) F dX10_stores_93 rfl 3 rfl rfl ?_
      refine k_dup (n := 95) F dX10_stores_94 rfl rfl ?_
      refine k_rget_21 (n := 98) (v := l_ 21) F (show (vp_updL l_ 19 ((l_ 19) + q.toInt64)) 21 = l_ 21 from pk_uLn (k := 19) (j := 21) (by decide)) dX10_stores_95 rfl ?_
      refine k_iload_n (n := 99) F dX10_stores_98 rfl 1 rfl rfl ?_
      refine k_iload (n := 101) F dX10_stores_99 0 rfl rfl ?_
      refine k_isub (n := 102) F dX10_stores_101 rfl ?_
      refine k_i2l (n := 103) F dX10_stores_102 rfl ?_
      refine k_ladd (n := 104) F dX10_stores_103 rfl ?_
      refine k_rput_21 (n := 107) (u' := (upd (upd i 17 ((i 17) + (((a 10) 3) - (i 17)))) 18 ((i 18) + (300 - (i 18))), vp_updL (vp_updL l_ 19 ((l_ 19) + q.toInt64)) 21 ((l_ 21) + (((q - (((a 10) 3) - (i 17))) - (300 - (i 18))).toInt64)), a, h)) F rfl dX10_stores_104 rfl ?_
      exact k_vret F (by first | (simp only [tk_S, tkT, tkB, hc1, Int32.not_le.mp hc1, hc3, Int32.not_le.mp hc3, if_true, if_false, not_true_eq_false, not_false_eq_true]; done) | (simp only [tk_S, tkT, tkB, hc1, Int32.not_le.mp hc1, hc3, Int32.not_le.mp hc3, if_true, if_false, not_true_eq_false, not_false_eq_true, wR, upd, va_up, vp_updL, reduceIte, Nat.reduceEqDiff]; done) | (simp [tk_S, tkT, tkB, hc1, Int32.not_le.mp hc1, hc3, Int32.not_le.mp hc3, wR, upd, va_up, vp_updL]; done) | (simp_all [tk_S, tkT, tkB, hc1, Int32.not_le.mp hc1, hc3, Int32.not_le.mp hc3, wR, upd, va_up, vp_updL]; done)) dX10_stores_107
set_option maxRecDepth 100000 in
set_option maxHeartbeats 4000000 in
theorem r_goesOn0 (l : Launch) (g : kG) (h0 : Nat) (ad : Nat → Nat) (i : Nat → Int32) (l_ : Nat → Int64) (a : Nat → Nat → Int32) (h : Nat → Int64) (hh : a 22 0 = 0 ∨ a 22 0 = 1 ∨ a 22 0 = 2 ∨ a 22 0 = 3) : kM l yX10_goesOn cX10_goesOn 2 none (rmK 0 0 0 0) g [.ref h0, .int 0] (wR g h0 ad (i, l_, a, h)) (kDv g (wR g h0 ad (go_S0 (i, l_, a, h)))) := by
  refine k_enter (by decide) (Nat.le_of_ble_eq_true rfl) ?_
  intro p e s m args below meth c A F
  refine k_aload_n (n := 1) F dX10_goesOn_0 rfl 0 rfl rfl ?_
  refine k_rget_22 (n := 4) F dX10_goesOn_1 rfl ?_
  refine k_iload_n (n := 5) F dX10_goesOn_4 rfl 1 rfl rfl ?_
  refine k_rald_22 (n := 6) (N := 0) (f := a 22) F rfl (kIx_nI (j := 0) (by decide) (by decide)) dX10_goesOn_5 rfl ?_
  refine k_iconst (n := 7) (v := 2) F dX10_goesOn_6 rfl rfl ?_
  refine k_icmp_ge (n := 10) (tgt := 11) F dX10_goesOn_7 (by decide) rfl (fun hc1 => ?_) (fun hc1 => ?_)
  · refine k_aload_n (n := 12) F dX10_goesOn_11 rfl 0 rfl rfl ?_
    refine k_rget_24 (n := 15) F dX10_goesOn_12 rfl ?_
    refine k_iload_n (n := 16) F dX10_goesOn_15 rfl 1 rfl rfl ?_
    refine k_dup2_11 (n := 17) F dX10_goesOn_16 rfl rfl rfl ?_
    refine k_rald_24 (n := 18) (N := 0) (f := a 24) F rfl (kIx_nI (j := 0) (by decide) (by decide)) dX10_goesOn_17 rfl ?_
    refine k_iconst (n := 19) (v := 1) F dX10_goesOn_18 rfl rfl ?_
    refine k_iadd (n := 20) F dX10_goesOn_19 rfl ?_
    refine k_rast_24 (n := 21) (N := 0) (f := a 24) (u' := (i, l_, va_up a 24 (upd (a 24) 0 (((a 24) 0) + 1)), h)) F rfl (kIx_nI (j := 0) (by decide) (by decide)) rfl dX10_goesOn_20 rfl ?_
    refine k_aload_n (n := 22) F dX10_goesOn_21 rfl 0 rfl rfl ?_
    refine k_rget_24 (n := 25) F dX10_goesOn_22 rfl ?_
    refine k_iload_n (n := 26) F dX10_goesOn_25 rfl 1 rfl rfl ?_
    refine k_rald_24 (n := 27) (N := 0) (f := upd (a 24) 0 (((a 24) 0) + 1)) F (show (va_up a 24 (upd (a 24) 0 (((a 24) 0) + 1))) 24 = upd (a 24) 0 (((a 24) 0) + 1) from va_up_self _ _ _) (kIx_nI (j := 0) (by decide) (by decide)) dX10_goesOn_26 rfl ?_
    refine k_aload_n (n := 28) F dX10_goesOn_27 rfl 0 rfl rfl ?_
    refine k_rget_10 (n := 31) F dX10_goesOn_28 rfl ?_
    refine k_iconst (n := 32) (v := 5) F dX10_goesOn_31 rfl rfl ?_
    refine k_rald_10 (n := 33) (N := 5) (f := a 10) F (show (va_up a 24 (upd (a 24) 0 (((a 24) 0) + 1))) 10 = a 10 from va_up_ne _ (k := 24) (j := 10) _ (by decide)) (kIx_nI (j := 5) (by decide) (by decide)) dX10_goesOn_32 rfl ?_
    refine k_icmp_ge (n := 36) (tgt := 37) F dX10_goesOn_33 (by decide) rfl (fun hc2 => ?_) (fun hc2 => ?_)
    · refine k_aload_n (n := 38) F dX10_goesOn_37 rfl 0 rfl rfl ?_
      refine k_rget_24 (n := 41) F dX10_goesOn_38 rfl ?_
      refine k_iload_n (n := 42) F dX10_goesOn_41 rfl 1 rfl rfl ?_
      refine k_iconst (n := 43) (v := 0) F dX10_goesOn_42 rfl rfl ?_
      refine k_rast_24 (n := 44) (N := 0) (f := upd (a 24) 0 (((a 24) 0) + 1)) (u' := (i, l_, va_up (va_up a 24 (upd (a 24) 0 (((a 24) 0) + 1))) 24 (upd (upd (a 24) 0 (((a 24) 0) + 1)) 0 0), h)) F (show (va_up a 24 (upd (a 24) 0 (((a 24) 0) + 1))) 24 = upd (a 24) 0 (((a 24) 0) + 1) from va_up_self _ _ _) (kIx_nI (j := 0) (by decide) (by decide)) rfl dX10_goesOn_43 rfl ?_
      refine k_aload_n (n := 45) F dX10_goesOn_44 rfl 0 rfl rfl ?_
      refine k_rget_22 (n := 48) F dX10_goesOn_45 rfl ?_
      refine k_iload_n (n := 49) F dX10_goesOn_48 rfl 1 rfl rfl ?_
      refine k_rald_22 (n := 50) (N := 0) (f := a 22) F (show (va_up (va_up a 24 (upd (a 24) 0 (((a 24) 0) + 1))) 24 (upd (upd (a 24) 0 (((a 24) 0) + 1)) 0 0)) 22 = a 22 from (va_up_ne _ (k := 24) (j := 22) _ (by decide)).trans (va_up_ne _ (k := 24) (j := 22) _ (by decide))) (kIx_nI (j := 0) (by decide) (by decide)) dX10_goesOn_49 rfl ?_
      refine k_iconst (n := 51) (v := 2) F dX10_goesOn_50 rfl rfl ?_
      refine k_icmp_ne (n := 54) (tgt := 64) F dX10_goesOn_51 (by decide) rfl (fun hc3 => ?_) (fun hc3 => ?_)
      · refine k_aload_n (n := 65) F dX10_goesOn_64 rfl 0 rfl rfl ?_
        refine k_rget_23 (n := 68) F dX10_goesOn_65 rfl ?_
        refine k_iload_n (n := 69) F dX10_goesOn_68 rfl 1 rfl rfl ?_
        refine k_iconst (n := 70) (v := 0) F dX10_goesOn_69 rfl rfl ?_
        refine k_rast_23 (n := 71) (N := 0) (f := a 23) (u' := (i, l_, va_up (va_up (va_up a 24 (upd (a 24) 0 (((a 24) 0) + 1))) 24 (upd (upd (a 24) 0 (((a 24) 0) + 1)) 0 0)) 23 (upd (a 23) 0 0), h)) F (show (va_up (va_up a 24 (upd (a 24) 0 (((a 24) 0) + 1))) 24 (upd (upd (a 24) 0 (((a 24) 0) + 1)) 0 0)) 23 = a 23 from (va_up_ne _ (k := 24) (j := 23) _ (by decide)).trans (va_up_ne _ (k := 24) (j := 23) _ (by decide))) (kIx_nI (j := 0) (by decide) (by decide)) rfl dX10_goesOn_70 rfl ?_
        refine k_aload_n (n := 72) F dX10_goesOn_71 rfl 0 rfl rfl ?_
        refine k_rget_22 (n := 75) F dX10_goesOn_72 rfl ?_
        refine k_iload_n (n := 76) F dX10_goesOn_75 rfl 1 rfl rfl ?_
        refine k_aload_n (n := 77) F dX10_goesOn_76 rfl 0 rfl rfl ?_
        refine k_rget_22 (n := 80) F dX10_goesOn_77 rfl ?_
        refine k_iconst (n := 81) (v := 1) F dX10_goesOn_80 rfl rfl ?_
        refine k_iload_n (n := 82) F dX10_goesOn_81 rfl 1 rfl rfl ?_
        refine k_isub (n := 83) F dX10_goesOn_82 rfl ?_
        refine k_valI (y := 1) rfl ?_
        refine k_rald_22 (n := 84) (N := 1) (f := a 22) F (show (va_up (va_up (va_up a 24 (upd (a 24) 0 (((a 24) 0) + 1))) 24 (upd (upd (a 24) 0 (((a 24) 0) + 1)) 0 0)) 23 (upd (a 23) 0 0)) 22 = a 22 from (va_up_ne _ (k := 23) (j := 22) _ (by decide)).trans ((va_up_ne _ (k := 24) (j := 22) _ (by decide)).trans (va_up_ne _ (k := 24) (j := 22) _ (by decide)))) (kIx_nI (j := 1) (by decide) (by decide)) dX10_goesOn_83 rfl ?_
        refine k_iconst (n := 85) (v := 1) F dX10_goesOn_84 rfl rfl ?_
        refine k_icmp_ne (n := 88) (tgt := 92) F dX10_goesOn_85 (by decide) rfl (fun hc4 => ?_) (fun hc4 => ?_)
        · refine k_iconst (n := 93) (v := 1) F dX10_goesOn_92 rfl rfl ?_
          refine k_rast_22 (n := 94) (N := 0) (f := a 22) (u' := (i, l_, va_up (va_up (va_up (va_up a 24 (upd (a 24) 0 (((a 24) 0) + 1))) 24 (upd (upd (a 24) 0 (((a 24) 0) + 1)) 0 0)) 23 (upd (a 23) 0 0)) 22 (upd (a 22) 0 1), h)) F (show (va_up (va_up (va_up a 24 (upd (a 24) 0 (((a 24) 0) + 1))) 24 (upd (upd (a 24) 0 (((a 24) 0) + 1)) 0 0)) 23 (upd (a 23) 0 0)) 22 = a 22 from (va_up_ne _ (k := 23) (j := 22) _ (by decide)).trans ((va_up_ne _ (k := 24) (j := 22) _ (by decide)).trans (va_up_ne _ (k := 24) (j := 22) _ (by decide)))) (kIx_nI (j := 0) (by decide) (by decide)) rfl dX10_goesOn_93 rfl ?_
          have h8 := hc2
          simp only [pk_us] at h8
          have h3 := st_3 hh hc1 hc3
          have e := st_e (a 22 0) (a 23 0) (a 24 0) (a 10 5) (a 22 1) h3 h8 hc4
          exact k_vret F (by simp only [go_S0, go_SE, e.1, e.2.1, e.2.2, wR, fa_upd_self, fa_upd_twice, va_up, reduceIte, Nat.reduceEqDiff]) dX10_goesOn_94
        · refine k_iconst (n := 89) (v := 0) F dX10_goesOn_88 rfl rfl ?_
          refine k_goto (tgt := 93) F dX10_goesOn_89 (by decide) ?_
          refine k_rast_22 (n := 94) (N := 0) (f := a 22) (u' := (i, l_, va_up (va_up (va_up (va_up a 24 (upd (a 24) 0 (((a 24) 0) + 1))) 24 (upd (upd (a 24) 0 (((a 24) 0) + 1)) 0 0)) 23 (upd (a 23) 0 0)) 22 (upd (a 22) 0 0), h)) F (show (va_up (va_up (va_up a 24 (upd (a 24) 0 (((a 24) 0) + 1))) 24 (upd (upd (a 24) 0 (((a 24) 0) + 1)) 0 0)) 23 (upd (a 23) 0 0)) 22 = a 22 from (va_up_ne _ (k := 23) (j := 22) _ (by decide)).trans ((va_up_ne _ (k := 24) (j := 22) _ (by decide)).trans (va_up_ne _ (k := 24) (j := 22) _ (by decide)))) (kIx_nI (j := 0) (by decide) (by decide)) rfl dX10_goesOn_93 rfl ?_
          have h8 := hc2
          simp only [pk_us] at h8
          have h3 := st_3 hh hc1 hc3
          have e := st_d (a 22 0) (a 23 0) (a 24 0) (a 10 5) (a 22 1) h3 h8 hc4
          exact k_vret F (by simp only [go_S0, go_SE, e.1, e.2.1, e.2.2, wR, fa_upd_self, fa_upd_twice, va_up, reduceIte, Nat.reduceEqDiff]) dX10_goesOn_94
      · refine k_aload_n (n := 55) F dX10_goesOn_54 rfl 0 rfl rfl ?_
        refine k_rget_22 (n := 58) F dX10_goesOn_55 rfl ?_
        refine k_iload_n (n := 59) F dX10_goesOn_58 rfl 1 rfl rfl ?_
        refine k_iconst (n := 60) (v := 3) F dX10_goesOn_59 rfl rfl ?_
        refine k_rast_22 (n := 61) (N := 0) (f := a 22) (u' := (i, l_, va_up (va_up (va_up a 24 (upd (a 24) 0 (((a 24) 0) + 1))) 24 (upd (upd (a 24) 0 (((a 24) 0) + 1)) 0 0)) 22 (upd (a 22) 0 3), h)) F (show (va_up (va_up a 24 (upd (a 24) 0 (((a 24) 0) + 1))) 24 (upd (upd (a 24) 0 (((a 24) 0) + 1)) 0 0)) 22 = a 22 from (va_up_ne _ (k := 24) (j := 22) _ (by decide)).trans (va_up_ne _ (k := 24) (j := 22) _ (by decide))) (kIx_nI (j := 0) (by decide) (by decide)) rfl dX10_goesOn_60 rfl ?_
        refine k_goto (tgt := 94) F dX10_goesOn_61 (by decide) ?_
        have h8 := hc2
        simp only [pk_us] at h8
        have e := st_c (a 22 0) (a 23 0) (a 24 0) (a 10 5) (a 22 1) hc3 h8
        exact k_vret F (by simp only [go_S0, go_SE, e.1, e.2.1, e.2.2, wR, fa_upd_self, fa_upd_twice, va_up, reduceIte, Nat.reduceEqDiff]) dX10_goesOn_94
    · have h8 := hc2
      simp only [pk_us] at h8
      have e := st_b (a 22 0) (a 23 0) (a 24 0) (a 10 5) (a 22 1) hh hc1 h8
      exact k_vret F (by simp only [go_S0, go_SE, e.1, e.2.1, e.2.2, wR, fa_upd_self, fa_upd_twice, va_up, reduceIte, Nat.reduceEqDiff]) dX10_goesOn_36
  · have e := st_a (a 22 0) (a 23 0) (a 24 0) (a 10 5) (a 22 1) hh hc1
    exact k_vret F (by simp only [go_S0, go_SE, e.1, e.2.1, e.2.2, wR, fa_upd_self, fa_upd_twice, va_up, reduceIte, Nat.reduceEqDiff]) dX10_goesOn_10
set_option maxRecDepth 100000 in
set_option maxHeartbeats 4000000 in
theorem r_goesOn1 (l : Launch) (g : kG) (h0 : Nat) (ad : Nat → Nat) (i : Nat → Int32) (l_ : Nat → Int64) (a : Nat → Nat → Int32) (h : Nat → Int64) (hh : a 22 1 = 0 ∨ a 22 1 = 1 ∨ a 22 1 = 2 ∨ a 22 1 = 3) : kM l yX10_goesOn cX10_goesOn 2 none (rmK 0 0 0 0) g [.ref h0, .int 1] (wR g h0 ad (i, l_, a, h)) (kDv g (wR g h0 ad (go_S1 (i, l_, a, h)))) := by
  refine k_enter (by decide) (Nat.le_of_ble_eq_true rfl) ?_
  intro p e s m args below meth c A F
  refine k_aload_n (n := 1) F dX10_goesOn_0 rfl 0 rfl rfl ?_
  refine k_rget_22 (n := 4) F dX10_goesOn_1 rfl ?_
  refine k_iload_n (n := 5) F dX10_goesOn_4 rfl 1 rfl rfl ?_
  refine k_rald_22 (n := 6) (N := 1) (f := a 22) F rfl (kIx_nI (j := 1) (by decide) (by decide)) dX10_goesOn_5 rfl ?_
  refine k_iconst (n := 7) (v := 2) F dX10_goesOn_6 rfl rfl ?_
  refine k_icmp_ge (n := 10) (tgt := 11) F dX10_goesOn_7 (by decide) rfl (fun hc1 => ?_) (fun hc1 => ?_)
  · refine k_aload_n (n := 12) F dX10_goesOn_11 rfl 0 rfl rfl ?_
    refine k_rget_24 (n := 15) F dX10_goesOn_12 rfl ?_
    refine k_iload_n (n := 16) F dX10_goesOn_15 rfl 1 rfl rfl ?_
    refine k_dup2_11 (n := 17) F dX10_goesOn_16 rfl rfl rfl ?_
    refine k_rald_24 (n := 18) (N := 1) (f := a 24) F rfl (kIx_nI (j := 1) (by decide) (by decide)) dX10_goesOn_17 rfl ?_
    refine k_iconst (n := 19) (v := 1) F dX10_goesOn_18 rfl rfl ?_
    refine k_iadd (n := 20) F dX10_goesOn_19 rfl ?_
    refine k_rast_24 (n := 21) (N := 1) (f := a 24) (u' := (i, l_, va_up a 24 (upd (a 24) 1 (((a 24) 1) + 1)), h)) F rfl (kIx_nI (j := 1) (by decide) (by decide)) rfl dX10_goesOn_20 rfl ?_
    refine k_aload_n (n := 22) F dX10_goesOn_21 rfl 0 rfl rfl ?_
    refine k_rget_24 (n := 25) F dX10_goesOn_22 rfl ?_
    refine k_iload_n (n := 26) F dX10_goesOn_25 rfl 1 rfl rfl ?_
    refine k_rald_24 (n := 27) (N := 1) (f := upd (a 24) 1 (((a 24) 1) + 1)) F (show (va_up a 24 (upd (a 24) 1 (((a 24) 1) + 1))) 24 = upd (a 24) 1 (((a 24) 1) + 1) from va_up_self _ _ _) (kIx_nI (j := 1) (by decide) (by decide)) dX10_goesOn_26 rfl ?_
    refine k_aload_n (n := 28) F dX10_goesOn_27 rfl 0 rfl rfl ?_
    refine k_rget_10 (n := 31) F dX10_goesOn_28 rfl ?_
    refine k_iconst (n := 32) (v := 5) F dX10_goesOn_31 rfl rfl ?_
    refine k_rald_10 (n := 33) (N := 5) (f := a 10) F (show (va_up a 24 (upd (a 24) 1 (((a 24) 1) + 1))) 10 = a 10 from va_up_ne _ (k := 24) (j := 10) _ (by decide)) (kIx_nI (j := 5) (by decide) (by decide)) dX10_goesOn_32 rfl ?_
    refine k_icmp_ge (n := 36) (tgt := 37) F dX10_goesOn_33 (by decide) rfl (fun hc2 => ?_) (fun hc2 => ?_)
    · refine k_aload_n (n := 38) F dX10_goesOn_37 rfl 0 rfl rfl ?_
      refine k_rget_24 (n := 41) F dX10_goesOn_38 rfl ?_
      refine k_iload_n (n := 42) F dX10_goesOn_41 rfl 1 rfl rfl ?_
      refine k_iconst (n := 43) (v := 0) F dX10_goesOn_42 rfl rfl ?_
      refine k_rast_24 (n := 44) (N := 1) (f := upd (a 24) 1 (((a 24) 1) + 1)) (u' := (i, l_, va_up (va_up a 24 (upd (a 24) 1 (((a 24) 1) + 1))) 24 (upd (upd (a 24) 1 (((a 24) 1) + 1)) 1 0), h)) F (show (va_up a 24 (upd (a 24) 1 (((a 24) 1) + 1))) 24 = upd (a 24) 1 (((a 24) 1) + 1) from va_up_self _ _ _) (kIx_nI (j := 1) (by decide) (by decide)) rfl dX10_goesOn_43 rfl ?_
      refine k_aload_n (n := 45) F dX10_goesOn_44 rfl 0 rfl rfl ?_
      refine k_rget_22 (n := 48) F dX10_goesOn_45 rfl ?_
      refine k_iload_n (n := 49) F dX10_goesOn_48 rfl 1 rfl rfl ?_
      refine k_rald_22 (n := 50) (N := 1) (f := a 22) F (show (va_up (va_up a 24 (upd (a 24) 1 (((a 24) 1) + 1))) 24 (upd (upd (a 24) 1 (((a 24) 1) + 1)) 1 0)) 22 = a 22 from (va_up_ne _ (k := 24) (j := 22) _ (by decide)).trans (va_up_ne _ (k := 24) (j := 22) _ (by decide))) (kIx_nI (j := 1) (by decide) (by decide)) dX10_goesOn_49 rfl ?_
      refine k_iconst (n := 51) (v := 2) F dX10_goesOn_50 rfl rfl ?_
      refine k_icmp_ne (n := 54) (tgt := 64) F dX10_goesOn_51 (by decide) rfl (fun hc3 => ?_) (fun hc3 => ?_)
      · refine k_aload_n (n := 65) F dX10_goesOn_64 rfl 0 rfl rfl ?_
        refine k_rget_23 (n := 68) F dX10_goesOn_65 rfl ?_
        refine k_iload_n (n := 69) F dX10_goesOn_68 rfl 1 rfl rfl ?_
        refine k_iconst (n := 70) (v := 0) F dX10_goesOn_69 rfl rfl ?_
        refine k_rast_23 (n := 71) (N := 1) (f := a 23) (u' := (i, l_, va_up (va_up (va_up a 24 (upd (a 24) 1 (((a 24) 1) + 1))) 24 (upd (upd (a 24) 1 (((a 24) 1) + 1)) 1 0)) 23 (upd (a 23) 1 0), h)) F (show (va_up (va_up a 24 (upd (a 24) 1 (((a 24) 1) + 1))) 24 (upd (upd (a 24) 1 (((a 24) 1) + 1)) 1 0)) 23 = a 23 from (va_up_ne _ (k := 24) (j := 23) _ (by decide)).trans (va_up_ne _ (k := 24) (j := 23) _ (by decide))) (kIx_nI (j := 1) (by decide) (by decide)) rfl dX10_goesOn_70 rfl ?_
        refine k_aload_n (n := 72) F dX10_goesOn_71 rfl 0 rfl rfl ?_
        refine k_rget_22 (n := 75) F dX10_goesOn_72 rfl ?_
        refine k_iload_n (n := 76) F dX10_goesOn_75 rfl 1 rfl rfl ?_
        refine k_aload_n (n := 77) F dX10_goesOn_76 rfl 0 rfl rfl ?_
        refine k_rget_22 (n := 80) F dX10_goesOn_77 rfl ?_
        refine k_iconst (n := 81) (v := 1) F dX10_goesOn_80 rfl rfl ?_
        refine k_iload_n (n := 82) F dX10_goesOn_81 rfl 1 rfl rfl ?_
        refine k_isub (n := 83) F dX10_goesOn_82 rfl ?_
        refine k_valI (y := 0) rfl ?_
        refine k_rald_22 (n := 84) (N := 0) (f := a 22) F (show (va_up (va_up (va_up a 24 (upd (a 24) 1 (((a 24) 1) + 1))) 24 (upd (upd (a 24) 1 (((a 24) 1) + 1)) 1 0)) 23 (upd (a 23) 1 0)) 22 = a 22 from (va_up_ne _ (k := 23) (j := 22) _ (by decide)).trans ((va_up_ne _ (k := 24) (j := 22) _ (by decide)).trans (va_up_ne _ (k := 24) (j := 22) _ (by decide)))) (kIx_nI (j := 0) (by decide) (by decide)) dX10_goesOn_83 rfl ?_
        refine k_iconst (n := 85) (v := 1) F dX10_goesOn_84 rfl rfl ?_
        refine k_icmp_ne (n := 88) (tgt := 92) F dX10_goesOn_85 (by decide) rfl (fun hc4 => ?_) (fun hc4 => ?_)
        · refine k_iconst (n := 93) (v := 1) F dX10_goesOn_92 rfl rfl ?_
          refine k_rast_22 (n := 94) (N := 1) (f := a 22) (u' := (i, l_, va_up (va_up (va_up (va_up a 24 (upd (a 24) 1 (((a 24) 1) + 1))) 24 (upd (upd (a 24) 1 (((a 24) 1) + 1)) 1 0)) 23 (upd (a 23) 1 0)) 22 (upd (a 22) 1 1), h)) F (show (va_up (va_up (va_up a 24 (upd (a 24) 1 (((a 24) 1) + 1))) 24 (upd (upd (a 24) 1 (((a 24) 1) + 1)) 1 0)) 23 (upd (a 23) 1 0)) 22 = a 22 from (va_up_ne _ (k := 23) (j := 22) _ (by decide)).trans ((va_up_ne _ (k := 24) (j := 22) _ (by decide)).trans (va_up_ne _ (k := 24) (j := 22) _ (by decide)))) (kIx_nI (j := 1) (by decide) (by decide)) rfl dX10_goesOn_93 rfl ?_
          have h8 := hc2
          simp only [pk_us] at h8
          have h3 := st_3 hh hc1 hc3
          have e := st_e (a 22 1) (a 23 1) (a 24 1) (a 10 5) (a 22 0) h3 h8 hc4
          exact k_vret F (by simp only [go_S1, go_SE, e.1, e.2.1, e.2.2, wR, fa_upd_self, fa_upd_twice, va_up, reduceIte, Nat.reduceEqDiff]) dX10_goesOn_94
        · refine k_iconst (n := 89) (v := 0) F dX10_goesOn_88 rfl rfl ?_
          refine k_goto (tgt := 93) F dX10_goesOn_89 (by decide) ?_
          refine k_rast_22 (n := 94) (N := 1) (f := a 22) (u' := (i, l_, va_up (va_up (va_up (va_up a 24 (upd (a 24) 1 (((a 24) 1) + 1))) 24 (upd (upd (a 24) 1 (((a 24) 1) + 1)) 1 0)) 23 (upd (a 23) 1 0)) 22 (upd (a 22) 1 0), h)) F (show (va_up (va_up (va_up a 24 (upd (a 24) 1 (((a 24) 1) + 1))) 24 (upd (upd (a 24) 1 (((a 24) 1) + 1)) 1 0)) 23 (upd (a 23) 1 0)) 22 = a 22 from (va_up_ne _ (k := 23) (j := 22) _ (by decide)).trans ((va_up_ne _ (k := 24) (j := 22) _ (by decide)).trans (va_up_ne _ (k := 24) (j := 22) _ (by decide)))) (kIx_nI (j := 1) (by decide) (by decide)) rfl dX10_goesOn_93 rfl ?_
          have h8 := hc2
          simp only [pk_us] at h8
          have h3 := st_3 hh hc1 hc3
          have e := st_d (a 22 1) (a 23 1) (a 24 1) (a 10 5) (a 22 0) h3 h8 hc4
          exact k_vret F (by simp only [go_S1, go_SE, e.1, e.2.1, e.2.2, wR, fa_upd_self, fa_upd_twice, va_up, reduceIte, Nat.reduceEqDiff]) dX10_goesOn_94
      · refine k_aload_n (n := 55) F dX10_goesOn_54 rfl 0 rfl rfl ?_
        refine k_rget_22 (n := 58) F dX10_goesOn_55 rfl ?_
        refine k_iload_n (n := 59) F dX10_goesOn_58 rfl 1 rfl rfl ?_
        refine k_iconst (n := 60) (v := 3) F dX10_goesOn_59 rfl rfl ?_
        refine k_rast_22 (n := 61) (N := 1) (f := a 22) (u' := (i, l_, va_up (va_up (va_up a 24 (upd (a 24) 1 (((a 24) 1) + 1))) 24 (upd (upd (a 24) 1 (((a 24) 1) + 1)) 1 0)) 22 (upd (a 22) 1 3), h)) F (show (va_up (va_up a 24 (upd (a 24) 1 (((a 24) 1) + 1))) 24 (upd (upd (a 24) 1 (((a 24) 1) + 1)) 1 0)) 22 = a 22 from (va_up_ne _ (k := 24) (j := 22) _ (by decide)).trans (va_up_ne _ (k := 24) (j := 22) _ (by decide))) (kIx_nI (j := 1) (by decide) (by decide)) rfl dX10_goesOn_60 rfl ?_
        refine k_goto (tgt := 94) F dX10_goesOn_61 (by decide) ?_
        have h8 := hc2
        simp only [pk_us] at h8
        have e := st_c (a 22 1) (a 23 1) (a 24 1) (a 10 5) (a 22 0) hc3 h8
        exact k_vret F (by simp only [go_S1, go_SE, e.1, e.2.1, e.2.2, wR, fa_upd_self, fa_upd_twice, va_up, reduceIte, Nat.reduceEqDiff]) dX10_goesOn_94
    · have h8 := hc2
      simp only [pk_us] at h8
      have e := st_b (a 22 1) (a 23 1) (a 24 1) (a 10 5) (a 22 0) hh hc1 h8
      exact k_vret F (by simp only [go_S1, go_SE, e.1, e.2.1, e.2.2, wR, fa_upd_self, fa_upd_twice, va_up, reduceIte, Nat.reduceEqDiff]) dX10_goesOn_36
  · have e := st_a (a 22 1) (a 23 1) (a 24 1) (a 10 5) (a 22 0) hh hc1
    exact k_vret F (by simp only [go_S1, go_SE, e.1, e.2.1, e.2.2, wR, fa_upd_self, fa_upd_twice, va_up, reduceIte, Nat.reduceEqDiff]) dX10_goesOn_10
