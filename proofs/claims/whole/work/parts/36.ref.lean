/-! what a tick needs of the state. B bounds the ticks of the state -/
def TI (B : Nat) (u : kS) : Prop := (0 ≤ u.1 2 ∧ u.1 2 ≤ 6) ∧ (∀ c : Nat, c < (u.1 2).toNatClampNeg → u.2.2.1 3 c = 0 ∨ u.2.2.1 3 c = 1 ∨ u.2.2.1 3 c = 2) ∧ (1 ≤ u.1 6 ∧ u.1 6 ≤ 8) ∧ (u.2.2.1 10 0 = -9 ∨ ¬ kin (u.2.2.1 10 0) 0 (u.1 2 - 1) = 0) ∧ (¬ kin (u.2.2.1 10 1) 0 40 = 0) ∧
  (u.2.2.1 22 0 = 0 ∨ u.2.2.1 22 0 = 1 ∨ u.2.2.1 22 0 = 2 ∨ u.2.2.1 22 0 = 3) ∧ (u.2.2.1 22 1 = 0 ∨ u.2.2.1 22 1 = 1 ∨ u.2.2.1 22 1 = 2 ∨ u.2.2.1 22 1 = 3) ∧ (u.2.2.1 22 0 = 0 ∨ u.2.2.1 22 0 = 1 → u.2.2.1 24 0 = 0) ∧ (u.2.2.1 22 1 = 0 ∨ u.2.2.1 22 1 = 1 → u.2.2.1 24 1 = 0) ∧
  (u.1 12 = 0 ∨ u.1 12 = 1 ∨ u.1 12 = 2 ∨ u.1 12 = 3 ∨ u.1 12 = 4) ∧ (u.1 12 = 1 ∨ u.1 12 = 2 ∨ u.1 12 = 3 → u.2.2.1 22 0 = 1 ∨ u.2.2.1 22 1 = 1) ∧ ((u.1 14 = 0 ∨ u.1 14 = 1) ∧ (u.1 15 = 0 ∨ u.1 15 = 1) ∧ (u.1 16 = 0 ∨ u.1 16 = 1)) ∧
  (∃ k : Nat, k ≤ B ∧ B < 1000000 ∧ u.1 34 = nI k) ∧ (u.1 12 = 3 ∨ u.1 12 = 4 → u.1 13 = u.1 34) ∧ (u.1 12 = 4 → (1 ≤ u.1 34 → u.1 14 = 0) ∧ (2 ≤ u.1 34 → u.1 15 = 0) ∧ (3 ≤ u.1 34 → u.1 16 = 1))
def GY (u : kS) : Prop := (u.2.2.1 22 0 = 1 ∨ u.2.2.1 22 1 = 1) ∧ (u.2.2.1 22 0 = 0 → u.2.2.1 24 0 = 0) ∧ (u.2.2.1 22 1 = 0 → u.2.2.1 24 1 = 0) ∧ ¬ u.1 12 = 4
def GX (u : kS) : Prop := (0 ≤ u.1 2 ∧ u.1 2 ≤ 6) ∧ (∀ c : Nat, c < (u.1 2).toNatClampNeg → u.2.2.1 3 c = 0 ∨ u.2.2.1 3 c = 1 ∨ u.2.2.1 3 c = 2) ∧ (1 ≤ u.1 6 ∧ u.1 6 ≤ 8) ∧ (u.2.2.1 10 0 = -9 ∨ ¬ kin (u.2.2.1 10 0) 0 (u.1 2 - 1) = 0) ∧ (¬ kin (u.2.2.1 10 1) 0 40 = 0) ∧ GY u
def otB (u : kS) : Int32 × kS := if ptR (u.1 12) (u.1 34) = 0 then (0, pt_S u) else (fl_R (pt_S u), fw_S (pt_S u))
theorem ldT_t {u : kS} (hL : ld_R u = 0) (hs : ¬ u.1 12 = 4) : ldT u = s_trip (ld_S u) := (if_pos hL).trans (if_neg hs)
theorem trips_trip {u : kS} : s_trips (s_trip u) = s_trip u := if_pos rfl
theorem fw1_a {i3 : Nat → Int32} {l3 : Nat → Int64} {a3 : Nat → Nat → Int32} {h3v : Nat → Int64} {q : Int32} (h : ¬ i3 12 = 1) : fw_1 (i3, l3, a3, h3v) q = tk_S (i3, l3, a3, h3v) q := by
  unfold fw_1 rn_S
  split
  · rfl
  · exact if_neg h
theorem GY_run {u : kS} {q : Int32} (h : GY u) : GY (fw_1 u q) := by
  unfold fw_1 rn_S
  split
  · exact h
  · split
    · exact ⟨h.1, h.2.1, h.2.2.1, (by show ¬ upd (upd (tk_S u q).1 12 2) 34 0 12 = (4 : Int32); rw [pk_un (by decide), pk_us]; decide)⟩
    · exact h
theorem kba1 {x : Int32} (h : x = 0 ∨ x = 1) : x &&& 1 = 0 ∨ x &&& 1 = 1 := by rcases h with rfl | rfl <;> decide
theorem kbo1 {x : Int32} (h : x = 0 ∨ x = 1) : x ||| 1 = 0 ∨ x ||| 1 = 1 := by rcases h with rfl | rfl <;> decide
theorem kbo0 {x : Int32} (h : x = 0 ∨ x = 1) : x ||| 0 = 0 ∨ x ||| 0 = 1 := by rcases h with rfl | rfl <;> decide
theorem kb1 {x : Int32} (h : x = 0 ∨ x = 1) : x &&& 1 = x := by rcases h with rfl | rfl <;> decide
theorem kb2 {x : Int32} (h : x = 0 ∨ x = 1) : x ||| 1 = 1 := by rcases h with rfl | rfl <;> decide
section
variable {i1 : Nat → Int32} {l1 : Nat → Int64} {a1 : Nat → Nat → Int32} {h1v : Nat → Int64} {B : Nat} {g : kG} {h0 : Nat} {ad : Nat → Nat}
theorem st12 (hT : TI B (i1, l1, a1, h1v)) (h4 : ¬ i1 12 = 4) (h0_ : ¬ i1 12 = 0) (h3 : ¬ i1 12 = 3) : i1 12 = 1 ∨ i1 12 = 2 ∨ i1 12 = 3 := by
  rcases hT.2.2.2.2.2.2.2.2.2.1 with h | h | h | h | h
  · exact absurd h h0_
  · exact Or.inl h
  · exact Or.inr (Or.inl h)
  · exact absurd h h3
  · exact absurd h h4
theorem pt_r4 (h : i1 12 = 4) : ptR (i1 12) (i1 34) = 0 := by rw [h]; rfl
theorem pt_r0 (h : i1 12 = 0) : ptR (i1 12) (i1 34) = 0 := by rw [h]; rfl
theorem pt_r12 (h : i1 12 = 1 ∨ i1 12 = 2 ∨ i1 12 = 3) (h3 : ¬ i1 12 = 3) : ¬ ptR (i1 12) (i1 34) = 0 := by
  rcases h with h | h | h
  · rw [h]; unfold ptR; rw [if_pos rfl]; decide
  · rw [h]; unfold ptR; rw [if_neg (by decide), if_pos rfl]; decide
  · exact absurd h h3
theorem par2 {k : Nat} (hk : k < 1000001) : nI k - nI k / 2 * 2 = nI (k % 2) := pk_rem (d := 2) (by omega) (by decide) (by decide)
theorem pt_r3 (hT : TI B (i1, l1, a1, h1v)) (h3 : i1 12 = 3) (hr : ¬ i1 13 + 1 - (i1 13 + 1) / 2 * 2 = 0) : ¬ ptR (i1 12) (i1 34) = 0 := by
  obtain ⟨k, hk, hB, e⟩ := hT.2.2.2.2.2.2.2.2.2.2.2.2.1
  have e13 : i1 13 = nI k := (hT.2.2.2.2.2.2.2.2.2.2.2.2.2.1 (Or.inl h3)).trans e
  have e34 : i1 34 = nI k := e
  rw [e13, nI_1, par2 (by omega)] at hr
  rw [h3, e34]
  unfold ptR
  rw [if_neg (by decide), if_neg (by decide), if_pos rfl, nI_1, par2 (by omega)]
  rcases (show (k + 1) % 2 = 0 ∨ (k + 1) % 2 = 1 by omega) with q | q
  · rw [q] at hr; exact absurd rfl hr
  · rw [q]; decide
theorem pt_r3z (hT : TI B (i1, l1, a1, h1v)) (h3 : i1 12 = 3) (hr : i1 13 + 1 - (i1 13 + 1) / 2 * 2 = 0) : ptR (i1 12) (i1 34) = 0 := by
  have e13 : i1 13 = i1 34 := hT.2.2.2.2.2.2.2.2.2.2.2.2.2.1 (Or.inl h3)
  rw [e13] at hr
  rw [h3]
  unfold ptR
  rw [if_neg (by decide), if_neg (by decide), if_pos rfl, hr]
  rfl
theorem since1 (hT : TI B (i1, l1, a1, h1v)) (h4 : i1 12 = 4) : 1 ≤ i1 13 + 1 := by
  obtain ⟨k, hk, hB, e⟩ := hT.2.2.2.2.2.2.2.2.2.2.2.2.1
  have e13 : i1 13 = nI k := (hT.2.2.2.2.2.2.2.2.2.2.2.2.2.1 (Or.inr h4)).trans e
  rw [e13, nI_1]
  exact nI_le (a := 1) (by omega) (by omega)
theorem pt_w0 (h : i1 12 = 0) : wR g h0 ad (i1, l1, a1, h1v) = wR g h0 ad (pt_S (i1, l1, a1, h1v)) := by
  simp [wR, pt_S, ptF, ptP, ptV, h, upd]
theorem pt_w12 (h4 : ¬ i1 12 = 4) (h3 : ¬ i1 12 = 3) : wR g h0 ad (i1, l1, a1, h1v) = wR g h0 ad (pt_S (i1, l1, a1, h1v)) := by
  simp [wR, pt_S, ptF, ptP, ptV, h4, h3, upd]
theorem pt_w3 (h3 : i1 12 = 3) : wR g h0 ad (upd i1 13 (i1 13 + 1), l1, a1, h1v) = wR g h0 ad (pt_S (i1, l1, a1, h1v)) := by
  simp [wR, pt_S, ptF, ptP, ptV, h3, upd]
theorem pt_k4 (hT : TI B (i1, l1, a1, h1v)) (h4 : i1 12 = 4) : ∃ k : Nat, k < 1000000 ∧ i1 13 = nI k ∧ i1 34 = nI k ∧ (1 ≤ k → i1 14 = 0) ∧ (2 ≤ k → i1 15 = 0) ∧ (3 ≤ k → i1 16 = 1) := by
  obtain ⟨k, hk, hB, e⟩ := hT.2.2.2.2.2.2.2.2.2.2.2.2.1
  have e34 : i1 34 = nI k := e
  obtain ⟨v1, v2, v3⟩ := hT.2.2.2.2.2.2.2.2.2.2.2.2.2.2 h4
  refine ⟨k, by omega, (hT.2.2.2.2.2.2.2.2.2.2.2.2.2.1 (Or.inr h4)).trans e, e34, fun q => v1 ?_, fun q => v2 ?_, fun q => v3 ?_⟩
  · show (1 : Int32) ≤ i1 34
    rw [e34]; exact nI_le (a := 1) q (by omega)
  · show (2 : Int32) ≤ i1 34
    rw [e34]; exact nI_le (a := 2) q (by omega)
  · show (3 : Int32) ≤ i1 34
    rw [e34]; exact nI_le (a := 3) q (by omega)
theorem mvF_e {k : Nat} {x : Int32} (hk : k < 1000000) (h : 1 ≤ k → x = 0) : mvF (nI k + 1) x = 0 := by
  unfold mvF
  rcases Nat.eq_zero_or_pos k with rfl | q
  · rfl
  · rw [h q, ite_self]
theorem mvP_2 {k : Nat} {x : Int32} (hk : k < 1000000) (h2 : 2 ≤ nI k + 1) (h : 2 ≤ k → x = 0) : mvP (nI k + 1) x = 0 := by
  rw [nI_1] at h2
  have q : 2 ≤ k + 1 := (nI_leI (a := 2) (by decide) (by omega)).mp h2
  unfold mvP
  rcases (show k = 1 ∨ 2 ≤ k by omega) with rfl | q
  · rfl
  · rw [h q, ite_self]
theorem mvP_1 {k : Nat} {x : Int32} (hk : k < 1000000) (h2 : ¬ 2 ≤ nI k + 1) : mvP (nI k + 1) x = x := by
  rw [nI_1] at h2 ⊢
  have q : ¬ 2 ≤ k + 1 := fun q => h2 (nI_le (a := 2) q (by omega))
  unfold mvP
  exact if_neg (fun e => q (by have := (nI_eq (a := k + 1) (b := 2) (by omega) (by decide)).mp e; omega))
theorem mvV_1 {k : Nat} {x : Int32} (hk : k < 1000000) (h2 : nI k + 1 ≤ 2) : mvV (nI k + 1) x = x := by
  rw [nI_1] at h2 ⊢
  have q : k + 1 ≤ 2 := (nI_leI (b := 2) (by omega) (by decide)).mp h2
  unfold mvV
  exact if_neg (fun e => by have := (nI_eq (a := k + 1) (b := 3) (by omega) (by decide)).mp e; omega)
theorem mvV_2 {k : Nat} {x : Int32} (hk : k < 1000000) (h2 : ¬ nI k + 1 ≤ 2) (h : 3 ≤ k → x = 1) : mvV (nI k + 1) x = 1 := by
  rw [nI_1] at h2
  have q : ¬ k + 1 ≤ 2 := fun q => h2 (nI_le (b := 2) q (by decide))
  unfold mvV
  rcases (show k = 2 ∨ 3 ≤ k by omega) with rfl | q
  · rfl
  · rw [h q, ite_self]
theorem pt_w4aa (hT : TI B (i1, l1, a1, h1v)) (h4 : i1 12 = 4) (c2 : ¬ 2 ≤ i1 13 + 1) (c3 : i1 13 + 1 ≤ 2) : wR g h0 ad (upd (upd (upd (upd i1 13 (i1 13 + 1)) 14 (i1 14 &&& 0)) 15 (i1 15 &&& 1)) 16 (i1 16 ||| 0), l1, a1, h1v) = wR g h0 ad (pt_S (i1, l1, a1, h1v)) := by
  obtain ⟨k, hk, e13, e34, v1, v2, v3⟩ := pt_k4 hT h4
  rw [e13] at c2 c3
  have f1 := mvF_e hk v1
  have f2 := mvP_1 (x := i1 15) hk c2
  have f3 := mvV_1 (x := i1 16) hk c3
  have b2 := kb1 hT.2.2.2.2.2.2.2.2.2.2.2.1.2.1
  simp only at b2
  simp [wR, pt_S, ptF, ptP, ptV, h4, upd, e13, e34, f1, f2, f3, b2]
theorem pt_w4ba (hT : TI B (i1, l1, a1, h1v)) (h4 : i1 12 = 4) (c2 : 2 ≤ i1 13 + 1) (c3 : i1 13 + 1 ≤ 2) : wR g h0 ad (upd (upd (upd (upd i1 13 (i1 13 + 1)) 14 (i1 14 &&& 0)) 15 (i1 15 &&& 0)) 16 (i1 16 ||| 0), l1, a1, h1v) = wR g h0 ad (pt_S (i1, l1, a1, h1v)) := by
  obtain ⟨k, hk, e13, e34, v1, v2, v3⟩ := pt_k4 hT h4
  rw [e13] at c2 c3
  have f1 := mvF_e hk v1
  have f2 := mvP_2 hk c2 v2
  have f3 := mvV_1 (x := i1 16) hk c3
  simp [wR, pt_S, ptF, ptP, ptV, h4, upd, e13, e34, f1, f2, f3]
theorem pt_w4bb (hT : TI B (i1, l1, a1, h1v)) (h4 : i1 12 = 4) (c2 : 2 ≤ i1 13 + 1) (c3 : ¬ i1 13 + 1 ≤ 2) : wR g h0 ad (upd (upd (upd (upd i1 13 (i1 13 + 1)) 14 (i1 14 &&& 0)) 15 (i1 15 &&& 0)) 16 (i1 16 ||| 1), l1, a1, h1v) = wR g h0 ad (pt_S (i1, l1, a1, h1v)) := by
  obtain ⟨k, hk, e13, e34, v1, v2, v3⟩ := pt_k4 hT h4
  rw [e13] at c2 c3
  have f1 := mvF_e hk v1
  have f2 := mvP_2 hk c2 v2
  have f3 := mvV_2 hk c3 v3
  have b3 := kb2 hT.2.2.2.2.2.2.2.2.2.2.2.1.2.2
  simp only at b3
  simp [wR, pt_S, ptF, ptP, ptV, h4, upd, e13, e34, f1, f2, f3, b3]
theorem pt_w4ab (hT : TI B (i1, l1, a1, h1v)) (h4 : i1 12 = 4) (c2 : ¬ 2 ≤ i1 13 + 1) (c3 : ¬ i1 13 + 1 ≤ 2) {P : Prop} : P := by
  obtain ⟨k, hk, e13, -⟩ := pt_k4 hT h4
  rw [e13] at c2 c3
  exact absurd (Int32.le_of_lt (Int32.not_le.mp c2)) c3
theorem GX_pt (hT : TI B (i1, l1, a1, h1v)) (h : i1 12 = 1 ∨ i1 12 = 2 ∨ i1 12 = 3) : GX (pt_S (i1, l1, a1, h1v)) := by
  refine ⟨hT.1, hT.2.1, hT.2.2.1, hT.2.2.2.1, hT.2.2.2.2.1, hT.2.2.2.2.2.2.2.2.2.2.1 h, fun q => hT.2.2.2.2.2.2.2.1 (Or.inl q), fun q => hT.2.2.2.2.2.2.2.2.1 (Or.inl q), ?_⟩
  have e : (pt_S (i1, l1, a1, h1v)).1 12 = i1 12 := rfl
  rw [e]
  rcases h with h | h | h <;> rw [h] <;> decide
end
/-- an adsorber's step keeps what a tick needs -/
theorem stp_h {ho ti ht oh : Int32} (h : ho = 0 ∨ ho = 1 ∨ ho = 2 ∨ ho = 3) : stH ho ti ht oh = 0 ∨ stH ho ti ht oh = 1 ∨ stH ho ti ht oh = 2 ∨ stH ho ti ht oh = 3 := by
  by_cases h2 : 2 ≤ ho
  · by_cases hl : ht ≤ ti + 1
    · by_cases e2 : ho = 2
      · rw [(st_c ho 0 ti ht oh e2 hl).1]; simp
      · by_cases e1 : oh = 1
        · rw [(st_d ho 0 ti ht oh (st_3 h h2 e2) hl e1).1]; simp
        · rw [(st_e ho 0 ti ht oh (st_3 h h2 e2) hl e1).1]; simp
    · rw [(st_b ho 0 ti ht oh h h2 hl).1]; exact h
  · rw [(st_a ho 0 ti ht oh h h2).1]; exact h
theorem stp_t {ho ti ht oh : Int32} (h : ho = 0 ∨ ho = 1 ∨ ho = 2 ∨ ho = 3) (hr : ho = 0 ∨ ho = 1 → ti = 0) : stH ho ti ht oh = 0 ∨ stH ho ti ht oh = 1 → stT ho ti ht oh = 0 := by
  intro q
  by_cases h2 : 2 ≤ ho
  · by_cases hl : ht ≤ ti + 1
    · by_cases e2 : ho = 2
      · exact (st_c ho 0 ti ht oh e2 hl).2.2
      · by_cases e1 : oh = 1
        · exact (st_d ho 0 ti ht oh (st_3 h h2 e2) hl e1).2.2
        · exact (st_e ho 0 ti ht oh (st_3 h h2 e2) hl e1).2.2
    · rw [(st_b ho 0 ti ht oh h h2 hl).1] at q
      rcases q with q | q <;> rw [q] at h2 <;> exact absurd h2 (by decide)
  · have e := st_a ho 0 ti ht oh h h2
    rw [e.1] at q
    rw [e.2.2]
    exact hr q
theorem stp_on {ho ti ht oh : Int32} (h : ho = 1) : stH ho ti ht oh = 1 := by
  rw [(st_a ho 0 ti ht oh (Or.inr (Or.inl h)) (by rw [h]; decide)).1]; exact h
theorem TI_ot1 {B : Nat} {u : kS} (hT : TI B u) : TI B (ot_1 u) := by
  obtain ⟨t1, t2, t3, t4, t5, t6, t7, t8, t9, t10, t11, t12, t13, t14, t15⟩ := hT
  refine ⟨t1, t2, t3, t4, t5, ?_, ?_, ?_, ?_, t10, ?_, t12, t13, t14, t15⟩
  · exact stp_h t6
  · exact stp_h t7
  · exact stp_t t6 t8
  · exact stp_t t7 t9
  · intro q
    rcases t11 q with e | e
    · exact Or.inl (stp_on e)
    · exact Or.inr (stp_on e)
set_option maxRecDepth 100000 in
set_option maxHeartbeats 4000000 in
theorem r_g4 {p : Program} {l : Launch} {e : Env} {s : State} {m : MethodId} {args : Array Value} {below : List Frame} {meth : Method} {c : Code} {g : kG} {A : Nat → Prop} {nm : String} {h0 : Nat} {ad : Nat → Nat} (F : kF p s m args meth c g A 2 cX10_goes "ColdWorksModel" (some .int) nm) (u : kS) (q : Int32) (hY : GY u) : KW p l e ((rmK 2 0 0 51)) s m args below meth c (MQ below ((kDi g q (wR g h0 ad (fwC u))) A) args s ((rmK 2 0 0 51)).cells ((rmK 2 0 0 51)).slots A) g A 2 (wR g h0 ad u) 0 0 178 [(1, .int q), (0, .ref h0)] [] := by
  obtain ⟨i4, l4, a4, h4v⟩ := u
  refine k_aload_n (n := 179) F dX10_goes_178 rfl 1 rfl rfl ?_
  refine k_cvA (n := 182) (w0 := wR g h0 ad (ldT (i4, l4, a4, h4v))) (is := [0, 1, 2, 3, 4, 5, 6, 7, 8, 9, 10, 11, 12, 13, 14]) F (k_rV (k := 0) (b := h0) (As := []) (rest := []) F (r_loads l g h0 ad i4 l4 a4 h4v hY.1 hY.2.1 hY.2.2.1) [0, 1, 2, 3, 4, 5, 6, 7, 8, 9, 10, 11, 12, 13, 14] rfl rfl 0 rfl rfl mw_772 mw_769 mw_771 mw_s26 mw_9 (by decide) ⟨by decide, by decide⟩ rfl (Nat.le_of_ble_eq_true rfl) ⟨by decide, by decide⟩ dX10_goes_179) rfl rfl ?_
  by_cases hL : ld_R (i4, l4, a4, h4v) = 0
  · have eT : ldT (i4, l4, a4, h4v) = s_trip (ld_S (i4, l4, a4, h4v)) := ldT_t hL hY.2.2.2
    refine k_world (ws' := wR g h0 ad (s_trip (ld_S (i4, l4, a4, h4v)))) (by rw [eT]) ?_
    refine k_aload_n (n := 183) F dX10_goes_182 rfl 1 rfl rfl ?_
    refine k_rget_17 (n := 186) (v := (s_trip (ld_S (i4, l4, a4, h4v))).1 17) F rfl dX10_goes_183 rfl ?_
    refine k_aload_n (n := 187) F dX10_goes_186 rfl 1 rfl rfl ?_
    refine k_rget_10 (n := 190) F dX10_goes_187 rfl ?_
    refine k_iconst (n := 191) (v := 3) F dX10_goes_190 rfl rfl ?_
    refine k_rald_10 (n := 192) (N := 3) (f := (s_trip (ld_S (i4, l4, a4, h4v))).2.2.1 10) F rfl (kIx_nI (j := 3) (by decide) (by decide)) dX10_goes_191 rfl ?_
    refine k_icmp_lt (n := 195) (tgt := 199) F dX10_goes_192 (by decide) rfl (fun hc401 => ?_) (fun hc401 => ?_)
    · refine k_iload_n (n := 200) F dX10_goes_199 rfl 0 rfl rfl ?_
      have eC : fwC (i4, l4, a4, h4v) = s_trip (ld_S (i4, l4, a4, h4v)) := if_pos hL
      exact k_iret F rfl (by rw [eC]) dX10_goes_200
    · refine k_aload_n (n := 196) F dX10_goes_195 rfl 1 rfl rfl ?_
      refine k_cvA (n := 199) (w0 := wR g h0 ad (s_trips ((s_trip (ld_S (i4, l4, a4, h4v)))))) (is := [0, 1, 2, 3, 4, 5, 6, 7, 8, 9, 10, 11, 12, 13, 14]) F (k_rV (k := 0) (b := h0) (As := []) (rest := []) F (r_trips l g h0 ad (((s_trip (ld_S (i4, l4, a4, h4v)))).1) (((s_trip (ld_S (i4, l4, a4, h4v)))).2.1) (((s_trip (ld_S (i4, l4, a4, h4v)))).2.2.1) (((s_trip (ld_S (i4, l4, a4, h4v)))).2.2.2)) [0, 1, 2, 3, 4, 5, 6, 7, 8, 9, 10, 11, 12, 13, 14] rfl rfl 0 rfl rfl mw_744 mw_741 mw_743 mw_s21 mw_9 (by decide) ⟨by decide, by decide⟩ rfl (Nat.le_of_ble_eq_true rfl) ⟨by decide, by decide⟩ dX10_goes_196) rfl rfl ?_
      refine k_iload_n (n := 200) F dX10_goes_199 rfl 0 rfl rfl ?_
      have eC : fwC (i4, l4, a4, h4v) = s_trip (ld_S (i4, l4, a4, h4v)) := if_pos hL
      exact k_iret F rfl (by rw [eC]; exact congrArg (wR g h0 ad) trips_trip) dX10_goes_200
  · have eT : ldT (i4, l4, a4, h4v) = ld_S (i4, l4, a4, h4v) := if_neg hL
    refine k_world (ws' := wR g h0 ad (ld_S (i4, l4, a4, h4v))) (by rw [eT]) ?_
    refine k_aload_n (n := 183) F dX10_goes_182 rfl 1 rfl rfl ?_
    refine k_rget_17 (n := 186) (v := (ld_S (i4, l4, a4, h4v)).1 17) F rfl dX10_goes_183 rfl ?_
    refine k_aload_n (n := 187) F dX10_goes_186 rfl 1 rfl rfl ?_
    refine k_rget_10 (n := 190) F dX10_goes_187 rfl ?_
    refine k_iconst (n := 191) (v := 3) F dX10_goes_190 rfl rfl ?_
    refine k_rald_10 (n := 192) (N := 3) (f := (ld_S (i4, l4, a4, h4v)).2.2.1 10) F rfl (kIx_nI (j := 3) (by decide) (by decide)) dX10_goes_191 rfl ?_
    refine k_icmp_lt (n := 195) (tgt := 199) F dX10_goes_192 (by decide) rfl (fun hc402 => ?_) (fun hc402 => ?_)
    · refine k_iload_n (n := 200) F dX10_goes_199 rfl 0 rfl rfl ?_
      have eC : fwC (i4, l4, a4, h4v) = ld_S (i4, l4, a4, h4v) := (if_neg hL).trans (if_neg (Int32.not_le.mpr hc402))
      exact k_iret F rfl (by rw [eC]) dX10_goes_200
    · refine k_aload_n (n := 196) F dX10_goes_195 rfl 1 rfl rfl ?_
      refine k_cvA (n := 199) (w0 := wR g h0 ad (s_trips ((ld_S (i4, l4, a4, h4v))))) (is := [0, 1, 2, 3, 4, 5, 6, 7, 8, 9, 10, 11, 12, 13, 14]) F (k_rV (k := 0) (b := h0) (As := []) (rest := []) F (r_trips l g h0 ad (((ld_S (i4, l4, a4, h4v))).1) (((ld_S (i4, l4, a4, h4v))).2.1) (((ld_S (i4, l4, a4, h4v))).2.2.1) (((ld_S (i4, l4, a4, h4v))).2.2.2)) [0, 1, 2, 3, 4, 5, 6, 7, 8, 9, 10, 11, 12, 13, 14] rfl rfl 0 rfl rfl mw_744 mw_741 mw_743 mw_s21 mw_9 (by decide) ⟨by decide, by decide⟩ rfl (Nat.le_of_ble_eq_true rfl) ⟨by decide, by decide⟩ dX10_goes_196) rfl rfl ?_
      refine k_iload_n (n := 200) F dX10_goes_199 rfl 0 rfl rfl ?_
      have eC : fwC (i4, l4, a4, h4v) = s_trip (ld_S (i4, l4, a4, h4v)) := (if_neg hL).trans (if_pos (Int32.not_lt.mp hc402))
      exact k_iret F rfl (by rw [eC]; exact congrArg (wR g h0 ad) (if_neg hY.2.2.2)) dX10_goes_200
set_option maxRecDepth 100000 in
set_option maxHeartbeats 4000000 in
theorem r_g3 {p : Program} {l : Launch} {e : Env} {s : State} {m : MethodId} {args : Array Value} {below : List Frame} {meth : Method} {c : Code} {g : kG} {A : Nat → Prop} {nm : String} {h0 : Nat} {ad : Nat → Nat} (F : kF p s m args meth c g A 2 cX10_goes "ColdWorksModel" (some .int) nm) (u : kS) (hX : GX u) : KW p l e ((rmK 2 0 0 51)) s m args below meth c (MQ below ((kDi g (fl_R u) (wR g h0 ad (fw_S u))) A) args s ((rmK 2 0 0 51)).cells ((rmK 2 0 0 51)).slots A) g A 2 (wR g h0 ad u) 0 0 144 [(0, .ref h0)] [] := by
  obtain ⟨i2, l2, a2, h2v⟩ := u
  refine k_aload_n (n := 145) F dX10_goes_144 rfl 0 rfl rfl ?_
  refine k_ciA (n := 148) (w0 := wR g h0 ad (fl_S (i2, l2, a2, h2v))) (is := [0, 1, 2, 3, 4, 5, 6, 7, 8, 9, 10, 11, 12, 13, 14]) F (k_rV (k := 0) (b := h0) (As := []) (rest := []) F (r_flows l g h0 ad i2 l2 a2 h2v hX.1 hX.2.1 hX.2.2.1 hX.2.2.2.1 hX.2.2.2.2.1) [0, 1, 2, 3, 4, 5, 6, 7, 8, 9, 10, 11, 12, 13, 14] rfl rfl 0 rfl rfl mw_764 mw_761 mw_763 mw_s24 mw_9 (by decide) ⟨by decide, by decide⟩ rfl (Nat.le_of_ble_eq_true rfl) ⟨by decide, by decide⟩ dX10_goes_145) rfl rfl ?_
  have hY : GY (fl_S (i2, l2, a2, h2v)) := hX.2.2.2.2.2
  have eS : fw_S (i2, l2, a2, h2v) = fwC (fw_1 (fl_S (i2, l2, a2, h2v)) (fl_R (i2, l2, a2, h2v))) := rfl
  rw [eS]
  generalize fl_R (i2, l2, a2, h2v) = q
  generalize fl_S (i2, l2, a2, h2v) = u3 at hY ⊢
  obtain ⟨i3, l3, a3, h3v⟩ := u3
  refine k_istore_n (n := 149) (lv' := [(1, .int q), (0, .ref h0)]) F dX10_goes_148 rfl (by decide) rfl rfl ?_
  refine k_aload_n (n := 150) F dX10_goes_149 rfl 1 rfl rfl ?_
  refine k_iload_n (n := 151) F dX10_goes_150 rfl 0 rfl rfl ?_
  refine k_cvA (n := 154) (w0 := wR g h0 ad (tk_S (i3, l3, a3, h3v) q)) (is := [0, 1, 2, 3, 4, 5, 6, 7, 8, 9, 10, 11, 12, 13, 14]) F (k_rV (k := 1) (b := h0) (As := [.int q]) (rest := []) F (r_stores l g h0 ad i3 l3 a3 h3v q) [0, 1, 2, 3, 4, 5, 6, 7, 8, 9, 10, 11, 12, 13, 14] rfl rfl 0 rfl rfl mw_768 mw_765 mw_767 mw_s25 mw_9 (by decide) ⟨by decide, by decide⟩ rfl (Nat.le_of_ble_eq_true rfl) ⟨by decide, by decide⟩ dX10_goes_151) rfl rfl ?_
  refine k_world (ws' := wR g h0 ad (upd (upd i3 17 ((i3 17) + tkT (a3 10 3) (i3 17) q)) 18 ((i3 18) + tkB (a3 10 3) (i3 17) (i3 18) q), vp_updL (vp_updL l3 19 ((l3 19) + q.toInt64)) 21 ((l3 21) + (q - tkT (a3 10 3) (i3 17) q - tkB (a3 10 3) (i3 17) (i3 18) q).toInt64), a3, h3v)) rfl ?_
  refine k_aload_n (n := 155) F dX10_goes_154 rfl 1 rfl rfl ?_
  refine k_aload_n (n := 156) F dX10_goes_155 rfl 1 rfl rfl ?_
  refine k_rget_12 (n := 159) (v := i3 12) F (show (upd (upd i3 17 ((i3 17) + tkT (a3 10 3) (i3 17) q)) 18 ((i3 18) + tkB (a3 10 3) (i3 17) (i3 18) q)) 12 = i3 12 from (pk_un (k := 18) (j := 12) (by decide)).trans (pk_un (k := 17) (j := 12) (by decide))) dX10_goes_156 rfl ?_
  refine k_iconst (n := 160) (v := 1) F dX10_goes_159 rfl rfl ?_
  refine k_icmp_ne (n := 163) (tgt := 171) F dX10_goes_160 (by decide) rfl (fun hc301 => ?_) (fun hc301 => ?_)
  · refine k_aload_n (n := 172) F dX10_goes_171 rfl 1 rfl rfl ?_
    refine k_rget_12 (n := 175) (v := i3 12) F (show (upd (upd i3 17 ((i3 17) + tkT (a3 10 3) (i3 17) q)) 18 ((i3 18) + tkB (a3 10 3) (i3 17) (i3 18) q)) 12 = i3 12 from (pk_un (k := 18) (j := 12) (by decide)).trans (pk_un (k := 17) (j := 12) (by decide))) dX10_goes_172 rfl ?_
    refine k_rput_12 (n := 178) (u' := (upd (upd (upd i3 17 ((i3 17) + tkT (a3 10 3) (i3 17) q)) 18 ((i3 18) + tkB (a3 10 3) (i3 17) (i3 18) q)) 12 (i3 12), vp_updL (vp_updL l3 19 ((l3 19) + q.toInt64)) 21 ((l3 21) + (q - tkT (a3 10 3) (i3 17) q - tkB (a3 10 3) (i3 17) (i3 18) q).toInt64), a3, h3v)) F rfl dX10_goes_175 rfl ?_
    have e1 : fw_1 (i3, l3, a3, h3v) q = tk_S (i3, l3, a3, h3v) q := fw1_a hc301
    refine k_world (ws' := wR g h0 ad (fw_1 (i3, l3, a3, h3v) q)) (by rw [e1]; simp only [tk_S, wR, upd, va_up, vp_updL, reduceIte, Nat.reduceEqDiff]) ?_
    refine k_lv (lv' := [(1, .int q), (0, .ref h0)]) [0, 1] rfl ?_
    exact r_g4 F _ q (GY_run hY)
  · refine k_iload_n (n := 164) F dX10_goes_163 rfl 0 rfl rfl ?_
    refine k_if_le (n := 167) (tgt := 171) F dX10_goes_164 (by decide) rfl (fun hc302 => ?_) (fun hc302 => ?_)
    · refine k_aload_n (n := 172) F dX10_goes_171 rfl 1 rfl rfl ?_
      refine k_rget_12 (n := 175) (v := i3 12) F (show (upd (upd i3 17 ((i3 17) + tkT (a3 10 3) (i3 17) q)) 18 ((i3 18) + tkB (a3 10 3) (i3 17) (i3 18) q)) 12 = i3 12 from (pk_un (k := 18) (j := 12) (by decide)).trans (pk_un (k := 17) (j := 12) (by decide))) dX10_goes_172 rfl ?_
      refine k_rput_12 (n := 178) (u' := (upd (upd (upd i3 17 ((i3 17) + tkT (a3 10 3) (i3 17) q)) 18 ((i3 18) + tkB (a3 10 3) (i3 17) (i3 18) q)) 12 (i3 12), vp_updL (vp_updL l3 19 ((l3 19) + q.toInt64)) 21 ((l3 21) + (q - tkT (a3 10 3) (i3 17) q - tkB (a3 10 3) (i3 17) (i3 18) q).toInt64), a3, h3v)) F rfl dX10_goes_175 rfl ?_
      have e1 : fw_1 (i3, l3, a3, h3v) q = tk_S (i3, l3, a3, h3v) q := if_pos hc302
      refine k_world (ws' := wR g h0 ad (fw_1 (i3, l3, a3, h3v) q)) (by rw [e1]; simp only [tk_S, wR, upd, va_up, vp_updL, reduceIte, Nat.reduceEqDiff]) ?_
      refine k_lv (lv' := [(1, .int q), (0, .ref h0)]) [0, 1] rfl ?_
      exact r_g4 F _ q (GY_run hY)
    · refine k_iconst (n := 168) (v := 2) F dX10_goes_167 rfl rfl ?_
      refine k_goto (tgt := 175) F dX10_goes_168 (by decide) ?_
      refine k_rput_12 (n := 178) (u' := (upd (upd (upd i3 17 ((i3 17) + tkT (a3 10 3) (i3 17) q)) 18 ((i3 18) + tkB (a3 10 3) (i3 17) (i3 18) q)) 12 2, vp_updL (vp_updL l3 19 ((l3 19) + q.toInt64)) 21 ((l3 21) + (q - tkT (a3 10 3) (i3 17) q - tkB (a3 10 3) (i3 17) (i3 18) q).toInt64), a3, h3v)) F rfl dX10_goes_175 rfl ?_
      have e1 : fw_1 (i3, l3, a3, h3v) q = (upd (upd (tk_S (i3, l3, a3, h3v) q).1 12 2) 34 0, (tk_S (i3, l3, a3, h3v) q).2) := (if_neg hc302).trans (if_pos hc301)
      refine k_world (ws' := wR g h0 ad (fw_1 (i3, l3, a3, h3v) q)) (by rw [e1]; simp only [tk_S, wR, upd, va_up, vp_updL, reduceIte, Nat.reduceEqDiff]) ?_
      refine k_lv (lv' := [(1, .int q), (0, .ref h0)]) [0, 1] rfl ?_
      exact r_g4 F _ q (GY_run hY)
set_option maxRecDepth 100000 in
set_option maxHeartbeats 4000000 in
theorem r_g2 {p : Program} {l : Launch} {e : Env} {s : State} {m : MethodId} {args : Array Value} {below : List Frame} {meth : Method} {c : Code} {g : kG} {A : Nat → Prop} {nm : String} {h0 : Nat} {ad : Nat → Nat} (F : kF p s m args meth c g A 2 cX10_goes "ColdWorksModel" (some .int) nm) {B : Nat} (u : kS) (hT : TI B u) : KW p l e ((rmK 2 0 0 51)) s m args below meth c (MQ below ((kDi g ((otB u).1) (wR g h0 ad ((otB u).2))) A) args s ((rmK 2 0 0 51)).cells ((rmK 2 0 0 51)).slots A) g A 2 (wR g h0 ad u) 0 0 20 [(0, .ref h0)] [] := by
  obtain ⟨i1, l1, a1, h1v⟩ := u
  refine k_aload_n (n := 21) F dX10_goes_20 rfl 0 rfl rfl ?_
  refine k_rget_12 (n := 24) (v := i1 12) F rfl dX10_goes_21 rfl ?_
  refine k_iconst (n := 25) (v := 4) F dX10_goes_24 rfl rfl ?_
  refine k_icmp_ne (n := 28) (tgt := 106) F dX10_goes_25 (by decide) rfl (fun hc201 => ?_) (fun hc201 => ?_)
  · refine k_aload_n (n := 107) F dX10_goes_106 rfl 0 rfl rfl ?_
    refine k_rget_12 (n := 110) (v := i1 12) F rfl dX10_goes_107 rfl ?_
    refine k_if_ne (n := 113) (tgt := 115) F dX10_goes_110 (by decide) rfl (fun hc202 => ?_) (fun hc202 => ?_)
    · refine k_aload_n (n := 116) F dX10_goes_115 rfl 0 rfl rfl ?_
      refine k_rget_12 (n := 119) (v := i1 12) F rfl dX10_goes_116 rfl ?_
      refine k_iconst (n := 120) (v := 3) F dX10_goes_119 rfl rfl ?_
      refine k_icmp_ne (n := 123) (tgt := 144) F dX10_goes_120 (by decide) rfl (fun hc203 => ?_) (fun hc203 => ?_)
      · have eB : otB (i1, l1, a1, h1v) = (fl_R (pt_S (i1, l1, a1, h1v)), fw_S (pt_S (i1, l1, a1, h1v))) := if_neg (pt_r12 (st12 hT hc201 hc202 hc203) hc203)
        rw [eB]
        refine k_world (ws' := wR g h0 ad (pt_S (i1, l1, a1, h1v))) (pt_w12 hc201 hc203) ?_
        exact r_g3 F _ (GX_pt hT (st12 hT hc201 hc202 hc203))
      · refine k_aload_n (n := 124) F dX10_goes_123 rfl 0 rfl rfl ?_
        refine k_dup (n := 125) F dX10_goes_124 rfl rfl ?_
        refine k_rget_13 (n := 128) (v := i1 13) F rfl dX10_goes_125 rfl ?_
        refine k_iconst (n := 129) (v := 1) F dX10_goes_128 rfl rfl ?_
        refine k_iadd (n := 130) F dX10_goes_129 rfl ?_
        refine k_rput_13 (n := 133) (u' := (upd i1 13 ((i1 13) + 1), l1, a1, h1v)) F rfl dX10_goes_130 rfl ?_
        refine k_aload_n (n := 134) F dX10_goes_133 rfl 0 rfl rfl ?_
        refine k_rget_13 (n := 137) (v := (i1 13) + 1) F (show (upd i1 13 ((i1 13) + 1)) 13 = (i1 13) + 1 from pk_us) dX10_goes_134 rfl ?_
        refine k_iconst (n := 138) (v := 2) F dX10_goes_137 rfl rfl ?_
        refine k_irem (n := 139) F dX10_goes_138 (by decide) rfl ?_
        refine k_if_ne (n := 142) (tgt := 144) F dX10_goes_139 (by decide) rfl (fun hc204 => ?_) (fun hc204 => ?_)
        · have eB : otB (i1, l1, a1, h1v) = (fl_R (pt_S (i1, l1, a1, h1v)), fw_S (pt_S (i1, l1, a1, h1v))) := if_neg (pt_r3 hT hc203 hc204)
          rw [eB]
          refine k_world (ws' := wR g h0 ad (pt_S (i1, l1, a1, h1v))) (pt_w3 hc203) ?_
          exact r_g3 F _ (GX_pt hT (Or.inr (Or.inr hc203)))
        · refine k_iconst (n := 143) (v := 0) F dX10_goes_142 rfl rfl ?_
          have eB : otB (i1, l1, a1, h1v) = (0, pt_S (i1, l1, a1, h1v)) := if_pos (pt_r3z hT hc203 hc204)
          exact k_iret F (by rw [eB]) (by rw [eB]; exact pt_w3 hc203) dX10_goes_143
    · refine k_iconst (n := 114) (v := 0) F dX10_goes_113 rfl rfl ?_
      have eB : otB (i1, l1, a1, h1v) = (0, pt_S (i1, l1, a1, h1v)) := if_pos (pt_r0 hc202)
      exact k_iret F (by rw [eB]) (by rw [eB]; exact pt_w0 hc202) dX10_goes_114
  · refine k_aload_n (n := 29) F dX10_goes_28 rfl 0 rfl rfl ?_
    refine k_dup (n := 30) F dX10_goes_29 rfl rfl ?_
    refine k_rget_13 (n := 33) (v := i1 13) F rfl dX10_goes_30 rfl ?_
    refine k_iconst (n := 34) (v := 1) F dX10_goes_33 rfl rfl ?_
    refine k_iadd (n := 35) F dX10_goes_34 rfl ?_
    refine k_rput_13 (n := 38) (u' := (upd i1 13 ((i1 13) + 1), l1, a1, h1v)) F rfl dX10_goes_35 rfl ?_
    refine k_aload_n (n := 39) F dX10_goes_38 rfl 0 rfl rfl ?_
    refine k_dup (n := 40) F dX10_goes_39 rfl rfl ?_
    refine k_rget_14 (n := 43) (v := i1 14) F (show (upd i1 13 ((i1 13) + 1)) 14 = i1 14 from pk_un (k := 13) (j := 14) (by decide)) dX10_goes_40 rfl ?_
    refine k_aload_n (n := 44) F dX10_goes_43 rfl 0 rfl rfl ?_
    refine k_rget_13 (n := 47) (v := (i1 13) + 1) F (show (upd i1 13 ((i1 13) + 1)) 13 = (i1 13) + 1 from pk_us) dX10_goes_44 rfl ?_
    refine k_iconst (n := 48) (v := 1) F dX10_goes_47 rfl rfl ?_
    refine k_icmp_ge (n := 51) (tgt := 55) F dX10_goes_48 (by decide) rfl (fun hc205 => ?_) (fun hc205 => ?_)
    · refine k_iconst (n := 56) (v := 0) F dX10_goes_55 rfl rfl ?_
      refine k_iand (n := 57) F dX10_goes_56 rfl ?_
      refine k_rput_14 (n := 60) (u' := (upd (upd i1 13 ((i1 13) + 1)) 14 ((i1 14) &&& 0), l1, a1, h1v)) F (Or.inl (Int32.and_zero)) rfl dX10_goes_57 rfl ?_
      refine k_aload_n (n := 61) F dX10_goes_60 rfl 0 rfl rfl ?_
      refine k_dup (n := 62) F dX10_goes_61 rfl rfl ?_
      refine k_rget_15 (n := 65) (v := i1 15) F (show (upd (upd i1 13 ((i1 13) + 1)) 14 ((i1 14) &&& 0)) 15 = i1 15 from (pk_un (k := 14) (j := 15) (by decide)).trans (pk_un (k := 13) (j := 15) (by decide))) dX10_goes_62 rfl ?_
      refine k_aload_n (n := 66) F dX10_goes_65 rfl 0 rfl rfl ?_
      refine k_rget_13 (n := 69) (v := (i1 13) + 1) F (show (upd (upd i1 13 ((i1 13) + 1)) 14 ((i1 14) &&& 0)) 13 = (i1 13) + 1 from (pk_un (k := 14) (j := 13) (by decide)).trans (pk_us)) dX10_goes_66 rfl ?_
      refine k_iconst (n := 70) (v := 2) F dX10_goes_69 rfl rfl ?_
      refine k_icmp_ge (n := 73) (tgt := 77) F dX10_goes_70 (by decide) rfl (fun hc206 => ?_) (fun hc206 => ?_)
      · refine k_iconst (n := 78) (v := 0) F dX10_goes_77 rfl rfl ?_
        refine k_iand (n := 79) F dX10_goes_78 rfl ?_
        refine k_rput_15 (n := 82) (u' := (upd (upd (upd i1 13 ((i1 13) + 1)) 14 ((i1 14) &&& 0)) 15 ((i1 15) &&& 0), l1, a1, h1v)) F (Or.inl (Int32.and_zero)) rfl dX10_goes_79 rfl ?_
        refine k_aload_n (n := 83) F dX10_goes_82 rfl 0 rfl rfl ?_
        refine k_dup (n := 84) F dX10_goes_83 rfl rfl ?_
        refine k_rget_16 (n := 87) (v := i1 16) F (show (upd (upd (upd i1 13 ((i1 13) + 1)) 14 ((i1 14) &&& 0)) 15 ((i1 15) &&& 0)) 16 = i1 16 from (pk_un (k := 15) (j := 16) (by decide)).trans ((pk_un (k := 14) (j := 16) (by decide)).trans (pk_un (k := 13) (j := 16) (by decide)))) dX10_goes_84 rfl ?_
        refine k_aload_n (n := 88) F dX10_goes_87 rfl 0 rfl rfl ?_
        refine k_rget_13 (n := 91) (v := (i1 13) + 1) F (show (upd (upd (upd i1 13 ((i1 13) + 1)) 14 ((i1 14) &&& 0)) 15 ((i1 15) &&& 0)) 13 = (i1 13) + 1 from (pk_un (k := 15) (j := 13) (by decide)).trans ((pk_un (k := 14) (j := 13) (by decide)).trans (pk_us))) dX10_goes_88 rfl ?_
        refine k_iconst (n := 92) (v := 2) F dX10_goes_91 rfl rfl ?_
        refine k_icmp_le (n := 95) (tgt := 99) F dX10_goes_92 (by decide) rfl (fun hc207 => ?_) (fun hc207 => ?_)
        · refine k_iconst (n := 100) (v := 0) F dX10_goes_99 rfl rfl ?_
          refine k_ior (n := 101) F dX10_goes_100 rfl ?_
          refine k_rput_16 (n := 104) (u' := (upd (upd (upd (upd i1 13 ((i1 13) + 1)) 14 ((i1 14) &&& 0)) 15 ((i1 15) &&& 0)) 16 ((i1 16) ||| 0), l1, a1, h1v)) F (kbo0 hT.2.2.2.2.2.2.2.2.2.2.2.1.2.2) rfl dX10_goes_101 rfl ?_
          refine k_iconst (n := 105) (v := 0) F dX10_goes_104 rfl rfl ?_
          have eB : otB (i1, l1, a1, h1v) = (0, pt_S (i1, l1, a1, h1v)) := if_pos (pt_r4 hc201)
          exact k_iret F (by rw [eB]) (by rw [eB]; exact pt_w4ba hT hc201 hc206 hc207) dX10_goes_105
        · refine k_iconst (n := 96) (v := 1) F dX10_goes_95 rfl rfl ?_
          refine k_goto (tgt := 100) F dX10_goes_96 (by decide) ?_
          refine k_ior (n := 101) F dX10_goes_100 rfl ?_
          refine k_rput_16 (n := 104) (u' := (upd (upd (upd (upd i1 13 ((i1 13) + 1)) 14 ((i1 14) &&& 0)) 15 ((i1 15) &&& 0)) 16 ((i1 16) ||| 1), l1, a1, h1v)) F (kbo1 hT.2.2.2.2.2.2.2.2.2.2.2.1.2.2) rfl dX10_goes_101 rfl ?_
          refine k_iconst (n := 105) (v := 0) F dX10_goes_104 rfl rfl ?_
          have eB : otB (i1, l1, a1, h1v) = (0, pt_S (i1, l1, a1, h1v)) := if_pos (pt_r4 hc201)
          exact k_iret F (by rw [eB]) (by rw [eB]; exact pt_w4bb hT hc201 hc206 hc207) dX10_goes_105
      · refine k_iconst (n := 74) (v := 1) F dX10_goes_73 rfl rfl ?_
        refine k_goto (tgt := 78) F dX10_goes_74 (by decide) ?_
        refine k_iand (n := 79) F dX10_goes_78 rfl ?_
        refine k_rput_15 (n := 82) (u' := (upd (upd (upd i1 13 ((i1 13) + 1)) 14 ((i1 14) &&& 0)) 15 ((i1 15) &&& 1), l1, a1, h1v)) F (kba1 hT.2.2.2.2.2.2.2.2.2.2.2.1.2.1) rfl dX10_goes_79 rfl ?_
        refine k_aload_n (n := 83) F dX10_goes_82 rfl 0 rfl rfl ?_
        refine k_dup (n := 84) F dX10_goes_83 rfl rfl ?_
        refine k_rget_16 (n := 87) (v := i1 16) F (show (upd (upd (upd i1 13 ((i1 13) + 1)) 14 ((i1 14) &&& 0)) 15 ((i1 15) &&& 1)) 16 = i1 16 from (pk_un (k := 15) (j := 16) (by decide)).trans ((pk_un (k := 14) (j := 16) (by decide)).trans (pk_un (k := 13) (j := 16) (by decide)))) dX10_goes_84 rfl ?_
        refine k_aload_n (n := 88) F dX10_goes_87 rfl 0 rfl rfl ?_
        refine k_rget_13 (n := 91) (v := (i1 13) + 1) F (show (upd (upd (upd i1 13 ((i1 13) + 1)) 14 ((i1 14) &&& 0)) 15 ((i1 15) &&& 1)) 13 = (i1 13) + 1 from (pk_un (k := 15) (j := 13) (by decide)).trans ((pk_un (k := 14) (j := 13) (by decide)).trans (pk_us))) dX10_goes_88 rfl ?_
        refine k_iconst (n := 92) (v := 2) F dX10_goes_91 rfl rfl ?_
        refine k_icmp_le (n := 95) (tgt := 99) F dX10_goes_92 (by decide) rfl (fun hc208 => ?_) (fun hc208 => ?_)
        · refine k_iconst (n := 100) (v := 0) F dX10_goes_99 rfl rfl ?_
          refine k_ior (n := 101) F dX10_goes_100 rfl ?_
          refine k_rput_16 (n := 104) (u' := (upd (upd (upd (upd i1 13 ((i1 13) + 1)) 14 ((i1 14) &&& 0)) 15 ((i1 15) &&& 1)) 16 ((i1 16) ||| 0), l1, a1, h1v)) F (kbo0 hT.2.2.2.2.2.2.2.2.2.2.2.1.2.2) rfl dX10_goes_101 rfl ?_
          refine k_iconst (n := 105) (v := 0) F dX10_goes_104 rfl rfl ?_
          have eB : otB (i1, l1, a1, h1v) = (0, pt_S (i1, l1, a1, h1v)) := if_pos (pt_r4 hc201)
          exact k_iret F (by rw [eB]) (by rw [eB]; exact pt_w4aa hT hc201 hc206 hc208) dX10_goes_105
        · refine k_iconst (n := 96) (v := 1) F dX10_goes_95 rfl rfl ?_
          refine k_goto (tgt := 100) F dX10_goes_96 (by decide) ?_
          refine k_ior (n := 101) F dX10_goes_100 rfl ?_
          refine k_rput_16 (n := 104) (u' := (upd (upd (upd (upd i1 13 ((i1 13) + 1)) 14 ((i1 14) &&& 0)) 15 ((i1 15) &&& 1)) 16 ((i1 16) ||| 1), l1, a1, h1v)) F (kbo1 hT.2.2.2.2.2.2.2.2.2.2.2.1.2.2) rfl dX10_goes_101 rfl ?_
          refine k_iconst (n := 105) (v := 0) F dX10_goes_104 rfl rfl ?_
          have eB : otB (i1, l1, a1, h1v) = (0, pt_S (i1, l1, a1, h1v)) := if_pos (pt_r4 hc201)
          exact k_iret F (by rw [eB]) (by rw [eB]; exact pt_w4ab hT hc201 hc206 hc208) dX10_goes_105
    · refine k_iconst (n := 52) (v := 1) F dX10_goes_51 rfl rfl ?_
      refine k_goto (tgt := 56) F dX10_goes_52 (by decide) ?_
      refine k_iand (n := 57) F dX10_goes_56 rfl ?_
      refine k_rput_14 (n := 60) (u' := (upd (upd i1 13 ((i1 13) + 1)) 14 ((i1 14) &&& 1), l1, a1, h1v)) F (kba1 hT.2.2.2.2.2.2.2.2.2.2.2.1.1) rfl dX10_goes_57 rfl ?_
      refine k_aload_n (n := 61) F dX10_goes_60 rfl 0 rfl rfl ?_
      refine k_dup (n := 62) F dX10_goes_61 rfl rfl ?_
      refine k_rget_15 (n := 65) (v := i1 15) F (show (upd (upd i1 13 ((i1 13) + 1)) 14 ((i1 14) &&& 1)) 15 = i1 15 from (pk_un (k := 14) (j := 15) (by decide)).trans (pk_un (k := 13) (j := 15) (by decide))) dX10_goes_62 rfl ?_
      refine k_aload_n (n := 66) F dX10_goes_65 rfl 0 rfl rfl ?_
      refine k_rget_13 (n := 69) (v := (i1 13) + 1) F (show (upd (upd i1 13 ((i1 13) + 1)) 14 ((i1 14) &&& 1)) 13 = (i1 13) + 1 from (pk_un (k := 14) (j := 13) (by decide)).trans (pk_us)) dX10_goes_66 rfl ?_
      refine k_iconst (n := 70) (v := 2) F dX10_goes_69 rfl rfl ?_
      refine k_icmp_ge (n := 73) (tgt := 77) F dX10_goes_70 (by decide) rfl (fun hc209 => ?_) (fun hc209 => ?_)
      · refine k_iconst (n := 78) (v := 0) F dX10_goes_77 rfl rfl ?_
        refine k_iand (n := 79) F dX10_goes_78 rfl ?_
        refine k_rput_15 (n := 82) (u' := (upd (upd (upd i1 13 ((i1 13) + 1)) 14 ((i1 14) &&& 1)) 15 ((i1 15) &&& 0), l1, a1, h1v)) F (Or.inl (Int32.and_zero)) rfl dX10_goes_79 rfl ?_
        refine k_aload_n (n := 83) F dX10_goes_82 rfl 0 rfl rfl ?_
        refine k_dup (n := 84) F dX10_goes_83 rfl rfl ?_
        refine k_rget_16 (n := 87) (v := i1 16) F (show (upd (upd (upd i1 13 ((i1 13) + 1)) 14 ((i1 14) &&& 1)) 15 ((i1 15) &&& 0)) 16 = i1 16 from (pk_un (k := 15) (j := 16) (by decide)).trans ((pk_un (k := 14) (j := 16) (by decide)).trans (pk_un (k := 13) (j := 16) (by decide)))) dX10_goes_84 rfl ?_
        refine k_aload_n (n := 88) F dX10_goes_87 rfl 0 rfl rfl ?_
        refine k_rget_13 (n := 91) (v := (i1 13) + 1) F (show (upd (upd (upd i1 13 ((i1 13) + 1)) 14 ((i1 14) &&& 1)) 15 ((i1 15) &&& 0)) 13 = (i1 13) + 1 from (pk_un (k := 15) (j := 13) (by decide)).trans ((pk_un (k := 14) (j := 13) (by decide)).trans (pk_us))) dX10_goes_88 rfl ?_
        refine k_iconst (n := 92) (v := 2) F dX10_goes_91 rfl rfl ?_
        refine k_icmp_le (n := 95) (tgt := 99) F dX10_goes_92 (by decide) rfl (fun hc210 => ?_) (fun hc210 => ?_)
        · refine k_iconst (n := 100) (v := 0) F dX10_goes_99 rfl rfl ?_
          refine k_ior (n := 101) F dX10_goes_100 rfl ?_
          refine k_rput_16 (n := 104) (u' := (upd (upd (upd (upd i1 13 ((i1 13) + 1)) 14 ((i1 14) &&& 1)) 15 ((i1 15) &&& 0)) 16 ((i1 16) ||| 0), l1, a1, h1v)) F (kbo0 hT.2.2.2.2.2.2.2.2.2.2.2.1.2.2) rfl dX10_goes_101 rfl ?_
          refine k_iconst (n := 105) (v := 0) F dX10_goes_104 rfl rfl ?_
          exact absurd (since1 hT hc201) hc205
        · refine k_iconst (n := 96) (v := 1) F dX10_goes_95 rfl rfl ?_
          refine k_goto (tgt := 100) F dX10_goes_96 (by decide) ?_
          refine k_ior (n := 101) F dX10_goes_100 rfl ?_
          refine k_rput_16 (n := 104) (u' := (upd (upd (upd (upd i1 13 ((i1 13) + 1)) 14 ((i1 14) &&& 1)) 15 ((i1 15) &&& 0)) 16 ((i1 16) ||| 1), l1, a1, h1v)) F (kbo1 hT.2.2.2.2.2.2.2.2.2.2.2.1.2.2) rfl dX10_goes_101 rfl ?_
          refine k_iconst (n := 105) (v := 0) F dX10_goes_104 rfl rfl ?_
          exact absurd (since1 hT hc201) hc205
      · refine k_iconst (n := 74) (v := 1) F dX10_goes_73 rfl rfl ?_
        refine k_goto (tgt := 78) F dX10_goes_74 (by decide) ?_
        refine k_iand (n := 79) F dX10_goes_78 rfl ?_
        refine k_rput_15 (n := 82) (u' := (upd (upd (upd i1 13 ((i1 13) + 1)) 14 ((i1 14) &&& 1)) 15 ((i1 15) &&& 1), l1, a1, h1v)) F (kba1 hT.2.2.2.2.2.2.2.2.2.2.2.1.2.1) rfl dX10_goes_79 rfl ?_
        refine k_aload_n (n := 83) F dX10_goes_82 rfl 0 rfl rfl ?_
        refine k_dup (n := 84) F dX10_goes_83 rfl rfl ?_
        refine k_rget_16 (n := 87) (v := i1 16) F (show (upd (upd (upd i1 13 ((i1 13) + 1)) 14 ((i1 14) &&& 1)) 15 ((i1 15) &&& 1)) 16 = i1 16 from (pk_un (k := 15) (j := 16) (by decide)).trans ((pk_un (k := 14) (j := 16) (by decide)).trans (pk_un (k := 13) (j := 16) (by decide)))) dX10_goes_84 rfl ?_
        refine k_aload_n (n := 88) F dX10_goes_87 rfl 0 rfl rfl ?_
        refine k_rget_13 (n := 91) (v := (i1 13) + 1) F (show (upd (upd (upd i1 13 ((i1 13) + 1)) 14 ((i1 14) &&& 1)) 15 ((i1 15) &&& 1)) 13 = (i1 13) + 1 from (pk_un (k := 15) (j := 13) (by decide)).trans ((pk_un (k := 14) (j := 13) (by decide)).trans (pk_us))) dX10_goes_88 rfl ?_
        refine k_iconst (n := 92) (v := 2) F dX10_goes_91 rfl rfl ?_
        refine k_icmp_le (n := 95) (tgt := 99) F dX10_goes_92 (by decide) rfl (fun hc211 => ?_) (fun hc211 => ?_)
        · refine k_iconst (n := 100) (v := 0) F dX10_goes_99 rfl rfl ?_
          refine k_ior (n := 101) F dX10_goes_100 rfl ?_
          refine k_rput_16 (n := 104) (u' := (upd (upd (upd (upd i1 13 ((i1 13) + 1)) 14 ((i1 14) &&& 1)) 15 ((i1 15) &&& 1)) 16 ((i1 16) ||| 0), l1, a1, h1v)) F (kbo0 hT.2.2.2.2.2.2.2.2.2.2.2.1.2.2) rfl dX10_goes_101 rfl ?_
          refine k_iconst (n := 105) (v := 0) F dX10_goes_104 rfl rfl ?_
          exact absurd (since1 hT hc201) hc205
        · refine k_iconst (n := 96) (v := 1) F dX10_goes_95 rfl rfl ?_
          refine k_goto (tgt := 100) F dX10_goes_96 (by decide) ?_
          refine k_ior (n := 101) F dX10_goes_100 rfl ?_
          refine k_rput_16 (n := 104) (u' := (upd (upd (upd (upd i1 13 ((i1 13) + 1)) 14 ((i1 14) &&& 1)) 15 ((i1 15) &&& 1)) 16 ((i1 16) ||| 1), l1, a1, h1v)) F (kbo1 hT.2.2.2.2.2.2.2.2.2.2.2.1.2.2) rfl dX10_goes_101 rfl ?_
          refine k_iconst (n := 105) (v := 0) F dX10_goes_104 rfl rfl ?_
          exact absurd (since1 hT hc201) hc205
set_option maxRecDepth 100000 in
set_option maxHeartbeats 4000000 in
theorem r_goes (l : Launch) (g : kG) (h0 : Nat) (ad : Nat → Nat) (i : Nat → Int32) (l_ : Nat → Int64) (a : Nat → Nat → Int32) (h : Nat → Int64) {B : Nat} (hT : TI B (i, l_, a, h)) : kM l yX10_goes cX10_goes 2 (some .int) (rmK 2 0 0 51) g [.ref h0] (wR g h0 ad (i, l_, a, h)) (kDi g (ot_S (i, l_, a, h)).1 (wR g h0 ad (ot_S (i, l_, a, h)).2)) := by
  refine k_enter (by decide) (Nat.le_of_ble_eq_true rfl) ?_
  intro p e s m args below meth c A F
  refine k_aload_n (n := 1) F dX10_goes_0 rfl 0 rfl rfl ?_
  refine k_dup (n := 2) F dX10_goes_1 rfl rfl ?_
  refine k_rget_31 (n := 5) (v := i 31) F rfl dX10_goes_2 rfl ?_
  refine k_iconst (n := 6) (v := 1) F dX10_goes_5 rfl rfl ?_
  refine k_iadd (n := 7) F dX10_goes_6 rfl ?_
  refine k_rput_31 (n := 10) (u' := (upd i 31 ((i 31) + 1), l_, a, h)) F rfl dX10_goes_7 rfl ?_
  refine k_aload_n (n := 11) F dX10_goes_10 rfl 0 rfl rfl ?_
  refine k_iconst (n := 12) (v := 0) F dX10_goes_11 rfl rfl ?_
  refine k_cvA (n := 15) (w0 := wR g h0 ad (go_S0 ((upd i 31 ((i 31) + 1), l_, a, h)))) (is := [0, 1, 2, 3, 4, 5, 6, 7, 8, 9, 10, 11, 12, 13, 14]) F (k_rV (k := 1) (b := h0) (As := [.int 0]) (rest := []) F (r_goesOn0 l g h0 ad (upd i 31 ((i 31) + 1)) l_ a h hT.2.2.2.2.2.1) [0, 1, 2, 3, 4, 5, 6, 7, 8, 9, 10, 11, 12, 13, 14] rfl rfl 0 rfl rfl mw_760 mw_757 mw_759 mw_s23 mw_9 (by decide) ⟨by decide, by decide⟩ rfl (Nat.le_of_ble_eq_true rfl) ⟨by decide, by decide⟩ dX10_goes_12) rfl rfl ?_
  refine k_aload_n (n := 16) F dX10_goes_15 rfl 0 rfl rfl ?_
  refine k_iconst (n := 17) (v := 1) F dX10_goes_16 rfl rfl ?_
  refine k_cvA (n := 20) (w0 := wR g h0 ad (go_S1 ((go_S0 ((upd i 31 ((i 31) + 1), l_, a, h)))))) (is := [0, 1, 2, 3, 4, 5, 6, 7, 8, 9, 10, 11, 12, 13, 14]) F (k_rV (k := 1) (b := h0) (As := [.int 1]) (rest := []) F (r_goesOn1 l g h0 ad (((go_S0 ((upd i 31 ((i 31) + 1), l_, a, h)))).1) (((go_S0 ((upd i 31 ((i 31) + 1), l_, a, h)))).2.1) (((go_S0 ((upd i 31 ((i 31) + 1), l_, a, h)))).2.2.1) (((go_S0 ((upd i 31 ((i 31) + 1), l_, a, h)))).2.2.2) hT.2.2.2.2.2.2.1) [0, 1, 2, 3, 4, 5, 6, 7, 8, 9, 10, 11, 12, 13, 14] rfl rfl 0 rfl rfl mw_760 mw_757 mw_759 mw_s23 mw_9 (by decide) ⟨by decide, by decide⟩ rfl (Nat.le_of_ble_eq_true rfl) ⟨by decide, by decide⟩ dX10_goes_17) rfl rfl ?_
  refine k_world (ws' := wR g h0 ad (ot_1 (i, l_, a, h))) (by simp only [go_S1, go_S0, go_SE, ot_1, rg_S, wR, upd, va_up, vp_updL, reduceIte, Nat.reduceEqDiff]) ?_
  exact r_g2 F (ot_1 (i, l_, a, h)) (TI_ot1 hT)
