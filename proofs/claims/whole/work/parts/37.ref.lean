theorem TI_pt {B : Nat} {u : kS} (hT : TI B u) (hB : B + 1 < 1000000) : TI (B + 1) (pt_S u) := by
  obtain ⟨i1, l1, a1, h1v⟩ := u
  have hT' := hT
  obtain ⟨t1, t2, t3, t4, t5, t6, t7, t8, t9, t10, t11, t12, t13, t14, t15⟩ := hT
  refine ⟨t1, t2, t3, t4, t5, t6, t7, t8, t9, t10, t11, ⟨?_, ?_, ?_⟩, ?_, ?_, ?_⟩
  · show ptF (i1 12) (i1 34) (i1 14) = 0 ∨ ptF (i1 12) (i1 34) (i1 14) = 1
    unfold ptF mvF
    repeat' split
    all_goals first | exact t12.1 | exact Or.inl rfl
  · show ptP (i1 12) (i1 34) (i1 15) = 0 ∨ ptP (i1 12) (i1 34) (i1 15) = 1
    unfold ptP mvP
    repeat' split
    all_goals first | exact t12.2.1 | exact Or.inl rfl
  · show ptV (i1 12) (i1 34) (i1 16) = 0 ∨ ptV (i1 12) (i1 34) (i1 16) = 1
    unfold ptV mvV
    repeat' split
    all_goals first | exact t12.2.2 | exact Or.inr rfl
  · obtain ⟨k, hk, hB', e⟩ := t13
    exact ⟨k + 1, by omega, by omega, (show i1 34 + 1 = nI (k + 1) by rw [show i1 34 = nI k from e, nI_1])⟩
  · intro q
    show (if i1 12 = 3 then i1 13 + 1 else if i1 12 = 4 then i1 13 + 1 else i1 13) = i1 34 + 1
    have e : i1 13 = i1 34 := t14 q
    rcases (show i1 12 = 3 ∨ i1 12 = 4 from q) with q | q
    · rw [if_pos q, e]
    · rw [if_neg (by rw [q]; decide), if_pos q, e]
  · intro q
    have q4 : i1 12 = 4 := q
    obtain ⟨k, hk, e13, e34, v1, v2, v3⟩ := pt_k4 hT' q4
    show (1 ≤ i1 34 + 1 → ptF (i1 12) (i1 34) (i1 14) = 0) ∧ (2 ≤ i1 34 + 1 → ptP (i1 12) (i1 34) (i1 15) = 0) ∧ (3 ≤ i1 34 + 1 → ptV (i1 12) (i1 34) (i1 16) = 1)
    rw [ptF, ptP, ptV, if_pos q4, if_pos q4, if_pos q4, e34]
    refine ⟨fun _ => mvF_e hk v1, fun z => mvP_2 hk z v2, fun z => mvV_2 hk (fun y => absurd (Int32.le_trans z y) (by decide)) v3⟩
theorem TI_fl {B : Nat} {u : kS} (hT : TI B u) : TI B (fl_S u) := by
  obtain ⟨t1, t2, t3, t4, t5, t6, t7, t8, t9, t10, t11, t12, t13, t14, t15⟩ := hT
  exact ⟨t1, t2, t3, t4, t5, t6, t7, t8, t9, t10, t11, t12, t13, t14, t15⟩
theorem TI_fw1 {B : Nat} {u : kS} {q : Int32} (hT : TI B u) : TI B (fw_1 u q) := by
  obtain ⟨t1, t2, t3, t4, t5, t6, t7, t8, t9, t10, t11, t12, t13, t14, t15⟩ := hT
  unfold fw_1 rn_S
  split
  · exact ⟨t1, t2, t3, t4, t5, t6, t7, t8, t9, t10, t11, t12, t13, t14, t15⟩
  · split
    · next h1 =>
      obtain ⟨k, hk, hB, e⟩ := t13
      refine ⟨t1, t2, t3, t4, t5, t6, t7, t8, t9, Or.inr (Or.inr (Or.inl rfl)), fun _ => t11 (Or.inl h1), t12, ⟨0, Nat.zero_le _, hB, rfl⟩, ?_, ?_⟩
      · intro z
        rcases z with z | z
        · exact absurd (show (2 : Int32) = 3 from z) (by decide)
        · exact absurd (show (2 : Int32) = 4 from z) (by decide)
      · intro z
        exact absurd (show (2 : Int32) = 4 from z) (by decide)
    · exact ⟨t1, t2, t3, t4, t5, t6, t7, t8, t9, t10, t11, t12, t13, t14, t15⟩
section
variable {h0 l0 t0 h1 l1 t1 fl : Int32}
theorem ldH0_b (q0 : h0 = 0 ∨ h0 = 1 ∨ h0 = 2 ∨ h0 = 3) : ldH0 h0 l0 h1 l1 fl = 0 ∨ ldH0 h0 l0 h1 l1 fl = 1 ∨ ldH0 h0 l0 h1 l1 fl = 2 ∨ ldH0 h0 l0 h1 l1 fl = 3 := by
  unfold ldH0 lnH lxH
  repeat' split
  all_goals first | exact q0 | decide
theorem ldH1_b (q1 : h1 = 0 ∨ h1 = 1 ∨ h1 = 2 ∨ h1 = 3) : ldH1 h0 l0 h1 l1 fl = 0 ∨ ldH1 h0 l0 h1 l1 fl = 1 ∨ ldH1 h0 l0 h1 l1 fl = 2 ∨ ldH1 h0 l0 h1 l1 fl = 3 := by
  unfold ldH1 lnH lxH
  repeat' split
  all_goals first | exact q1 | decide
theorem ldT0_b (z : h0 = 0 ∨ h0 = 1 → t0 = 0) : ldH0 h0 l0 h1 l1 fl = 0 ∨ ldH0 h0 l0 h1 l1 fl = 1 → ldT0 h0 l0 t0 h1 l1 fl = 0 := by
  unfold ldH0 ldT0 lnH lxH lnT lxT
  repeat' split
  all_goals first | exact z | exact fun _ => rfl | exact fun q => absurd q (by decide)
theorem ldT1_b (z : h1 = 0 ∨ h1 = 1 → t1 = 0) : ldH1 h0 l0 h1 l1 fl = 0 ∨ ldH1 h0 l0 h1 l1 fl = 1 → ldT1 h0 l0 h1 l1 t1 fl = 0 := by
  unfold ldH1 ldT1 lnH lxH lnT lxT
  repeat' split
  all_goals first | exact z | exact fun _ => rfl | exact fun q => absurd q (by decide)
theorem ldR_on : ¬ ldR h0 l0 h1 l1 fl = 0 → ldH0 h0 l0 h1 l1 fl = 1 ∨ ldH1 h0 l0 h1 l1 fl = 1 := by
  unfold ldR ldH0 ldH1 lnR lnH lxH
  repeat' split
  all_goals first | exact fun q => absurd rfl q | (intro _; simp_all)
end
theorem TI_ld {B : Nat} {u : kS} (hT : TI B u) (hr : ¬ ld_R u = 0) : TI B (ld_S u) := by
  obtain ⟨t1, t2, t3, t4, t5, t6, t7, t8, t9, t10, t11, t12, t13, t14, t15⟩ := hT
  exact ⟨t1, t2, t3, t4, t5, ldH0_b t6, ldH1_b t7, ldT0_b t8, ldT1_b t9, t10, fun _ => ldR_on hr, t12, t13, t14, t15⟩
theorem TI_ldt {B : Nat} {u : kS} (hT : TI B u) : TI B (s_trip (ld_S u)) := by
  obtain ⟨t1, t2, t3, t4, t5, t6, t7, t8, t9, t10, t11, t12, t13, t14, t15⟩ := hT
  obtain ⟨k, hk, hB, e⟩ := t13
  refine ⟨t1, t2, t3, t4, t5, ldH0_b t6, ldH1_b t7, ldT0_b t8, ldT1_b t9, Or.inr (Or.inr (Or.inr (Or.inr rfl))), ?_, t12, ⟨0, Nat.zero_le _, hB, rfl⟩, fun _ => rfl, ?_⟩
  · intro z
    have z' : (4 : Int32) = 1 ∨ (4 : Int32) = 2 ∨ (4 : Int32) = 3 := z
    exact absurd z' (by decide)
  · intro _
    exact ⟨fun z => absurd (show (1 : Int32) ≤ 0 from z) (by decide), fun z => absurd (show (2 : Int32) ≤ 0 from z) (by decide), fun z => absurd (show (3 : Int32) ≤ 0 from z) (by decide)⟩
theorem TI_fwC {B : Nat} {u : kS} (hT : TI B u) : TI B (fwC u) := by
  unfold fwC
  split
  · exact TI_ldt hT
  · split
    · exact TI_ldt hT
    · next hr _ => exact TI_ld hT hr
theorem TI_ot {B : Nat} {u : kS} (hT : TI B u) (hB : B + 1 < 1000000) : TI (B + 1) (ot_S u).2 := by
  unfold ot_S
  split
  · exact TI_pt (TI_ot1 hT) hB
  · exact TI_fwC (TI_fw1 (TI_fl (TI_pt (TI_ot1 hT) hB)))
theorem TI_tkL {B : Nat} {u : kS} (hT : TI B u) : ∀ {j : Nat}, B + j < 1000000 → TI (B + j) (tkL u j).2
  | 0, _ => hT
  | j + 1, h => TI_ot (TI_tkL hT (by omega)) (by omega)
/-! a new cooler -/
def cooR (k x1 x2 x3 x4 x5 lm : Int32) : Int32 := if kin k 0 2 = 0 then 0 else if ¬ k = 0 ∧ kcor x1 x2 x3 x4 x5 = 0 then 0 else if k = 2 ∧ kin lm 0 60 = 0 then 0 else 1
def up5 (f : Nat → Int32) (n : Nat) (x1 x2 x3 x4 x5 : Int32) : Nat → Int32 := upd (upd (upd (upd (upd f n x1) (n + 1) x2) (n + 2) x3) (n + 3) x4) (n + 4) x5
def coo_S (u : kS) (k x1 x2 x3 x4 x5 lm : Int32) : kS := (upd u.1 2 (u.1 2 + 1), u.2.1, va_up (va_up (va_up u.2.2.1 3 (upd (u.2.2.1 3) (u.1 2).toNatClampNeg k)) 4 (up5 (u.2.2.1 4) (5 * (u.1 2).toNatClampNeg) x1 x2 x3 x4 x5)) 5 (upd (u.2.2.1 5) (u.1 2).toNatClampNeg lm), u.2.2.2)
def f_cooler (u : kS) (k x1 x2 x3 x4 x5 lm : Int32) : Int32 × kS := if cooR k x1 x2 x3 x4 x5 lm = 0 then (-1, u) else if u.1 2 < 6 then (u.1 2 + 1 - 1, coo_S u k x1 x2 x3 x4 x5 lm) else (-3, u)
section
variable {k x1 x2 x3 x4 x5 lm : Int32}
theorem kcor_0 : kcor x1 x2 x3 x4 x5 = 0 ↔ ¬ (0 ≤ x1 ∧ x1 ≤ x2 ∧ x2 ≤ x3 ∧ x3 ≤ x4 ∧ x4 ≤ x5 ∧ x5 ≤ 50) := by unfold kcor; split <;> simp_all
theorem kc_n (h1 : ¬ kin x1 0 50 = 0) (h2 : ¬ kin x2 x1 50 = 0) (h3 : ¬ kin x3 x2 50 = 0) (h4 : ¬ kin x4 x3 50 = 0) (h5 : ¬ kin x5 x4 50 = 0) : ¬ kcor x1 x2 x3 x4 x5 = 0 :=
  fun q => kcor_0.mp q ⟨(kin_n.mp h1).1, (kin_n.mp h2).1, (kin_n.mp h3).1, (kin_n.mp h4).1, (kin_n.mp h5).1, (kin_n.mp h5).2⟩
theorem kc_1 (h : kin x1 0 50 = 0) : kcor x1 x2 x3 x4 x5 = 0 := kcor_0.mpr fun ⟨a, b, c, d, e, f⟩ => kin_0.mp h ⟨a, Int32.le_trans b (Int32.le_trans c (Int32.le_trans d (Int32.le_trans e f)))⟩
theorem kc_2 (h : kin x2 x1 50 = 0) : kcor x1 x2 x3 x4 x5 = 0 := kcor_0.mpr fun ⟨_, b, c, d, e, f⟩ => kin_0.mp h ⟨b, Int32.le_trans c (Int32.le_trans d (Int32.le_trans e f))⟩
theorem kc_3 (h : kin x3 x2 50 = 0) : kcor x1 x2 x3 x4 x5 = 0 := kcor_0.mpr fun ⟨_, _, c, d, e, f⟩ => kin_0.mp h ⟨c, Int32.le_trans d (Int32.le_trans e f)⟩
theorem kc_4 (h : kin x4 x3 50 = 0) : kcor x1 x2 x3 x4 x5 = 0 := kcor_0.mpr fun ⟨_, _, _, d, e, f⟩ => kin_0.mp h ⟨d, Int32.le_trans e f⟩
theorem kc_5 (h : kin x5 x4 50 = 0) : kcor x1 x2 x3 x4 x5 = 0 := kcor_0.mpr fun ⟨_, _, _, _, e, f⟩ => kin_0.mp h ⟨e, f⟩
theorem kle0 (h : ¬ kin k 0 2 = 0) (h0 : k ≤ 0) : k = 0 := Int32.le_antisymm h0 (kin_n.mp h).1
theorem coo_a (h : kin k 0 2 = 0) : cooR k x1 x2 x3 x4 x5 lm = 0 := if_pos h
theorem coo_b (h0 : ¬ k = 0) (h : kcor x1 x2 x3 x4 x5 = 0) : cooR k x1 x2 x3 x4 x5 lm = 0 := by
  unfold cooR
  split
  · rfl
  · exact if_pos ⟨h0, h⟩
theorem coo_c (h2 : k = 2) (h : kin lm 0 60 = 0) : cooR k x1 x2 x3 x4 x5 lm = 0 := by
  unfold cooR
  split
  · rfl
  · split
    · rfl
    · exact if_pos ⟨h2, h⟩
theorem coo_n (h : ¬ kin k 0 2 = 0) (h0 : k = 0 ∨ ¬ kcor x1 x2 x3 x4 x5 = 0) (h2 : ¬ k = 2 ∨ ¬ kin lm 0 60 = 0) : ¬ cooR k x1 x2 x3 x4 x5 lm = 0 := by
  unfold cooR
  rw [if_neg h, if_neg (fun q => h0.elim q.1 (fun z => z q.2)), if_neg (fun q => h2.elim (fun z => z q.1) (fun z => z q.2))]
  decide
theorem k0le (h : ¬ k ≤ 0) : ¬ k = 0 := fun q => h (by rw [q]; decide)
end
theorem ix5 {x : Int32} {j : Nat} (h0 : 0 ≤ x) (h6 : x < 6) (hj : j < 5) : kIx (5 * x + nI j) (5 * x.toNatClampNeg + j) 30 := by
  obtain ⟨k, hk, rfl⟩ := nI_of (Int32.not_lt.mpr h0)
  have q : ¬ 6 ≤ k := fun q => absurd h6 (Int32.not_lt.mpr (nI_le (a := 6) q hk))
  rw [nI_clamp hk, n5c, show nI (5 * k) + nI j = nI (5 * k + j) from nI_add _ _]
  exact kIx_nI (by omega) (by decide)
theorem ix5z {x : Int32} (h0 : 0 ≤ x) (h6 : x < 6) : kIx (5 * x) (5 * x.toNatClampNeg) 30 := by
  obtain ⟨k, hk, rfl⟩ := nI_of (Int32.not_lt.mpr h0)
  have q : ¬ 6 ≤ k := fun q => absurd h6 (Int32.not_lt.mpr (nI_le (a := 6) q hk))
  rw [nI_clamp hk, n5c]
  exact kIx_nI (by omega) (by decide)
theorem ixs6 {x : Int32} (h0 : 0 ≤ x) (h6 : x < 6) : kIx x x.toNatClampNeg 6 := kIx_le h0 h6 (by decide)
theorem ltn6 {x : Int32} (h : x ≤ 6) (hn : ¬ x = 6) : x < 6 := Int32.lt_of_le_of_ne h hn
set_option maxRecDepth 100000 in
set_option maxHeartbeats 4000000 in
theorem r_tick (l : Launch) (g : kG) (h0 : Nat) (ad : Nat → Nat) (i : Nat → Int32) (l_ : Nat → Int64) (a : Nat → Nat → Int32) (h : Nat → Int64) (n : Int32) {B : Nat} (hT : TI B (i, l_, a, h)) (hB : B + 60 < 1000000) : kM l yX10_tick cX10_tick 4 (some .int) (rmK 3 0 0 72) g [.ref h0, .int n] (wR g h0 ad (i, l_, a, h)) (kDi g (f_tick (i, l_, a, h) n).1 (wR g h0 ad (f_tick (i, l_, a, h) n).2)) := by
  refine k_enter (by decide) (Nat.le_of_ble_eq_true rfl) ?_
  intro p e s m args below meth c A F
  refine k_aload_n (n := 1) F dX10_tick_0 rfl 0 rfl rfl ?_
  refine k_iconst (n := 2) (v := 0) F dX10_tick_1 rfl rfl ?_
  refine k_rput_0 (n := 5) F dX10_tick_2 rfl ?_
  refine k_iload_n (n := 6) F dX10_tick_5 rfl 1 rfl rfl ?_
  refine k_iconst (n := 7) (v := 1) F dX10_tick_6 rfl rfl ?_
  refine k_bipush (n := 9) (v := 60) F dX10_tick_7 rfl rfl ?_
  refine k_ciR (n := 12) F (k_rS (k := 3) (As := [.int n, .int 1, .int 60]) (rest := []) F (c_in l g n 1 60) [] rfl rfl mw_693 mw_691 mw_692 mw_9 (by decide) ⟨by decide, by decide⟩ rfl (Nat.le_of_ble_eq_true rfl) ⟨by decide, by decide⟩ dX10_tick_9) [] rfl rfl ?_
  refine k_if_ne (n := 15) (tgt := 17) F dX10_tick_12 (by decide) rfl (fun hc1 => ?_) (fun hc1 => ?_)
  · refine k_iconst (n := 18) (v := 0) F dX10_tick_17 rfl rfl ?_
    refine k_istore_n (n := 19) (lv' := [(2, .int 0), (0, .ref h0), (1, .int n)]) F dX10_tick_18 rfl (by decide) rfl rfl ?_
    refine k_iconst (n := 20) (v := 0) F dX10_tick_19 rfl rfl ?_
    refine k_istore_n (n := 21) (lv' := [(3, .int 0), (2, .int 0), (0, .ref h0), (1, .int n)]) F dX10_tick_20 rfl (by decide) rfl rfl ?_
    obtain ⟨nn, hnn, hn60⟩ := kin_nat hc1
    subst hnn
    have hk := hc1
    have loop : ∀ (k j : Nat), j ≤ nn → nn + 1 ≤ j + k → KW p l e ((rmK 3 0 0 72)) s m args below meth c (MQ below ((kDi g (f_tick (i, l_, a, h) (nI nn)).1 (wR g h0 ad (f_tick (i, l_, a, h) (nI nn)).2)) A) args s ((rmK 3 0 0 72)).cells ((rmK 3 0 0 72)).slots A) g A 4 (wR g h0 ad ((tkL (i, l_, a, h) j).2)) 0 0 21 [(3, .int (nI j)), (2, .int ((tkL (i, l_, a, h) j).1)), (0, .ref h0), (1, .int (nI nn))] [] := by
      intro k
      induction k with
      | zero =>
        intro j h1 h2_
        exact absurd h2_ (by omega)
      | succ k ih =>
        intro j h1 h2_
        refine k_iload_n (n := 22) F dX10_tick_21 rfl 0 rfl rfl ?_
        refine k_iload_n (n := 23) F dX10_tick_22 rfl 3 rfl rfl ?_
        refine k_icmp_ge (n := 26) (tgt := 39) F dX10_tick_23 (by decide) rfl (fun hc101 => ?_) (fun hc101 => ?_)
        · refine k_iload_n (n := 40) F dX10_tick_39 rfl 1 rfl rfl ?_
          have hj9 : j = nn := by have h9 := hc101; rw [nI_leI (by omega) (by omega)] at h9; omega
          subst hj9
          exact k_iret F (by rw [f_tick_e hk (by omega)]) (by rw [f_tick_e hk (by omega)]) dX10_tick_40
        · refine k_iload_n (n := 27) F dX10_tick_26 rfl 1 rfl rfl ?_
          refine k_aload_n (n := 28) F dX10_tick_27 rfl 2 rfl rfl ?_
          refine k_ciA (n := 31) (w0 := wR g h0 ad ((ot_S (tkL (i, l_, a, h) j).2).2)) (is := [0, 1, 2, 3, 4, 5, 6, 7, 8, 9, 10, 11, 12, 13, 14]) F (k_rV (k := 0) (b := h0) (As := []) (rest := [.int ((tkL (i, l_, a, h) j).1)]) F (r_goes l g h0 ad (tkL (i, l_, a, h) j).2.1 (tkL (i, l_, a, h) j).2.2.1 (tkL (i, l_, a, h) j).2.2.2.1 (tkL (i, l_, a, h) j).2.2.2.2 (B := B + j) (TI_tkL hT (by omega))) [0, 1, 2, 3, 4, 5, 6, 7, 8, 9, 10, 11, 12, 13, 14] rfl rfl 0 rfl rfl mw_756 mw_753 mw_755 mw_s22 mw_9 (by decide) ⟨by decide, by decide⟩ rfl (Nat.le_of_ble_eq_true rfl) ⟨by decide, by decide⟩ dX10_tick_28) rfl rfl ?_
          refine k_iadd (n := 32) F dX10_tick_31 rfl ?_
          refine k_istore_n (n := 33) (lv' := [(2, .int (((tkL (i, l_, a, h) j).1) + ((ot_S (tkL (i, l_, a, h) j).2).1))), (3, .int (nI j)), (0, .ref h0), (1, .int (nI nn))]) F dX10_tick_32 rfl (by decide) rfl rfl ?_
          refine k_iinc (n := 36) (j := 1) (v := nI (j + 1)) (lv' := [(3, .int (nI (j + 1))), (2, .int (((tkL (i, l_, a, h) j).1) + ((ot_S (tkL (i, l_, a, h) j).2).1))), (0, .ref h0), (1, .int (nI nn))]) F dX10_tick_33 rfl (nI_1 j) (by decide) rfl rfl ?_
          refine k_goto (tgt := 21) F dX10_tick_36 (by decide) ?_
          have hj9 : j < nn := by have h9 := hc101; rw [nI_leI (by omega) (by omega)] at h9; omega
          refine k_lv (lv' := [(3, .int (nI (j + 1))), (2, .int (((tkL (i, l_, a, h) j).1) + ((ot_S (tkL (i, l_, a, h) j).2).1))), (0, .ref h0), (1, .int (nI nn))]) [0, 1, 2, 3] rfl ?_
          exact ih (j + 1) (by omega) (by omega)
    refine k_lv (lv' := [(3, .int (nI 0)), (2, .int ((tkL (i, l_, a, h) 0).1)), (0, .ref h0), (1, .int (nI nn))]) [0, 1, 2, 3] rfl ?_
    exact loop (nn + 1) 0 (by omega) (by omega)
  · refine k_iconst (n := 16) (v := -1) F dX10_tick_15 rfl rfl ?_
    exact k_iret F (by rw [f_tick, if_pos hc1]) (by rw [f_tick, if_pos hc1]) dX10_tick_16
set_option maxRecDepth 100000 in
set_option maxHeartbeats 4000000 in
theorem r_cooler (l : Launch) (g : kG) (h0 : Nat) (ad : Nat → Nat) (i : Nat → Int32) (l_ : Nat → Int64) (a : Nat → Nat → Int32) (h : Nat → Int64) (k x1 x2 x3 x4 x5 lm : Int32) (h2 : 0 ≤ i 2 ∧ i 2 ≤ 6) : kM l yX10_cooler cX10_cooler 9 (some .int) (rmK 1 0 0 22) g [.ref h0, .int k, .int x1, .int x2, .int x3, .int x4, .int x5, .int lm] (wR g h0 ad (i, l_, a, h)) (kDi g (f_cooler (i, l_, a, h) k x1 x2 x3 x4 x5 lm).1 (wR g h0 ad (f_cooler (i, l_, a, h) k x1 x2 x3 x4 x5 lm).2)) := by
  refine k_enter (by decide) (Nat.le_of_ble_eq_true rfl) ?_
  intro p e s m args below meth c A F
  refine k_aload_n (n := 1) F dX10_cooler_0 rfl 0 rfl rfl ?_
  refine k_iconst (n := 2) (v := 0) F dX10_cooler_1 rfl rfl ?_
  refine k_rput_0 (n := 5) F dX10_cooler_2 rfl ?_
  refine k_iload_n (n := 6) F dX10_cooler_5 rfl 1 rfl rfl ?_
  refine k_iconst (n := 7) (v := 0) F dX10_cooler_6 rfl rfl ?_
  refine k_iconst (n := 8) (v := 2) F dX10_cooler_7 rfl rfl ?_
  refine k_ciR (n := 11) F (k_rS (k := 3) (As := [.int k, .int 0, .int 2]) (rest := []) F (c_in l g k 0 2) [] rfl rfl mw_693 mw_691 mw_692 mw_9 (by decide) ⟨by decide, by decide⟩ rfl (Nat.le_of_ble_eq_true rfl) ⟨by decide, by decide⟩ dX10_cooler_8) [] rfl rfl ?_
  refine k_if_eq (n := 14) (tgt := 89) F dX10_cooler_11 (by decide) rfl (fun hc1 => ?_) (fun hc1 => ?_)
  · refine k_iconst (n := 90) (v := -1) F dX10_cooler_89 rfl rfl ?_
    have eF : f_cooler (i, l_, a, h) k x1 x2 x3 x4 x5 lm = (-1, (i, l_, a, h)) := if_pos (coo_a hc1)
    exact k_iret F (by rw [eF]) (by rw [eF]) dX10_cooler_90
  · refine k_iload_n (n := 15) F dX10_cooler_14 rfl 1 rfl rfl ?_
    refine k_if_le (n := 18) (tgt := 73) F dX10_cooler_15 (by decide) rfl (fun hc2 => ?_) (fun hc2 => ?_)
    · refine k_iload_n (n := 74) F dX10_cooler_73 rfl 1 rfl rfl ?_
      refine k_iconst (n := 75) (v := 2) F dX10_cooler_74 rfl rfl ?_
      refine k_icmp_ne (n := 78) (tgt := 91) F dX10_cooler_75 (by decide) rfl (fun hc3 => ?_) (fun hc3 => ?_)
      · refine k_aload_n (n := 92) F dX10_cooler_91 rfl 0 rfl rfl ?_
        refine k_rget_2 (n := 95) (v := i 2) F rfl dX10_cooler_92 rfl ?_
        refine k_bipush (n := 97) (v := 6) F dX10_cooler_95 rfl rfl ?_
        refine k_icmp_ne (n := 100) (tgt := 103) F dX10_cooler_97 (by decide) rfl (fun hc4 => ?_) (fun hc4 => ?_)
        · refine k_iconst (n := 104) (v := 5) F dX10_cooler_103 rfl rfl ?_
          refine k_aload_n (n := 105) F dX10_cooler_104 rfl 0 rfl rfl ?_
          refine k_rget_2 (n := 108) (v := i 2) F rfl dX10_cooler_105 rfl ?_
          refine k_imul (n := 109) F dX10_cooler_108 rfl ?_
          refine k_istore (n := 111) (lv' := [(8, .int (5 * (i 2))), (0, .ref h0), (1, .int k), (2, .int x1), (3, .int x2), (4, .int x3), (5, .int x4), (6, .int x5), (7, .int lm)]) F dX10_cooler_109 (by decide) rfl rfl ?_
          refine k_aload_n (n := 112) F dX10_cooler_111 rfl 1 rfl rfl ?_
          refine k_rget_3 (n := 115) F dX10_cooler_112 rfl ?_
          refine k_aload_n (n := 116) F dX10_cooler_115 rfl 1 rfl rfl ?_
          refine k_rget_2 (n := 119) (v := i 2) F rfl dX10_cooler_116 rfl ?_
          refine k_iload_n (n := 120) F dX10_cooler_119 rfl 2 rfl rfl ?_
          refine k_rast_3 (n := 121) (N := (i 2).toNatClampNeg) (f := a 3) (u' := (i, l_, va_up a 3 (upd (a 3) ((i 2).toNatClampNeg) k), h)) F rfl (ixs6 h2.1 (ltn6 h2.2 hc4)) rfl dX10_cooler_120 rfl ?_
          refine k_aload_n (n := 122) F dX10_cooler_121 rfl 1 rfl rfl ?_
          refine k_rget_4 (n := 125) F dX10_cooler_122 rfl ?_
          refine k_iload (n := 127) F dX10_cooler_125 0 rfl rfl ?_
          refine k_iload_n (n := 128) F dX10_cooler_127 rfl 3 rfl rfl ?_
          refine k_rast_4 (n := 129) (N := 5 * (i 2).toNatClampNeg) (f := a 4) (u' := (i, l_, va_up (va_up a 3 (upd (a 3) ((i 2).toNatClampNeg) k)) 4 (upd (a 4) (5 * (i 2).toNatClampNeg) x1), h)) F (show (va_up a 3 (upd (a 3) ((i 2).toNatClampNeg) k)) 4 = a 4 from va_up_ne _ (k := 3) (j := 4) _ (by decide)) (ix5z h2.1 (ltn6 h2.2 hc4)) rfl dX10_cooler_128 rfl ?_
          refine k_aload_n (n := 130) F dX10_cooler_129 rfl 1 rfl rfl ?_
          refine k_rget_4 (n := 133) F dX10_cooler_130 rfl ?_
          refine k_iload (n := 135) F dX10_cooler_133 0 rfl rfl ?_
          refine k_iconst (n := 136) (v := 1) F dX10_cooler_135 rfl rfl ?_
          refine k_iadd (n := 137) F dX10_cooler_136 rfl ?_
          refine k_iload_n (n := 138) F dX10_cooler_137 rfl 4 rfl rfl ?_
          refine k_rast_4 (n := 139) (N := 5 * (i 2).toNatClampNeg + 1) (f := upd (a 4) (5 * (i 2).toNatClampNeg) x1) (u' := (i, l_, va_up (va_up (va_up a 3 (upd (a 3) ((i 2).toNatClampNeg) k)) 4 (upd (a 4) (5 * (i 2).toNatClampNeg) x1)) 4 (upd (upd (a 4) (5 * (i 2).toNatClampNeg) x1) (5 * (i 2).toNatClampNeg + 1) x2), h)) F (show (va_up (va_up a 3 (upd (a 3) ((i 2).toNatClampNeg) k)) 4 (upd (a 4) (5 * (i 2).toNatClampNeg) x1)) 4 = upd (a 4) (5 * (i 2).toNatClampNeg) x1 from va_up_self _ _ _) (ix5 (j := 1) h2.1 (ltn6 h2.2 hc4) (by decide)) rfl dX10_cooler_138 rfl ?_
          refine k_aload_n (n := 140) F dX10_cooler_139 rfl 1 rfl rfl ?_
          refine k_rget_4 (n := 143) F dX10_cooler_140 rfl ?_
          refine k_iload (n := 145) F dX10_cooler_143 0 rfl rfl ?_
          refine k_iconst (n := 146) (v := 2) F dX10_cooler_145 rfl rfl ?_
          refine k_iadd (n := 147) F dX10_cooler_146 rfl ?_
          refine k_iload (n := 149) F dX10_cooler_147 5 rfl rfl ?_
          refine k_rast_4 (n := 150) (N := 5 * (i 2).toNatClampNeg + 2) (f := upd (upd (a 4) (5 * (i 2).toNatClampNeg) x1) (5 * (i 2).toNatClampNeg + 1) x2) (u' := (i, l_, va_up (va_up (va_up (va_up a 3 (upd (a 3) ((i 2).toNatClampNeg) k)) 4 (upd (a 4) (5 * (i 2).toNatClampNeg) x1)) 4 (upd (upd (a 4) (5 * (i 2).toNatClampNeg) x1) (5 * (i 2).toNatClampNeg + 1) x2)) 4 (upd (upd (upd (a 4) (5 * (i 2).toNatClampNeg) x1) (5 * (i 2).toNatClampNeg + 1) x2) (5 * (i 2).toNatClampNeg + 2) x3), h)) F (show (va_up (va_up (va_up a 3 (upd (a 3) ((i 2).toNatClampNeg) k)) 4 (upd (a 4) (5 * (i 2).toNatClampNeg) x1)) 4 (upd (upd (a 4) (5 * (i 2).toNatClampNeg) x1) (5 * (i 2).toNatClampNeg + 1) x2)) 4 = upd (upd (a 4) (5 * (i 2).toNatClampNeg) x1) (5 * (i 2).toNatClampNeg + 1) x2 from va_up_self _ _ _) (ix5 (j := 2) h2.1 (ltn6 h2.2 hc4) (by decide)) rfl dX10_cooler_149 rfl ?_
          refine k_aload_n (n := 151) F dX10_cooler_150 rfl 1 rfl rfl ?_
          refine k_rget_4 (n := 154) F dX10_cooler_151 rfl ?_
          refine k_iload (n := 156) F dX10_cooler_154 0 rfl rfl ?_
          refine k_iconst (n := 157) (v := 3) F dX10_cooler_156 rfl rfl ?_
          refine k_iadd (n := 158) F dX10_cooler_157 rfl ?_
          refine k_iload (n := 160) F dX10_cooler_158 6 rfl rfl ?_
          refine k_rast_4 (n := 161) (N := 5 * (i 2).toNatClampNeg + 3) (f := upd (upd (upd (a 4) (5 * (i 2).toNatClampNeg) x1) (5 * (i 2).toNatClampNeg + 1) x2) (5 * (i 2).toNatClampNeg + 2) x3) (u' := (i, l_, va_up (va_up (va_up (va_up (va_up a 3 (upd (a 3) ((i 2).toNatClampNeg) k)) 4 (upd (a 4) (5 * (i 2).toNatClampNeg) x1)) 4 (upd (upd (a 4) (5 * (i 2).toNatClampNeg) x1) (5 * (i 2).toNatClampNeg + 1) x2)) 4 (upd (upd (upd (a 4) (5 * (i 2).toNatClampNeg) x1) (5 * (i 2).toNatClampNeg + 1) x2) (5 * (i 2).toNatClampNeg + 2) x3)) 4 (upd (upd (upd (upd (a 4) (5 * (i 2).toNatClampNeg) x1) (5 * (i 2).toNatClampNeg + 1) x2) (5 * (i 2).toNatClampNeg + 2) x3) (5 * (i 2).toNatClampNeg + 3) x4), h)) F (show (va_up (va_up (va_up (va_up a 3 (upd (a 3) ((i 2).toNatClampNeg) k)) 4 (upd (a 4) (5 * (i 2).toNatClampNeg) x1)) 4 (upd (upd (a 4) (5 * (i 2).toNatClampNeg) x1) (5 * (i 2).toNatClampNeg + 1) x2)) 4 (upd (upd (upd (a 4) (5 * (i 2).toNatClampNeg) x1) (5 * (i 2).toNatClampNeg + 1) x2) (5 * (i 2).toNatClampNeg + 2) x3)) 4 = upd (upd (upd (a 4) (5 * (i 2).toNatClampNeg) x1) (5 * (i 2).toNatClampNeg + 1) x2) (5 * (i 2).toNatClampNeg + 2) x3 from va_up_self _ _ _) (ix5 (j := 3) h2.1 (ltn6 h2.2 hc4) (by decide)) rfl dX10_cooler_160 rfl ?_
          refine k_aload_n (n := 162) F dX10_cooler_161 rfl 1 rfl rfl ?_
          refine k_rget_4 (n := 165) F dX10_cooler_162 rfl ?_
          refine k_iload (n := 167) F dX10_cooler_165 0 rfl rfl ?_
          refine k_iconst (n := 168) (v := 4) F dX10_cooler_167 rfl rfl ?_
          refine k_iadd (n := 169) F dX10_cooler_168 rfl ?_
          refine k_iload (n := 171) F dX10_cooler_169 7 rfl rfl ?_
          refine k_rast_4 (n := 172) (N := 5 * (i 2).toNatClampNeg + 4) (f := upd (upd (upd (upd (a 4) (5 * (i 2).toNatClampNeg) x1) (5 * (i 2).toNatClampNeg + 1) x2) (5 * (i 2).toNatClampNeg + 2) x3) (5 * (i 2).toNatClampNeg + 3) x4) (u' := (i, l_, va_up (va_up (va_up (va_up (va_up (va_up a 3 (upd (a 3) ((i 2).toNatClampNeg) k)) 4 (upd (a 4) (5 * (i 2).toNatClampNeg) x1)) 4 (upd (upd (a 4) (5 * (i 2).toNatClampNeg) x1) (5 * (i 2).toNatClampNeg + 1) x2)) 4 (upd (upd (upd (a 4) (5 * (i 2).toNatClampNeg) x1) (5 * (i 2).toNatClampNeg + 1) x2) (5 * (i 2).toNatClampNeg + 2) x3)) 4 (upd (upd (upd (upd (a 4) (5 * (i 2).toNatClampNeg) x1) (5 * (i 2).toNatClampNeg + 1) x2) (5 * (i 2).toNatClampNeg + 2) x3) (5 * (i 2).toNatClampNeg + 3) x4)) 4 (upd (upd (upd (upd (upd (a 4) (5 * (i 2).toNatClampNeg) x1) (5 * (i 2).toNatClampNeg + 1) x2) (5 * (i 2).toNatClampNeg + 2) x3) (5 * (i 2).toNatClampNeg + 3) x4) (5 * (i 2).toNatClampNeg + 4) x5), h)) F (show (va_up (va_up (va_up (va_up (va_up a 3 (upd (a 3) ((i 2).toNatClampNeg) k)) 4 (upd (a 4) (5 * (i 2).toNatClampNeg) x1)) 4 (upd (upd (a 4) (5 * (i 2).toNatClampNeg) x1) (5 * (i 2).toNatClampNeg + 1) x2)) 4 (upd (upd (upd (a 4) (5 * (i 2).toNatClampNeg) x1) (5 * (i 2).toNatClampNeg + 1) x2) (5 * (i 2).toNatClampNeg + 2) x3)) 4 (upd (upd (upd (upd (a 4) (5 * (i 2).toNatClampNeg) x1) (5 * (i 2).toNatClampNeg + 1) x2) (5 * (i 2).toNatClampNeg + 2) x3) (5 * (i 2).toNatClampNeg + 3) x4)) 4 = upd (upd (upd (upd (a 4) (5 * (i 2).toNatClampNeg) x1) (5 * (i 2).toNatClampNeg + 1) x2) (5 * (i 2).toNatClampNeg + 2) x3) (5 * (i 2).toNatClampNeg + 3) x4 from va_up_self _ _ _) (ix5 (j := 4) h2.1 (ltn6 h2.2 hc4) (by decide)) rfl dX10_cooler_171 rfl ?_
          refine k_aload_n (n := 173) F dX10_cooler_172 rfl 1 rfl rfl ?_
          refine k_rget_5 (n := 176) F dX10_cooler_173 rfl ?_
          refine k_aload_n (n := 177) F dX10_cooler_176 rfl 1 rfl rfl ?_
          refine k_rget_2 (n := 180) (v := i 2) F rfl dX10_cooler_177 rfl ?_
          refine k_iload (n := 182) F dX10_cooler_180 8 rfl rfl ?_
          refine k_rast_5 (n := 183) (N := (i 2).toNatClampNeg) (f := a 5) (u' := (i, l_, va_up (va_up (va_up (va_up (va_up (va_up (va_up a 3 (upd (a 3) ((i 2).toNatClampNeg) k)) 4 (upd (a 4) (5 * (i 2).toNatClampNeg) x1)) 4 (upd (upd (a 4) (5 * (i 2).toNatClampNeg) x1) (5 * (i 2).toNatClampNeg + 1) x2)) 4 (upd (upd (upd (a 4) (5 * (i 2).toNatClampNeg) x1) (5 * (i 2).toNatClampNeg + 1) x2) (5 * (i 2).toNatClampNeg + 2) x3)) 4 (upd (upd (upd (upd (a 4) (5 * (i 2).toNatClampNeg) x1) (5 * (i 2).toNatClampNeg + 1) x2) (5 * (i 2).toNatClampNeg + 2) x3) (5 * (i 2).toNatClampNeg + 3) x4)) 4 (upd (upd (upd (upd (upd (a 4) (5 * (i 2).toNatClampNeg) x1) (5 * (i 2).toNatClampNeg + 1) x2) (5 * (i 2).toNatClampNeg + 2) x3) (5 * (i 2).toNatClampNeg + 3) x4) (5 * (i 2).toNatClampNeg + 4) x5)) 5 (upd (a 5) ((i 2).toNatClampNeg) lm), h)) F (show (va_up (va_up (va_up (va_up (va_up (va_up a 3 (upd (a 3) ((i 2).toNatClampNeg) k)) 4 (upd (a 4) (5 * (i 2).toNatClampNeg) x1)) 4 (upd (upd (a 4) (5 * (i 2).toNatClampNeg) x1) (5 * (i 2).toNatClampNeg + 1) x2)) 4 (upd (upd (upd (a 4) (5 * (i 2).toNatClampNeg) x1) (5 * (i 2).toNatClampNeg + 1) x2) (5 * (i 2).toNatClampNeg + 2) x3)) 4 (upd (upd (upd (upd (a 4) (5 * (i 2).toNatClampNeg) x1) (5 * (i 2).toNatClampNeg + 1) x2) (5 * (i 2).toNatClampNeg + 2) x3) (5 * (i 2).toNatClampNeg + 3) x4)) 4 (upd (upd (upd (upd (upd (a 4) (5 * (i 2).toNatClampNeg) x1) (5 * (i 2).toNatClampNeg + 1) x2) (5 * (i 2).toNatClampNeg + 2) x3) (5 * (i 2).toNatClampNeg + 3) x4) (5 * (i 2).toNatClampNeg + 4) x5)) 5 = a 5 from (va_up_ne _ (k := 4) (j := 5) _ (by decide)).trans ((va_up_ne _ (k := 4) (j := 5) _ (by decide)).trans ((va_up_ne _ (k := 4) (j := 5) _ (by decide)).trans ((va_up_ne _ (k := 4) (j := 5) _ (by decide)).trans ((va_up_ne _ (k := 4) (j := 5) _ (by decide)).trans (va_up_ne _ (k := 3) (j := 5) _ (by decide))))))) (ixs6 h2.1 (ltn6 h2.2 hc4)) rfl dX10_cooler_182 rfl ?_
          refine k_aload_n (n := 184) F dX10_cooler_183 rfl 1 rfl rfl ?_
          refine k_dup (n := 185) F dX10_cooler_184 rfl rfl ?_
          refine k_rget_2 (n := 188) (v := i 2) F rfl dX10_cooler_185 rfl ?_
          refine k_iconst (n := 189) (v := 1) F dX10_cooler_188 rfl rfl ?_
          refine k_iadd (n := 190) F dX10_cooler_189 rfl ?_
          refine k_rput_2 (n := 193) (u' := (upd i 2 ((i 2) + 1), l_, va_up (va_up (va_up (va_up (va_up (va_up (va_up a 3 (upd (a 3) ((i 2).toNatClampNeg) k)) 4 (upd (a 4) (5 * (i 2).toNatClampNeg) x1)) 4 (upd (upd (a 4) (5 * (i 2).toNatClampNeg) x1) (5 * (i 2).toNatClampNeg + 1) x2)) 4 (upd (upd (upd (a 4) (5 * (i 2).toNatClampNeg) x1) (5 * (i 2).toNatClampNeg + 1) x2) (5 * (i 2).toNatClampNeg + 2) x3)) 4 (upd (upd (upd (upd (a 4) (5 * (i 2).toNatClampNeg) x1) (5 * (i 2).toNatClampNeg + 1) x2) (5 * (i 2).toNatClampNeg + 2) x3) (5 * (i 2).toNatClampNeg + 3) x4)) 4 (upd (upd (upd (upd (upd (a 4) (5 * (i 2).toNatClampNeg) x1) (5 * (i 2).toNatClampNeg + 1) x2) (5 * (i 2).toNatClampNeg + 2) x3) (5 * (i 2).toNatClampNeg + 3) x4) (5 * (i 2).toNatClampNeg + 4) x5)) 5 (upd (a 5) ((i 2).toNatClampNeg) lm), h)) F rfl dX10_cooler_190 rfl ?_
          refine k_aload_n (n := 194) F dX10_cooler_193 rfl 1 rfl rfl ?_
          refine k_rget_2 (n := 197) (v := (i 2) + 1) F (show (upd i 2 ((i 2) + 1)) 2 = (i 2) + 1 from pk_us) dX10_cooler_194 rfl ?_
          refine k_iconst (n := 198) (v := 1) F dX10_cooler_197 rfl rfl ?_
          refine k_isub (n := 199) F dX10_cooler_198 rfl ?_
          have eF : f_cooler (i, l_, a, h) k x1 x2 x3 x4 x5 lm = (i 2 + 1 - 1, coo_S (i, l_, a, h) k x1 x2 x3 x4 x5 lm) := (if_neg (coo_n hc1 (Or.inl (kle0 hc1 hc2)) (Or.inl hc3))).trans (if_pos (ltn6 h2.2 hc4))
          exact k_iret F (by rw [eF]) (by rw [eF]; simp only [coo_S, up5, wR, upd, va_up, vp_updL, reduceIte, Nat.reduceEqDiff]) dX10_cooler_199
        · refine k_bipush (n := 102) (v := -3) F dX10_cooler_100 rfl rfl ?_
          have eF : f_cooler (i, l_, a, h) k x1 x2 x3 x4 x5 lm = (-3, (i, l_, a, h)) := (if_neg (coo_n hc1 (Or.inl (kle0 hc1 hc2)) (Or.inl hc3))).trans (if_neg (show ¬ i 2 < 6 by rw [show i 2 = 6 from hc4]; decide))
          exact k_iret F (by rw [eF]) (by rw [eF]) dX10_cooler_102
      · refine k_iload (n := 80) F dX10_cooler_78 7 rfl rfl ?_
        refine k_iconst (n := 81) (v := 0) F dX10_cooler_80 rfl rfl ?_
        refine k_bipush (n := 83) (v := 60) F dX10_cooler_81 rfl rfl ?_
        refine k_ciR (n := 86) F (k_rS (k := 3) (As := [.int lm, .int 0, .int 60]) (rest := []) F (c_in l g lm 0 60) [] rfl rfl mw_693 mw_691 mw_692 mw_9 (by decide) ⟨by decide, by decide⟩ rfl (Nat.le_of_ble_eq_true rfl) ⟨by decide, by decide⟩ dX10_cooler_83) [] rfl rfl ?_
        refine k_if_ne (n := 89) (tgt := 91) F dX10_cooler_86 (by decide) rfl (fun hc5 => ?_) (fun hc5 => ?_)
        · refine k_aload_n (n := 92) F dX10_cooler_91 rfl 0 rfl rfl ?_
          refine k_rget_2 (n := 95) (v := i 2) F rfl dX10_cooler_92 rfl ?_
          refine k_bipush (n := 97) (v := 6) F dX10_cooler_95 rfl rfl ?_
          refine k_icmp_ne (n := 100) (tgt := 103) F dX10_cooler_97 (by decide) rfl (fun hc6 => ?_) (fun hc6 => ?_)
          · refine k_iconst (n := 104) (v := 5) F dX10_cooler_103 rfl rfl ?_
            refine k_aload_n (n := 105) F dX10_cooler_104 rfl 0 rfl rfl ?_
            refine k_rget_2 (n := 108) (v := i 2) F rfl dX10_cooler_105 rfl ?_
            refine k_imul (n := 109) F dX10_cooler_108 rfl ?_
            refine k_istore (n := 111) (lv' := [(8, .int (5 * (i 2))), (0, .ref h0), (1, .int k), (2, .int x1), (3, .int x2), (4, .int x3), (5, .int x4), (6, .int x5), (7, .int lm)]) F dX10_cooler_109 (by decide) rfl rfl ?_
            refine k_aload_n (n := 112) F dX10_cooler_111 rfl 1 rfl rfl ?_
            refine k_rget_3 (n := 115) F dX10_cooler_112 rfl ?_
            refine k_aload_n (n := 116) F dX10_cooler_115 rfl 1 rfl rfl ?_
            refine k_rget_2 (n := 119) (v := i 2) F rfl dX10_cooler_116 rfl ?_
            refine k_iload_n (n := 120) F dX10_cooler_119 rfl 2 rfl rfl ?_
            refine k_rast_3 (n := 121) (N := (i 2).toNatClampNeg) (f := a 3) (u' := (i, l_, va_up a 3 (upd (a 3) ((i 2).toNatClampNeg) k), h)) F rfl (ixs6 h2.1 (ltn6 h2.2 hc6)) rfl dX10_cooler_120 rfl ?_
            refine k_aload_n (n := 122) F dX10_cooler_121 rfl 1 rfl rfl ?_
            refine k_rget_4 (n := 125) F dX10_cooler_122 rfl ?_
            refine k_iload (n := 127) F dX10_cooler_125 0 rfl rfl ?_
            refine k_iload_n (n := 128) F dX10_cooler_127 rfl 3 rfl rfl ?_
            refine k_rast_4 (n := 129) (N := 5 * (i 2).toNatClampNeg) (f := a 4) (u' := (i, l_, va_up (va_up a 3 (upd (a 3) ((i 2).toNatClampNeg) k)) 4 (upd (a 4) (5 * (i 2).toNatClampNeg) x1), h)) F (show (va_up a 3 (upd (a 3) ((i 2).toNatClampNeg) k)) 4 = a 4 from va_up_ne _ (k := 3) (j := 4) _ (by decide)) (ix5z h2.1 (ltn6 h2.2 hc6)) rfl dX10_cooler_128 rfl ?_
            refine k_aload_n (n := 130) F dX10_cooler_129 rfl 1 rfl rfl ?_
            refine k_rget_4 (n := 133) F dX10_cooler_130 rfl ?_
            refine k_iload (n := 135) F dX10_cooler_133 0 rfl rfl ?_
            refine k_iconst (n := 136) (v := 1) F dX10_cooler_135 rfl rfl ?_
            refine k_iadd (n := 137) F dX10_cooler_136 rfl ?_
            refine k_iload_n (n := 138) F dX10_cooler_137 rfl 4 rfl rfl ?_
            refine k_rast_4 (n := 139) (N := 5 * (i 2).toNatClampNeg + 1) (f := upd (a 4) (5 * (i 2).toNatClampNeg) x1) (u' := (i, l_, va_up (va_up (va_up a 3 (upd (a 3) ((i 2).toNatClampNeg) k)) 4 (upd (a 4) (5 * (i 2).toNatClampNeg) x1)) 4 (upd (upd (a 4) (5 * (i 2).toNatClampNeg) x1) (5 * (i 2).toNatClampNeg + 1) x2), h)) F (show (va_up (va_up a 3 (upd (a 3) ((i 2).toNatClampNeg) k)) 4 (upd (a 4) (5 * (i 2).toNatClampNeg) x1)) 4 = upd (a 4) (5 * (i 2).toNatClampNeg) x1 from va_up_self _ _ _) (ix5 (j := 1) h2.1 (ltn6 h2.2 hc6) (by decide)) rfl dX10_cooler_138 rfl ?_
            refine k_aload_n (n := 140) F dX10_cooler_139 rfl 1 rfl rfl ?_
            refine k_rget_4 (n := 143) F dX10_cooler_140 rfl ?_
            refine k_iload (n := 145) F dX10_cooler_143 0 rfl rfl ?_
            refine k_iconst (n := 146) (v := 2) F dX10_cooler_145 rfl rfl ?_
            refine k_iadd (n := 147) F dX10_cooler_146 rfl ?_
            refine k_iload (n := 149) F dX10_cooler_147 5 rfl rfl ?_
            refine k_rast_4 (n := 150) (N := 5 * (i 2).toNatClampNeg + 2) (f := upd (upd (a 4) (5 * (i 2).toNatClampNeg) x1) (5 * (i 2).toNatClampNeg + 1) x2) (u' := (i, l_, va_up (va_up (va_up (va_up a 3 (upd (a 3) ((i 2).toNatClampNeg) k)) 4 (upd (a 4) (5 * (i 2).toNatClampNeg) x1)) 4 (upd (upd (a 4) (5 * (i 2).toNatClampNeg) x1) (5 * (i 2).toNatClampNeg + 1) x2)) 4 (upd (upd (upd (a 4) (5 * (i 2).toNatClampNeg) x1) (5 * (i 2).toNatClampNeg + 1) x2) (5 * (i 2).toNatClampNeg + 2) x3), h)) F (show (va_up (va_up (va_up a 3 (upd (a 3) ((i 2).toNatClampNeg) k)) 4 (upd (a 4) (5 * (i 2).toNatClampNeg) x1)) 4 (upd (upd (a 4) (5 * (i 2).toNatClampNeg) x1) (5 * (i 2).toNatClampNeg + 1) x2)) 4 = upd (upd (a 4) (5 * (i 2).toNatClampNeg) x1) (5 * (i 2).toNatClampNeg + 1) x2 from va_up_self _ _ _) (ix5 (j := 2) h2.1 (ltn6 h2.2 hc6) (by decide)) rfl dX10_cooler_149 rfl ?_
            refine k_aload_n (n := 151) F dX10_cooler_150 rfl 1 rfl rfl ?_
            refine k_rget_4 (n := 154) F dX10_cooler_151 rfl ?_
            refine k_iload (n := 156) F dX10_cooler_154 0 rfl rfl ?_
            refine k_iconst (n := 157) (v := 3) F dX10_cooler_156 rfl rfl ?_
            refine k_iadd (n := 158) F dX10_cooler_157 rfl ?_
            refine k_iload (n := 160) F dX10_cooler_158 6 rfl rfl ?_
            refine k_rast_4 (n := 161) (N := 5 * (i 2).toNatClampNeg + 3) (f := upd (upd (upd (a 4) (5 * (i 2).toNatClampNeg) x1) (5 * (i 2).toNatClampNeg + 1) x2) (5 * (i 2).toNatClampNeg + 2) x3) (u' := (i, l_, va_up (va_up (va_up (va_up (va_up a 3 (upd (a 3) ((i 2).toNatClampNeg) k)) 4 (upd (a 4) (5 * (i 2).toNatClampNeg) x1)) 4 (upd (upd (a 4) (5 * (i 2).toNatClampNeg) x1) (5 * (i 2).toNatClampNeg + 1) x2)) 4 (upd (upd (upd (a 4) (5 * (i 2).toNatClampNeg) x1) (5 * (i 2).toNatClampNeg + 1) x2) (5 * (i 2).toNatClampNeg + 2) x3)) 4 (upd (upd (upd (upd (a 4) (5 * (i 2).toNatClampNeg) x1) (5 * (i 2).toNatClampNeg + 1) x2) (5 * (i 2).toNatClampNeg + 2) x3) (5 * (i 2).toNatClampNeg + 3) x4), h)) F (show (va_up (va_up (va_up (va_up a 3 (upd (a 3) ((i 2).toNatClampNeg) k)) 4 (upd (a 4) (5 * (i 2).toNatClampNeg) x1)) 4 (upd (upd (a 4) (5 * (i 2).toNatClampNeg) x1) (5 * (i 2).toNatClampNeg + 1) x2)) 4 (upd (upd (upd (a 4) (5 * (i 2).toNatClampNeg) x1) (5 * (i 2).toNatClampNeg + 1) x2) (5 * (i 2).toNatClampNeg + 2) x3)) 4 = upd (upd (upd (a 4) (5 * (i 2).toNatClampNeg) x1) (5 * (i 2).toNatClampNeg + 1) x2) (5 * (i 2).toNatClampNeg + 2) x3 from va_up_self _ _ _) (ix5 (j := 3) h2.1 (ltn6 h2.2 hc6) (by decide)) rfl dX10_cooler_160 rfl ?_
            refine k_aload_n (n := 162) F dX10_cooler_161 rfl 1 rfl rfl ?_
            refine k_rget_4 (n := 165) F dX10_cooler_162 rfl ?_
            refine k_iload (n := 167) F dX10_cooler_165 0 rfl rfl ?_
            refine k_iconst (n := 168) (v := 4) F dX10_cooler_167 rfl rfl ?_
            refine k_iadd (n := 169) F dX10_cooler_168 rfl ?_
            refine k_iload (n := 171) F dX10_cooler_169 7 rfl rfl ?_
            refine k_rast_4 (n := 172) (N := 5 * (i 2).toNatClampNeg + 4) (f := upd (upd (upd (upd (a 4) (5 * (i 2).toNatClampNeg) x1) (5 * (i 2).toNatClampNeg + 1) x2) (5 * (i 2).toNatClampNeg + 2) x3) (5 * (i 2).toNatClampNeg + 3) x4) (u' := (i, l_, va_up (va_up (va_up (va_up (va_up (va_up a 3 (upd (a 3) ((i 2).toNatClampNeg) k)) 4 (upd (a 4) (5 * (i 2).toNatClampNeg) x1)) 4 (upd (upd (a 4) (5 * (i 2).toNatClampNeg) x1) (5 * (i 2).toNatClampNeg + 1) x2)) 4 (upd (upd (upd (a 4) (5 * (i 2).toNatClampNeg) x1) (5 * (i 2).toNatClampNeg + 1) x2) (5 * (i 2).toNatClampNeg + 2) x3)) 4 (upd (upd (upd (upd (a 4) (5 * (i 2).toNatClampNeg) x1) (5 * (i 2).toNatClampNeg + 1) x2) (5 * (i 2).toNatClampNeg + 2) x3) (5 * (i 2).toNatClampNeg + 3) x4)) 4 (upd (upd (upd (upd (upd (a 4) (5 * (i 2).toNatClampNeg) x1) (5 * (i 2).toNatClampNeg + 1) x2) (5 * (i 2).toNatClampNeg + 2) x3) (5 * (i 2).toNatClampNeg + 3) x4) (5 * (i 2).toNatClampNeg + 4) x5), h)) F (show (va_up (va_up (va_up (va_up (va_up a 3 (upd (a 3) ((i 2).toNatClampNeg) k)) 4 (upd (a 4) (5 * (i 2).toNatClampNeg) x1)) 4 (upd (upd (a 4) (5 * (i 2).toNatClampNeg) x1) (5 * (i 2).toNatClampNeg + 1) x2)) 4 (upd (upd (upd (a 4) (5 * (i 2).toNatClampNeg) x1) (5 * (i 2).toNatClampNeg + 1) x2) (5 * (i 2).toNatClampNeg + 2) x3)) 4 (upd (upd (upd (upd (a 4) (5 * (i 2).toNatClampNeg) x1) (5 * (i 2).toNatClampNeg + 1) x2) (5 * (i 2).toNatClampNeg + 2) x3) (5 * (i 2).toNatClampNeg + 3) x4)) 4 = upd (upd (upd (upd (a 4) (5 * (i 2).toNatClampNeg) x1) (5 * (i 2).toNatClampNeg + 1) x2) (5 * (i 2).toNatClampNeg + 2) x3) (5 * (i 2).toNatClampNeg + 3) x4 from va_up_self _ _ _) (ix5 (j := 4) h2.1 (ltn6 h2.2 hc6) (by decide)) rfl dX10_cooler_171 rfl ?_
            refine k_aload_n (n := 173) F dX10_cooler_172 rfl 1 rfl rfl ?_
            refine k_rget_5 (n := 176) F dX10_cooler_173 rfl ?_
            refine k_aload_n (n := 177) F dX10_cooler_176 rfl 1 rfl rfl ?_
            refine k_rget_2 (n := 180) (v := i 2) F rfl dX10_cooler_177 rfl ?_
            refine k_iload (n := 182) F dX10_cooler_180 8 rfl rfl ?_
            refine k_rast_5 (n := 183) (N := (i 2).toNatClampNeg) (f := a 5) (u' := (i, l_, va_up (va_up (va_up (va_up (va_up (va_up (va_up a 3 (upd (a 3) ((i 2).toNatClampNeg) k)) 4 (upd (a 4) (5 * (i 2).toNatClampNeg) x1)) 4 (upd (upd (a 4) (5 * (i 2).toNatClampNeg) x1) (5 * (i 2).toNatClampNeg + 1) x2)) 4 (upd (upd (upd (a 4) (5 * (i 2).toNatClampNeg) x1) (5 * (i 2).toNatClampNeg + 1) x2) (5 * (i 2).toNatClampNeg + 2) x3)) 4 (upd (upd (upd (upd (a 4) (5 * (i 2).toNatClampNeg) x1) (5 * (i 2).toNatClampNeg + 1) x2) (5 * (i 2).toNatClampNeg + 2) x3) (5 * (i 2).toNatClampNeg + 3) x4)) 4 (upd (upd (upd (upd (upd (a 4) (5 * (i 2).toNatClampNeg) x1) (5 * (i 2).toNatClampNeg + 1) x2) (5 * (i 2).toNatClampNeg + 2) x3) (5 * (i 2).toNatClampNeg + 3) x4) (5 * (i 2).toNatClampNeg + 4) x5)) 5 (upd (a 5) ((i 2).toNatClampNeg) lm), h)) F (show (va_up (va_up (va_up (va_up (va_up (va_up a 3 (upd (a 3) ((i 2).toNatClampNeg) k)) 4 (upd (a 4) (5 * (i 2).toNatClampNeg) x1)) 4 (upd (upd (a 4) (5 * (i 2).toNatClampNeg) x1) (5 * (i 2).toNatClampNeg + 1) x2)) 4 (upd (upd (upd (a 4) (5 * (i 2).toNatClampNeg) x1) (5 * (i 2).toNatClampNeg + 1) x2) (5 * (i 2).toNatClampNeg + 2) x3)) 4 (upd (upd (upd (upd (a 4) (5 * (i 2).toNatClampNeg) x1) (5 * (i 2).toNatClampNeg + 1) x2) (5 * (i 2).toNatClampNeg + 2) x3) (5 * (i 2).toNatClampNeg + 3) x4)) 4 (upd (upd (upd (upd (upd (a 4) (5 * (i 2).toNatClampNeg) x1) (5 * (i 2).toNatClampNeg + 1) x2) (5 * (i 2).toNatClampNeg + 2) x3) (5 * (i 2).toNatClampNeg + 3) x4) (5 * (i 2).toNatClampNeg + 4) x5)) 5 = a 5 from (va_up_ne _ (k := 4) (j := 5) _ (by decide)).trans ((va_up_ne _ (k := 4) (j := 5) _ (by decide)).trans ((va_up_ne _ (k := 4) (j := 5) _ (by decide)).trans ((va_up_ne _ (k := 4) (j := 5) _ (by decide)).trans ((va_up_ne _ (k := 4) (j := 5) _ (by decide)).trans (va_up_ne _ (k := 3) (j := 5) _ (by decide))))))) (ixs6 h2.1 (ltn6 h2.2 hc6)) rfl dX10_cooler_182 rfl ?_
            refine k_aload_n (n := 184) F dX10_cooler_183 rfl 1 rfl rfl ?_
            refine k_dup (n := 185) F dX10_cooler_184 rfl rfl ?_
            refine k_rget_2 (n := 188) (v := i 2) F rfl dX10_cooler_185 rfl ?_
            refine k_iconst (n := 189) (v := 1) F dX10_cooler_188 rfl rfl ?_
            refine k_iadd (n := 190) F dX10_cooler_189 rfl ?_
            refine k_rput_2 (n := 193) (u' := (upd i 2 ((i 2) + 1), l_, va_up (va_up (va_up (va_up (va_up (va_up (va_up a 3 (upd (a 3) ((i 2).toNatClampNeg) k)) 4 (upd (a 4) (5 * (i 2).toNatClampNeg) x1)) 4 (upd (upd (a 4) (5 * (i 2).toNatClampNeg) x1) (5 * (i 2).toNatClampNeg + 1) x2)) 4 (upd (upd (upd (a 4) (5 * (i 2).toNatClampNeg) x1) (5 * (i 2).toNatClampNeg + 1) x2) (5 * (i 2).toNatClampNeg + 2) x3)) 4 (upd (upd (upd (upd (a 4) (5 * (i 2).toNatClampNeg) x1) (5 * (i 2).toNatClampNeg + 1) x2) (5 * (i 2).toNatClampNeg + 2) x3) (5 * (i 2).toNatClampNeg + 3) x4)) 4 (upd (upd (upd (upd (upd (a 4) (5 * (i 2).toNatClampNeg) x1) (5 * (i 2).toNatClampNeg + 1) x2) (5 * (i 2).toNatClampNeg + 2) x3) (5 * (i 2).toNatClampNeg + 3) x4) (5 * (i 2).toNatClampNeg + 4) x5)) 5 (upd (a 5) ((i 2).toNatClampNeg) lm), h)) F rfl dX10_cooler_190 rfl ?_
            refine k_aload_n (n := 194) F dX10_cooler_193 rfl 1 rfl rfl ?_
            refine k_rget_2 (n := 197) (v := (i 2) + 1) F (show (upd i 2 ((i 2) + 1)) 2 = (i 2) + 1 from pk_us) dX10_cooler_194 rfl ?_
            refine k_iconst (n := 198) (v := 1) F dX10_cooler_197 rfl rfl ?_
            refine k_isub (n := 199) F dX10_cooler_198 rfl ?_
            have eF : f_cooler (i, l_, a, h) k x1 x2 x3 x4 x5 lm = (i 2 + 1 - 1, coo_S (i, l_, a, h) k x1 x2 x3 x4 x5 lm) := (if_neg (coo_n hc1 (Or.inl (kle0 hc1 hc2)) (Or.inr hc5))).trans (if_pos (ltn6 h2.2 hc6))
            exact k_iret F (by rw [eF]) (by rw [eF]; simp only [coo_S, up5, wR, upd, va_up, vp_updL, reduceIte, Nat.reduceEqDiff]) dX10_cooler_199
          · refine k_bipush (n := 102) (v := -3) F dX10_cooler_100 rfl rfl ?_
            have eF : f_cooler (i, l_, a, h) k x1 x2 x3 x4 x5 lm = (-3, (i, l_, a, h)) := (if_neg (coo_n hc1 (Or.inl (kle0 hc1 hc2)) (Or.inr hc5))).trans (if_neg (show ¬ i 2 < 6 by rw [show i 2 = 6 from hc6]; decide))
            exact k_iret F (by rw [eF]) (by rw [eF]) dX10_cooler_102
        · refine k_iconst (n := 90) (v := -1) F dX10_cooler_89 rfl rfl ?_
          have eF : f_cooler (i, l_, a, h) k x1 x2 x3 x4 x5 lm = (-1, (i, l_, a, h)) := if_pos (coo_c hc3 hc5)
          exact k_iret F (by rw [eF]) (by rw [eF]) dX10_cooler_90
    · refine k_iload_n (n := 19) F dX10_cooler_18 rfl 2 rfl rfl ?_
      refine k_iconst (n := 20) (v := 0) F dX10_cooler_19 rfl rfl ?_
      refine k_bipush (n := 22) (v := 50) F dX10_cooler_20 rfl rfl ?_
      refine k_ciR (n := 25) F (k_rS (k := 3) (As := [.int x1, .int 0, .int 50]) (rest := []) F (c_in l g x1 0 50) [] rfl rfl mw_693 mw_691 mw_692 mw_9 (by decide) ⟨by decide, by decide⟩ rfl (Nat.le_of_ble_eq_true rfl) ⟨by decide, by decide⟩ dX10_cooler_22) [] rfl rfl ?_
      refine k_if_eq (n := 28) (tgt := 89) F dX10_cooler_25 (by decide) rfl (fun hc7 => ?_) (fun hc7 => ?_)
      · refine k_iconst (n := 90) (v := -1) F dX10_cooler_89 rfl rfl ?_
        have eF : f_cooler (i, l_, a, h) k x1 x2 x3 x4 x5 lm = (-1, (i, l_, a, h)) := if_pos (coo_b (k0le hc2) (kc_1 hc7))
        exact k_iret F (by rw [eF]) (by rw [eF]) dX10_cooler_90
      · refine k_iload_n (n := 29) F dX10_cooler_28 rfl 3 rfl rfl ?_
        refine k_iload_n (n := 30) F dX10_cooler_29 rfl 2 rfl rfl ?_
        refine k_bipush (n := 32) (v := 50) F dX10_cooler_30 rfl rfl ?_
        refine k_ciR (n := 35) F (k_rS (k := 3) (As := [.int x2, .int x1, .int 50]) (rest := []) F (c_in l g x2 x1 50) [] rfl rfl mw_693 mw_691 mw_692 mw_9 (by decide) ⟨by decide, by decide⟩ rfl (Nat.le_of_ble_eq_true rfl) ⟨by decide, by decide⟩ dX10_cooler_32) [] rfl rfl ?_
        refine k_if_eq (n := 38) (tgt := 89) F dX10_cooler_35 (by decide) rfl (fun hc8 => ?_) (fun hc8 => ?_)
        · refine k_iconst (n := 90) (v := -1) F dX10_cooler_89 rfl rfl ?_
          have eF : f_cooler (i, l_, a, h) k x1 x2 x3 x4 x5 lm = (-1, (i, l_, a, h)) := if_pos (coo_b (k0le hc2) (kc_2 hc8))
          exact k_iret F (by rw [eF]) (by rw [eF]) dX10_cooler_90
        · refine k_iload (n := 40) F dX10_cooler_38 4 rfl rfl ?_
          refine k_iload_n (n := 41) F dX10_cooler_40 rfl 3 rfl rfl ?_
          refine k_bipush (n := 43) (v := 50) F dX10_cooler_41 rfl rfl ?_
          refine k_ciR (n := 46) F (k_rS (k := 3) (As := [.int x3, .int x2, .int 50]) (rest := []) F (c_in l g x3 x2 50) [] rfl rfl mw_693 mw_691 mw_692 mw_9 (by decide) ⟨by decide, by decide⟩ rfl (Nat.le_of_ble_eq_true rfl) ⟨by decide, by decide⟩ dX10_cooler_43) [] rfl rfl ?_
          refine k_if_eq (n := 49) (tgt := 89) F dX10_cooler_46 (by decide) rfl (fun hc9 => ?_) (fun hc9 => ?_)
          · refine k_iconst (n := 90) (v := -1) F dX10_cooler_89 rfl rfl ?_
            have eF : f_cooler (i, l_, a, h) k x1 x2 x3 x4 x5 lm = (-1, (i, l_, a, h)) := if_pos (coo_b (k0le hc2) (kc_3 hc9))
            exact k_iret F (by rw [eF]) (by rw [eF]) dX10_cooler_90
          · refine k_iload (n := 51) F dX10_cooler_49 5 rfl rfl ?_
            refine k_iload (n := 53) F dX10_cooler_51 4 rfl rfl ?_
            refine k_bipush (n := 55) (v := 50) F dX10_cooler_53 rfl rfl ?_
            refine k_ciR (n := 58) F (k_rS (k := 3) (As := [.int x4, .int x3, .int 50]) (rest := []) F (c_in l g x4 x3 50) [] rfl rfl mw_693 mw_691 mw_692 mw_9 (by decide) ⟨by decide, by decide⟩ rfl (Nat.le_of_ble_eq_true rfl) ⟨by decide, by decide⟩ dX10_cooler_55) [] rfl rfl ?_
            refine k_if_eq (n := 61) (tgt := 89) F dX10_cooler_58 (by decide) rfl (fun hc10 => ?_) (fun hc10 => ?_)
            · refine k_iconst (n := 90) (v := -1) F dX10_cooler_89 rfl rfl ?_
              have eF : f_cooler (i, l_, a, h) k x1 x2 x3 x4 x5 lm = (-1, (i, l_, a, h)) := if_pos (coo_b (k0le hc2) (kc_4 hc10))
              exact k_iret F (by rw [eF]) (by rw [eF]) dX10_cooler_90
            · refine k_iload (n := 63) F dX10_cooler_61 6 rfl rfl ?_
              refine k_iload (n := 65) F dX10_cooler_63 5 rfl rfl ?_
              refine k_bipush (n := 67) (v := 50) F dX10_cooler_65 rfl rfl ?_
              refine k_ciR (n := 70) F (k_rS (k := 3) (As := [.int x5, .int x4, .int 50]) (rest := []) F (c_in l g x5 x4 50) [] rfl rfl mw_693 mw_691 mw_692 mw_9 (by decide) ⟨by decide, by decide⟩ rfl (Nat.le_of_ble_eq_true rfl) ⟨by decide, by decide⟩ dX10_cooler_67) [] rfl rfl ?_
              refine k_if_eq (n := 73) (tgt := 89) F dX10_cooler_70 (by decide) rfl (fun hc11 => ?_) (fun hc11 => ?_)
              · refine k_iconst (n := 90) (v := -1) F dX10_cooler_89 rfl rfl ?_
                have eF : f_cooler (i, l_, a, h) k x1 x2 x3 x4 x5 lm = (-1, (i, l_, a, h)) := if_pos (coo_b (k0le hc2) (kc_5 hc11))
                exact k_iret F (by rw [eF]) (by rw [eF]) dX10_cooler_90
              · refine k_iload_n (n := 74) F dX10_cooler_73 rfl 1 rfl rfl ?_
                refine k_iconst (n := 75) (v := 2) F dX10_cooler_74 rfl rfl ?_
                refine k_icmp_ne (n := 78) (tgt := 91) F dX10_cooler_75 (by decide) rfl (fun hc12 => ?_) (fun hc12 => ?_)
                · refine k_aload_n (n := 92) F dX10_cooler_91 rfl 0 rfl rfl ?_
                  refine k_rget_2 (n := 95) (v := i 2) F rfl dX10_cooler_92 rfl ?_
                  refine k_bipush (n := 97) (v := 6) F dX10_cooler_95 rfl rfl ?_
                  refine k_icmp_ne (n := 100) (tgt := 103) F dX10_cooler_97 (by decide) rfl (fun hc13 => ?_) (fun hc13 => ?_)
                  · refine k_iconst (n := 104) (v := 5) F dX10_cooler_103 rfl rfl ?_
                    refine k_aload_n (n := 105) F dX10_cooler_104 rfl 0 rfl rfl ?_
                    refine k_rget_2 (n := 108) (v := i 2) F rfl dX10_cooler_105 rfl ?_
                    refine k_imul (n := 109) F dX10_cooler_108 rfl ?_
                    refine k_istore (n := 111) (lv' := [(8, .int (5 * (i 2))), (0, .ref h0), (1, .int k), (2, .int x1), (3, .int x2), (4, .int x3), (5, .int x4), (6, .int x5), (7, .int lm)]) F dX10_cooler_109 (by decide) rfl rfl ?_
                    refine k_aload_n (n := 112) F dX10_cooler_111 rfl 1 rfl rfl ?_
                    refine k_rget_3 (n := 115) F dX10_cooler_112 rfl ?_
                    refine k_aload_n (n := 116) F dX10_cooler_115 rfl 1 rfl rfl ?_
                    refine k_rget_2 (n := 119) (v := i 2) F rfl dX10_cooler_116 rfl ?_
                    refine k_iload_n (n := 120) F dX10_cooler_119 rfl 2 rfl rfl ?_
                    refine k_rast_3 (n := 121) (N := (i 2).toNatClampNeg) (f := a 3) (u' := (i, l_, va_up a 3 (upd (a 3) ((i 2).toNatClampNeg) k), h)) F rfl (ixs6 h2.1 (ltn6 h2.2 hc13)) rfl dX10_cooler_120 rfl ?_
                    refine k_aload_n (n := 122) F dX10_cooler_121 rfl 1 rfl rfl ?_
                    refine k_rget_4 (n := 125) F dX10_cooler_122 rfl ?_
                    refine k_iload (n := 127) F dX10_cooler_125 0 rfl rfl ?_
                    refine k_iload_n (n := 128) F dX10_cooler_127 rfl 3 rfl rfl ?_
                    refine k_rast_4 (n := 129) (N := 5 * (i 2).toNatClampNeg) (f := a 4) (u' := (i, l_, va_up (va_up a 3 (upd (a 3) ((i 2).toNatClampNeg) k)) 4 (upd (a 4) (5 * (i 2).toNatClampNeg) x1), h)) F (show (va_up a 3 (upd (a 3) ((i 2).toNatClampNeg) k)) 4 = a 4 from va_up_ne _ (k := 3) (j := 4) _ (by decide)) (ix5z h2.1 (ltn6 h2.2 hc13)) rfl dX10_cooler_128 rfl ?_
                    refine k_aload_n (n := 130) F dX10_cooler_129 rfl 1 rfl rfl ?_
                    refine k_rget_4 (n := 133) F dX10_cooler_130 rfl ?_
                    refine k_iload (n := 135) F dX10_cooler_133 0 rfl rfl ?_
                    refine k_iconst (n := 136) (v := 1) F dX10_cooler_135 rfl rfl ?_
                    refine k_iadd (n := 137) F dX10_cooler_136 rfl ?_
                    refine k_iload_n (n := 138) F dX10_cooler_137 rfl 4 rfl rfl ?_
                    refine k_rast_4 (n := 139) (N := 5 * (i 2).toNatClampNeg + 1) (f := upd (a 4) (5 * (i 2).toNatClampNeg) x1) (u' := (i, l_, va_up (va_up (va_up a 3 (upd (a 3) ((i 2).toNatClampNeg) k)) 4 (upd (a 4) (5 * (i 2).toNatClampNeg) x1)) 4 (upd (upd (a 4) (5 * (i 2).toNatClampNeg) x1) (5 * (i 2).toNatClampNeg + 1) x2), h)) F (show (va_up (va_up a 3 (upd (a 3) ((i 2).toNatClampNeg) k)) 4 (upd (a 4) (5 * (i 2).toNatClampNeg) x1)) 4 = upd (a 4) (5 * (i 2).toNatClampNeg) x1 from va_up_self _ _ _) (ix5 (j := 1) h2.1 (ltn6 h2.2 hc13) (by decide)) rfl dX10_cooler_138 rfl ?_
                    refine k_aload_n (n := 140) F dX10_cooler_139 rfl 1 rfl rfl ?_
                    refine k_rget_4 (n := 143) F dX10_cooler_140 rfl ?_
                    refine k_iload (n := 145) F dX10_cooler_143 0 rfl rfl ?_
                    refine k_iconst (n := 146) (v := 2) F dX10_cooler_145 rfl rfl ?_
                    refine k_iadd (n := 147) F dX10_cooler_146 rfl ?_
                    refine k_iload (n := 149) F dX10_cooler_147 5 rfl rfl ?_
                    refine k_rast_4 (n := 150) (N := 5 * (i 2).toNatClampNeg + 2) (f := upd (upd (a 4) (5 * (i 2).toNatClampNeg) x1) (5 * (i 2).toNatClampNeg + 1) x2) (u' := (i, l_, va_up (va_up (va_up (va_up a 3 (upd (a 3) ((i 2).toNatClampNeg) k)) 4 (upd (a 4) (5 * (i 2).toNatClampNeg) x1)) 4 (upd (upd (a 4) (5 * (i 2).toNatClampNeg) x1) (5 * (i 2).toNatClampNeg + 1) x2)) 4 (upd (upd (upd (a 4) (5 * (i 2).toNatClampNeg) x1) (5 * (i 2).toNatClampNeg + 1) x2) (5 * (i 2).toNatClampNeg + 2) x3), h)) F (show (va_up (va_up (va_up a 3 (upd (a 3) ((i 2).toNatClampNeg) k)) 4 (upd (a 4) (5 * (i 2).toNatClampNeg) x1)) 4 (upd (upd (a 4) (5 * (i 2).toNatClampNeg) x1) (5 * (i 2).toNatClampNeg + 1) x2)) 4 = upd (upd (a 4) (5 * (i 2).toNatClampNeg) x1) (5 * (i 2).toNatClampNeg + 1) x2 from va_up_self _ _ _) (ix5 (j := 2) h2.1 (ltn6 h2.2 hc13) (by decide)) rfl dX10_cooler_149 rfl ?_
                    refine k_aload_n (n := 151) F dX10_cooler_150 rfl 1 rfl rfl ?_
                    refine k_rget_4 (n := 154) F dX10_cooler_151 rfl ?_
                    refine k_iload (n := 156) F dX10_cooler_154 0 rfl rfl ?_
                    refine k_iconst (n := 157) (v := 3) F dX10_cooler_156 rfl rfl ?_
                    refine k_iadd (n := 158) F dX10_cooler_157 rfl ?_
                    refine k_iload (n := 160) F dX10_cooler_158 6 rfl rfl ?_
                    refine k_rast_4 (n := 161) (N := 5 * (i 2).toNatClampNeg + 3) (f := upd (upd (upd (a 4) (5 * (i 2).toNatClampNeg) x1) (5 * (i 2).toNatClampNeg + 1) x2) (5 * (i 2).toNatClampNeg + 2) x3) (u' := (i, l_, va_up (va_up (va_up (va_up (va_up a 3 (upd (a 3) ((i 2).toNatClampNeg) k)) 4 (upd (a 4) (5 * (i 2).toNatClampNeg) x1)) 4 (upd (upd (a 4) (5 * (i 2).toNatClampNeg) x1) (5 * (i 2).toNatClampNeg + 1) x2)) 4 (upd (upd (upd (a 4) (5 * (i 2).toNatClampNeg) x1) (5 * (i 2).toNatClampNeg + 1) x2) (5 * (i 2).toNatClampNeg + 2) x3)) 4 (upd (upd (upd (upd (a 4) (5 * (i 2).toNatClampNeg) x1) (5 * (i 2).toNatClampNeg + 1) x2) (5 * (i 2).toNatClampNeg + 2) x3) (5 * (i 2).toNatClampNeg + 3) x4), h)) F (show (va_up (va_up (va_up (va_up a 3 (upd (a 3) ((i 2).toNatClampNeg) k)) 4 (upd (a 4) (5 * (i 2).toNatClampNeg) x1)) 4 (upd (upd (a 4) (5 * (i 2).toNatClampNeg) x1) (5 * (i 2).toNatClampNeg + 1) x2)) 4 (upd (upd (upd (a 4) (5 * (i 2).toNatClampNeg) x1) (5 * (i 2).toNatClampNeg + 1) x2) (5 * (i 2).toNatClampNeg + 2) x3)) 4 = upd (upd (upd (a 4) (5 * (i 2).toNatClampNeg) x1) (5 * (i 2).toNatClampNeg + 1) x2) (5 * (i 2).toNatClampNeg + 2) x3 from va_up_self _ _ _) (ix5 (j := 3) h2.1 (ltn6 h2.2 hc13) (by decide)) rfl dX10_cooler_160 rfl ?_
                    refine k_aload_n (n := 162) F dX10_cooler_161 rfl 1 rfl rfl ?_
                    refine k_rget_4 (n := 165) F dX10_cooler_162 rfl ?_
                    refine k_iload (n := 167) F dX10_cooler_165 0 rfl rfl ?_
                    refine k_iconst (n := 168) (v := 4) F dX10_cooler_167 rfl rfl ?_
                    refine k_iadd (n := 169) F dX10_cooler_168 rfl ?_
                    refine k_iload (n := 171) F dX10_cooler_169 7 rfl rfl ?_
                    refine k_rast_4 (n := 172) (N := 5 * (i 2).toNatClampNeg + 4) (f := upd (upd (upd (upd (a 4) (5 * (i 2).toNatClampNeg) x1) (5 * (i 2).toNatClampNeg + 1) x2) (5 * (i 2).toNatClampNeg + 2) x3) (5 * (i 2).toNatClampNeg + 3) x4) (u' := (i, l_, va_up (va_up (va_up (va_up (va_up (va_up a 3 (upd (a 3) ((i 2).toNatClampNeg) k)) 4 (upd (a 4) (5 * (i 2).toNatClampNeg) x1)) 4 (upd (upd (a 4) (5 * (i 2).toNatClampNeg) x1) (5 * (i 2).toNatClampNeg + 1) x2)) 4 (upd (upd (upd (a 4) (5 * (i 2).toNatClampNeg) x1) (5 * (i 2).toNatClampNeg + 1) x2) (5 * (i 2).toNatClampNeg + 2) x3)) 4 (upd (upd (upd (upd (a 4) (5 * (i 2).toNatClampNeg) x1) (5 * (i 2).toNatClampNeg + 1) x2) (5 * (i 2).toNatClampNeg + 2) x3) (5 * (i 2).toNatClampNeg + 3) x4)) 4 (upd (upd (upd (upd (upd (a 4) (5 * (i 2).toNatClampNeg) x1) (5 * (i 2).toNatClampNeg + 1) x2) (5 * (i 2).toNatClampNeg + 2) x3) (5 * (i 2).toNatClampNeg + 3) x4) (5 * (i 2).toNatClampNeg + 4) x5), h)) F (show (va_up (va_up (va_up (va_up (va_up a 3 (upd (a 3) ((i 2).toNatClampNeg) k)) 4 (upd (a 4) (5 * (i 2).toNatClampNeg) x1)) 4 (upd (upd (a 4) (5 * (i 2).toNatClampNeg) x1) (5 * (i 2).toNatClampNeg + 1) x2)) 4 (upd (upd (upd (a 4) (5 * (i 2).toNatClampNeg) x1) (5 * (i 2).toNatClampNeg + 1) x2) (5 * (i 2).toNatClampNeg + 2) x3)) 4 (upd (upd (upd (upd (a 4) (5 * (i 2).toNatClampNeg) x1) (5 * (i 2).toNatClampNeg + 1) x2) (5 * (i 2).toNatClampNeg + 2) x3) (5 * (i 2).toNatClampNeg + 3) x4)) 4 = upd (upd (upd (upd (a 4) (5 * (i 2).toNatClampNeg) x1) (5 * (i 2).toNatClampNeg + 1) x2) (5 * (i 2).toNatClampNeg + 2) x3) (5 * (i 2).toNatClampNeg + 3) x4 from va_up_self _ _ _) (ix5 (j := 4) h2.1 (ltn6 h2.2 hc13) (by decide)) rfl dX10_cooler_171 rfl ?_
                    refine k_aload_n (n := 173) F dX10_cooler_172 rfl 1 rfl rfl ?_
                    refine k_rget_5 (n := 176) F dX10_cooler_173 rfl ?_
                    refine k_aload_n (n := 177) F dX10_cooler_176 rfl 1 rfl rfl ?_
                    refine k_rget_2 (n := 180) (v := i 2) F rfl dX10_cooler_177 rfl ?_
                    refine k_iload (n := 182) F dX10_cooler_180 8 rfl rfl ?_
                    refine k_rast_5 (n := 183) (N := (i 2).toNatClampNeg) (f := a 5) (u' := (i, l_, va_up (va_up (va_up (va_up (va_up (va_up (va_up a 3 (upd (a 3) ((i 2).toNatClampNeg) k)) 4 (upd (a 4) (5 * (i 2).toNatClampNeg) x1)) 4 (upd (upd (a 4) (5 * (i 2).toNatClampNeg) x1) (5 * (i 2).toNatClampNeg + 1) x2)) 4 (upd (upd (upd (a 4) (5 * (i 2).toNatClampNeg) x1) (5 * (i 2).toNatClampNeg + 1) x2) (5 * (i 2).toNatClampNeg + 2) x3)) 4 (upd (upd (upd (upd (a 4) (5 * (i 2).toNatClampNeg) x1) (5 * (i 2).toNatClampNeg + 1) x2) (5 * (i 2).toNatClampNeg + 2) x3) (5 * (i 2).toNatClampNeg + 3) x4)) 4 (upd (upd (upd (upd (upd (a 4) (5 * (i 2).toNatClampNeg) x1) (5 * (i 2).toNatClampNeg + 1) x2) (5 * (i 2).toNatClampNeg + 2) x3) (5 * (i 2).toNatClampNeg + 3) x4) (5 * (i 2).toNatClampNeg + 4) x5)) 5 (upd (a 5) ((i 2).toNatClampNeg) lm), h)) F (show (va_up (va_up (va_up (va_up (va_up (va_up a 3 (upd (a 3) ((i 2).toNatClampNeg) k)) 4 (upd (a 4) (5 * (i 2).toNatClampNeg) x1)) 4 (upd (upd (a 4) (5 * (i 2).toNatClampNeg) x1) (5 * (i 2).toNatClampNeg + 1) x2)) 4 (upd (upd (upd (a 4) (5 * (i 2).toNatClampNeg) x1) (5 * (i 2).toNatClampNeg + 1) x2) (5 * (i 2).toNatClampNeg + 2) x3)) 4 (upd (upd (upd (upd (a 4) (5 * (i 2).toNatClampNeg) x1) (5 * (i 2).toNatClampNeg + 1) x2) (5 * (i 2).toNatClampNeg + 2) x3) (5 * (i 2).toNatClampNeg + 3) x4)) 4 (upd (upd (upd (upd (upd (a 4) (5 * (i 2).toNatClampNeg) x1) (5 * (i 2).toNatClampNeg + 1) x2) (5 * (i 2).toNatClampNeg + 2) x3) (5 * (i 2).toNatClampNeg + 3) x4) (5 * (i 2).toNatClampNeg + 4) x5)) 5 = a 5 from (va_up_ne _ (k := 4) (j := 5) _ (by decide)).trans ((va_up_ne _ (k := 4) (j := 5) _ (by decide)).trans ((va_up_ne _ (k := 4) (j := 5) _ (by decide)).trans ((va_up_ne _ (k := 4) (j := 5) _ (by decide)).trans ((va_up_ne _ (k := 4) (j := 5) _ (by decide)).trans (va_up_ne _ (k := 3) (j := 5) _ (by decide))))))) (ixs6 h2.1 (ltn6 h2.2 hc13)) rfl dX10_cooler_182 rfl ?_
                    refine k_aload_n (n := 184) F dX10_cooler_183 rfl 1 rfl rfl ?_
                    refine k_dup (n := 185) F dX10_cooler_184 rfl rfl ?_
                    refine k_rget_2 (n := 188) (v := i 2) F rfl dX10_cooler_185 rfl ?_
                    refine k_iconst (n := 189) (v := 1) F dX10_cooler_188 rfl rfl ?_
                    refine k_iadd (n := 190) F dX10_cooler_189 rfl ?_
                    refine k_rput_2 (n := 193) (u' := (upd i 2 ((i 2) + 1), l_, va_up (va_up (va_up (va_up (va_up (va_up (va_up a 3 (upd (a 3) ((i 2).toNatClampNeg) k)) 4 (upd (a 4) (5 * (i 2).toNatClampNeg) x1)) 4 (upd (upd (a 4) (5 * (i 2).toNatClampNeg) x1) (5 * (i 2).toNatClampNeg + 1) x2)) 4 (upd (upd (upd (a 4) (5 * (i 2).toNatClampNeg) x1) (5 * (i 2).toNatClampNeg + 1) x2) (5 * (i 2).toNatClampNeg + 2) x3)) 4 (upd (upd (upd (upd (a 4) (5 * (i 2).toNatClampNeg) x1) (5 * (i 2).toNatClampNeg + 1) x2) (5 * (i 2).toNatClampNeg + 2) x3) (5 * (i 2).toNatClampNeg + 3) x4)) 4 (upd (upd (upd (upd (upd (a 4) (5 * (i 2).toNatClampNeg) x1) (5 * (i 2).toNatClampNeg + 1) x2) (5 * (i 2).toNatClampNeg + 2) x3) (5 * (i 2).toNatClampNeg + 3) x4) (5 * (i 2).toNatClampNeg + 4) x5)) 5 (upd (a 5) ((i 2).toNatClampNeg) lm), h)) F rfl dX10_cooler_190 rfl ?_
                    refine k_aload_n (n := 194) F dX10_cooler_193 rfl 1 rfl rfl ?_
                    refine k_rget_2 (n := 197) (v := (i 2) + 1) F (show (upd i 2 ((i 2) + 1)) 2 = (i 2) + 1 from pk_us) dX10_cooler_194 rfl ?_
                    refine k_iconst (n := 198) (v := 1) F dX10_cooler_197 rfl rfl ?_
                    refine k_isub (n := 199) F dX10_cooler_198 rfl ?_
                    have eF : f_cooler (i, l_, a, h) k x1 x2 x3 x4 x5 lm = (i 2 + 1 - 1, coo_S (i, l_, a, h) k x1 x2 x3 x4 x5 lm) := (if_neg (coo_n hc1 (Or.inr (kc_n hc7 hc8 hc9 hc10 hc11)) (Or.inl hc12))).trans (if_pos (ltn6 h2.2 hc13))
                    exact k_iret F (by rw [eF]) (by rw [eF]; simp only [coo_S, up5, wR, upd, va_up, vp_updL, reduceIte, Nat.reduceEqDiff]) dX10_cooler_199
                  · refine k_bipush (n := 102) (v := -3) F dX10_cooler_100 rfl rfl ?_
                    have eF : f_cooler (i, l_, a, h) k x1 x2 x3 x4 x5 lm = (-3, (i, l_, a, h)) := (if_neg (coo_n hc1 (Or.inr (kc_n hc7 hc8 hc9 hc10 hc11)) (Or.inl hc12))).trans (if_neg (show ¬ i 2 < 6 by rw [show i 2 = 6 from hc13]; decide))
                    exact k_iret F (by rw [eF]) (by rw [eF]) dX10_cooler_102
                · refine k_iload (n := 80) F dX10_cooler_78 7 rfl rfl ?_
                  refine k_iconst (n := 81) (v := 0) F dX10_cooler_80 rfl rfl ?_
                  refine k_bipush (n := 83) (v := 60) F dX10_cooler_81 rfl rfl ?_
                  refine k_ciR (n := 86) F (k_rS (k := 3) (As := [.int lm, .int 0, .int 60]) (rest := []) F (c_in l g lm 0 60) [] rfl rfl mw_693 mw_691 mw_692 mw_9 (by decide) ⟨by decide, by decide⟩ rfl (Nat.le_of_ble_eq_true rfl) ⟨by decide, by decide⟩ dX10_cooler_83) [] rfl rfl ?_
                  refine k_if_ne (n := 89) (tgt := 91) F dX10_cooler_86 (by decide) rfl (fun hc14 => ?_) (fun hc14 => ?_)
                  · refine k_aload_n (n := 92) F dX10_cooler_91 rfl 0 rfl rfl ?_
                    refine k_rget_2 (n := 95) (v := i 2) F rfl dX10_cooler_92 rfl ?_
                    refine k_bipush (n := 97) (v := 6) F dX10_cooler_95 rfl rfl ?_
                    refine k_icmp_ne (n := 100) (tgt := 103) F dX10_cooler_97 (by decide) rfl (fun hc15 => ?_) (fun hc15 => ?_)
                    · refine k_iconst (n := 104) (v := 5) F dX10_cooler_103 rfl rfl ?_
                      refine k_aload_n (n := 105) F dX10_cooler_104 rfl 0 rfl rfl ?_
                      refine k_rget_2 (n := 108) (v := i 2) F rfl dX10_cooler_105 rfl ?_
                      refine k_imul (n := 109) F dX10_cooler_108 rfl ?_
                      refine k_istore (n := 111) (lv' := [(8, .int (5 * (i 2))), (0, .ref h0), (1, .int k), (2, .int x1), (3, .int x2), (4, .int x3), (5, .int x4), (6, .int x5), (7, .int lm)]) F dX10_cooler_109 (by decide) rfl rfl ?_
                      refine k_aload_n (n := 112) F dX10_cooler_111 rfl 1 rfl rfl ?_
                      refine k_rget_3 (n := 115) F dX10_cooler_112 rfl ?_
                      refine k_aload_n (n := 116) F dX10_cooler_115 rfl 1 rfl rfl ?_
                      refine k_rget_2 (n := 119) (v := i 2) F rfl dX10_cooler_116 rfl ?_
                      refine k_iload_n (n := 120) F dX10_cooler_119 rfl 2 rfl rfl ?_
                      refine k_rast_3 (n := 121) (N := (i 2).toNatClampNeg) (f := a 3) (u' := (i, l_, va_up a 3 (upd (a 3) ((i 2).toNatClampNeg) k), h)) F rfl (ixs6 h2.1 (ltn6 h2.2 hc15)) rfl dX10_cooler_120 rfl ?_
                      refine k_aload_n (n := 122) F dX10_cooler_121 rfl 1 rfl rfl ?_
                      refine k_rget_4 (n := 125) F dX10_cooler_122 rfl ?_
                      refine k_iload (n := 127) F dX10_cooler_125 0 rfl rfl ?_
                      refine k_iload_n (n := 128) F dX10_cooler_127 rfl 3 rfl rfl ?_
                      refine k_rast_4 (n := 129) (N := 5 * (i 2).toNatClampNeg) (f := a 4) (u' := (i, l_, va_up (va_up a 3 (upd (a 3) ((i 2).toNatClampNeg) k)) 4 (upd (a 4) (5 * (i 2).toNatClampNeg) x1), h)) F (show (va_up a 3 (upd (a 3) ((i 2).toNatClampNeg) k)) 4 = a 4 from va_up_ne _ (k := 3) (j := 4) _ (by decide)) (ix5z h2.1 (ltn6 h2.2 hc15)) rfl dX10_cooler_128 rfl ?_
                      refine k_aload_n (n := 130) F dX10_cooler_129 rfl 1 rfl rfl ?_
                      refine k_rget_4 (n := 133) F dX10_cooler_130 rfl ?_
                      refine k_iload (n := 135) F dX10_cooler_133 0 rfl rfl ?_
                      refine k_iconst (n := 136) (v := 1) F dX10_cooler_135 rfl rfl ?_
                      refine k_iadd (n := 137) F dX10_cooler_136 rfl ?_
                      refine k_iload_n (n := 138) F dX10_cooler_137 rfl 4 rfl rfl ?_
                      refine k_rast_4 (n := 139) (N := 5 * (i 2).toNatClampNeg + 1) (f := upd (a 4) (5 * (i 2).toNatClampNeg) x1) (u' := (i, l_, va_up (va_up (va_up a 3 (upd (a 3) ((i 2).toNatClampNeg) k)) 4 (upd (a 4) (5 * (i 2).toNatClampNeg) x1)) 4 (upd (upd (a 4) (5 * (i 2).toNatClampNeg) x1) (5 * (i 2).toNatClampNeg + 1) x2), h)) F (show (va_up (va_up a 3 (upd (a 3) ((i 2).toNatClampNeg) k)) 4 (upd (a 4) (5 * (i 2).toNatClampNeg) x1)) 4 = upd (a 4) (5 * (i 2).toNatClampNeg) x1 from va_up_self _ _ _) (ix5 (j := 1) h2.1 (ltn6 h2.2 hc15) (by decide)) rfl dX10_cooler_138 rfl ?_
                      refine k_aload_n (n := 140) F dX10_cooler_139 rfl 1 rfl rfl ?_
                      refine k_rget_4 (n := 143) F dX10_cooler_140 rfl ?_
                      refine k_iload (n := 145) F dX10_cooler_143 0 rfl rfl ?_
                      refine k_iconst (n := 146) (v := 2) F dX10_cooler_145 rfl rfl ?_
                      refine k_iadd (n := 147) F dX10_cooler_146 rfl ?_
                      refine k_iload (n := 149) F dX10_cooler_147 5 rfl rfl ?_
                      refine k_rast_4 (n := 150) (N := 5 * (i 2).toNatClampNeg + 2) (f := upd (upd (a 4) (5 * (i 2).toNatClampNeg) x1) (5 * (i 2).toNatClampNeg + 1) x2) (u' := (i, l_, va_up (va_up (va_up (va_up a 3 (upd (a 3) ((i 2).toNatClampNeg) k)) 4 (upd (a 4) (5 * (i 2).toNatClampNeg) x1)) 4 (upd (upd (a 4) (5 * (i 2).toNatClampNeg) x1) (5 * (i 2).toNatClampNeg + 1) x2)) 4 (upd (upd (upd (a 4) (5 * (i 2).toNatClampNeg) x1) (5 * (i 2).toNatClampNeg + 1) x2) (5 * (i 2).toNatClampNeg + 2) x3), h)) F (show (va_up (va_up (va_up a 3 (upd (a 3) ((i 2).toNatClampNeg) k)) 4 (upd (a 4) (5 * (i 2).toNatClampNeg) x1)) 4 (upd (upd (a 4) (5 * (i 2).toNatClampNeg) x1) (5 * (i 2).toNatClampNeg + 1) x2)) 4 = upd (upd (a 4) (5 * (i 2).toNatClampNeg) x1) (5 * (i 2).toNatClampNeg + 1) x2 from va_up_self _ _ _) (ix5 (j := 2) h2.1 (ltn6 h2.2 hc15) (by decide)) rfl dX10_cooler_149 rfl ?_
                      refine k_aload_n (n := 151) F dX10_cooler_150 rfl 1 rfl rfl ?_
                      refine k_rget_4 (n := 154) F dX10_cooler_151 rfl ?_
                      refine k_iload (n := 156) F dX10_cooler_154 0 rfl rfl ?_
                      refine k_iconst (n := 157) (v := 3) F dX10_cooler_156 rfl rfl ?_
                      refine k_iadd (n := 158) F dX10_cooler_157 rfl ?_
                      refine k_iload (n := 160) F dX10_cooler_158 6 rfl rfl ?_
                      refine k_rast_4 (n := 161) (N := 5 * (i 2).toNatClampNeg + 3) (f := upd (upd (upd (a 4) (5 * (i 2).toNatClampNeg) x1) (5 * (i 2).toNatClampNeg + 1) x2) (5 * (i 2).toNatClampNeg + 2) x3) (u' := (i, l_, va_up (va_up (va_up (va_up (va_up a 3 (upd (a 3) ((i 2).toNatClampNeg) k)) 4 (upd (a 4) (5 * (i 2).toNatClampNeg) x1)) 4 (upd (upd (a 4) (5 * (i 2).toNatClampNeg) x1) (5 * (i 2).toNatClampNeg + 1) x2)) 4 (upd (upd (upd (a 4) (5 * (i 2).toNatClampNeg) x1) (5 * (i 2).toNatClampNeg + 1) x2) (5 * (i 2).toNatClampNeg + 2) x3)) 4 (upd (upd (upd (upd (a 4) (5 * (i 2).toNatClampNeg) x1) (5 * (i 2).toNatClampNeg + 1) x2) (5 * (i 2).toNatClampNeg + 2) x3) (5 * (i 2).toNatClampNeg + 3) x4), h)) F (show (va_up (va_up (va_up (va_up a 3 (upd (a 3) ((i 2).toNatClampNeg) k)) 4 (upd (a 4) (5 * (i 2).toNatClampNeg) x1)) 4 (upd (upd (a 4) (5 * (i 2).toNatClampNeg) x1) (5 * (i 2).toNatClampNeg + 1) x2)) 4 (upd (upd (upd (a 4) (5 * (i 2).toNatClampNeg) x1) (5 * (i 2).toNatClampNeg + 1) x2) (5 * (i 2).toNatClampNeg + 2) x3)) 4 = upd (upd (upd (a 4) (5 * (i 2).toNatClampNeg) x1) (5 * (i 2).toNatClampNeg + 1) x2) (5 * (i 2).toNatClampNeg + 2) x3 from va_up_self _ _ _) (ix5 (j := 3) h2.1 (ltn6 h2.2 hc15) (by decide)) rfl dX10_cooler_160 rfl ?_
                      refine k_aload_n (n := 162) F dX10_cooler_161 rfl 1 rfl rfl ?_
                      refine k_rget_4 (n := 165) F dX10_cooler_162 rfl ?_
                      refine k_iload (n := 167) F dX10_cooler_165 0 rfl rfl ?_
                      refine k_iconst (n := 168) (v := 4) F dX10_cooler_167 rfl rfl ?_
                      refine k_iadd (n := 169) F dX10_cooler_168 rfl ?_
                      refine k_iload (n := 171) F dX10_cooler_169 7 rfl rfl ?_
                      refine k_rast_4 (n := 172) (N := 5 * (i 2).toNatClampNeg + 4) (f := upd (upd (upd (upd (a 4) (5 * (i 2).toNatClampNeg) x1) (5 * (i 2).toNatClampNeg + 1) x2) (5 * (i 2).toNatClampNeg + 2) x3) (5 * (i 2).toNatClampNeg + 3) x4) (u' := (i, l_, va_up (va_up (va_up (va_up (va_up (va_up a 3 (upd (a 3) ((i 2).toNatClampNeg) k)) 4 (upd (a 4) (5 * (i 2).toNatClampNeg) x1)) 4 (upd (upd (a 4) (5 * (i 2).toNatClampNeg) x1) (5 * (i 2).toNatClampNeg + 1) x2)) 4 (upd (upd (upd (a 4) (5 * (i 2).toNatClampNeg) x1) (5 * (i 2).toNatClampNeg + 1) x2) (5 * (i 2).toNatClampNeg + 2) x3)) 4 (upd (upd (upd (upd (a 4) (5 * (i 2).toNatClampNeg) x1) (5 * (i 2).toNatClampNeg + 1) x2) (5 * (i 2).toNatClampNeg + 2) x3) (5 * (i 2).toNatClampNeg + 3) x4)) 4 (upd (upd (upd (upd (upd (a 4) (5 * (i 2).toNatClampNeg) x1) (5 * (i 2).toNatClampNeg + 1) x2) (5 * (i 2).toNatClampNeg + 2) x3) (5 * (i 2).toNatClampNeg + 3) x4) (5 * (i 2).toNatClampNeg + 4) x5), h)) F (show (va_up (va_up (va_up (va_up (va_up a 3 (upd (a 3) ((i 2).toNatClampNeg) k)) 4 (upd (a 4) (5 * (i 2).toNatClampNeg) x1)) 4 (upd (upd (a 4) (5 * (i 2).toNatClampNeg) x1) (5 * (i 2).toNatClampNeg + 1) x2)) 4 (upd (upd (upd (a 4) (5 * (i 2).toNatClampNeg) x1) (5 * (i 2).toNatClampNeg + 1) x2) (5 * (i 2).toNatClampNeg + 2) x3)) 4 (upd (upd (upd (upd (a 4) (5 * (i 2).toNatClampNeg) x1) (5 * (i 2).toNatClampNeg + 1) x2) (5 * (i 2).toNatClampNeg + 2) x3) (5 * (i 2).toNatClampNeg + 3) x4)) 4 = upd (upd (upd (upd (a 4) (5 * (i 2).toNatClampNeg) x1) (5 * (i 2).toNatClampNeg + 1) x2) (5 * (i 2).toNatClampNeg + 2) x3) (5 * (i 2).toNatClampNeg + 3) x4 from va_up_self _ _ _) (ix5 (j := 4) h2.1 (ltn6 h2.2 hc15) (by decide)) rfl dX10_cooler_171 rfl ?_
                      refine k_aload_n (n := 173) F dX10_cooler_172 rfl 1 rfl rfl ?_
                      refine k_rget_5 (n := 176) F dX10_cooler_173 rfl ?_
                      refine k_aload_n (n := 177) F dX10_cooler_176 rfl 1 rfl rfl ?_
                      refine k_rget_2 (n := 180) (v := i 2) F rfl dX10_cooler_177 rfl ?_
                      refine k_iload (n := 182) F dX10_cooler_180 8 rfl rfl ?_
                      refine k_rast_5 (n := 183) (N := (i 2).toNatClampNeg) (f := a 5) (u' := (i, l_, va_up (va_up (va_up (va_up (va_up (va_up (va_up a 3 (upd (a 3) ((i 2).toNatClampNeg) k)) 4 (upd (a 4) (5 * (i 2).toNatClampNeg) x1)) 4 (upd (upd (a 4) (5 * (i 2).toNatClampNeg) x1) (5 * (i 2).toNatClampNeg + 1) x2)) 4 (upd (upd (upd (a 4) (5 * (i 2).toNatClampNeg) x1) (5 * (i 2).toNatClampNeg + 1) x2) (5 * (i 2).toNatClampNeg + 2) x3)) 4 (upd (upd (upd (upd (a 4) (5 * (i 2).toNatClampNeg) x1) (5 * (i 2).toNatClampNeg + 1) x2) (5 * (i 2).toNatClampNeg + 2) x3) (5 * (i 2).toNatClampNeg + 3) x4)) 4 (upd (upd (upd (upd (upd (a 4) (5 * (i 2).toNatClampNeg) x1) (5 * (i 2).toNatClampNeg + 1) x2) (5 * (i 2).toNatClampNeg + 2) x3) (5 * (i 2).toNatClampNeg + 3) x4) (5 * (i 2).toNatClampNeg + 4) x5)) 5 (upd (a 5) ((i 2).toNatClampNeg) lm), h)) F (show (va_up (va_up (va_up (va_up (va_up (va_up a 3 (upd (a 3) ((i 2).toNatClampNeg) k)) 4 (upd (a 4) (5 * (i 2).toNatClampNeg) x1)) 4 (upd (upd (a 4) (5 * (i 2).toNatClampNeg) x1) (5 * (i 2).toNatClampNeg + 1) x2)) 4 (upd (upd (upd (a 4) (5 * (i 2).toNatClampNeg) x1) (5 * (i 2).toNatClampNeg + 1) x2) (5 * (i 2).toNatClampNeg + 2) x3)) 4 (upd (upd (upd (upd (a 4) (5 * (i 2).toNatClampNeg) x1) (5 * (i 2).toNatClampNeg + 1) x2) (5 * (i 2).toNatClampNeg + 2) x3) (5 * (i 2).toNatClampNeg + 3) x4)) 4 (upd (upd (upd (upd (upd (a 4) (5 * (i 2).toNatClampNeg) x1) (5 * (i 2).toNatClampNeg + 1) x2) (5 * (i 2).toNatClampNeg + 2) x3) (5 * (i 2).toNatClampNeg + 3) x4) (5 * (i 2).toNatClampNeg + 4) x5)) 5 = a 5 from (va_up_ne _ (k := 4) (j := 5) _ (by decide)).trans ((va_up_ne _ (k := 4) (j := 5) _ (by decide)).trans ((va_up_ne _ (k := 4) (j := 5) _ (by decide)).trans ((va_up_ne _ (k := 4) (j := 5) _ (by decide)).trans ((va_up_ne _ (k := 4) (j := 5) _ (by decide)).trans (va_up_ne _ (k := 3) (j := 5) _ (by decide))))))) (ixs6 h2.1 (ltn6 h2.2 hc15)) rfl dX10_cooler_182 rfl ?_
                      refine k_aload_n (n := 184) F dX10_cooler_183 rfl 1 rfl rfl ?_
                      refine k_dup (n := 185) F dX10_cooler_184 rfl rfl ?_
                      refine k_rget_2 (n := 188) (v := i 2) F rfl dX10_cooler_185 rfl ?_
                      refine k_iconst (n := 189) (v := 1) F dX10_cooler_188 rfl rfl ?_
                      refine k_iadd (n := 190) F dX10_cooler_189 rfl ?_
                      refine k_rput_2 (n := 193) (u' := (upd i 2 ((i 2) + 1), l_, va_up (va_up (va_up (va_up (va_up (va_up (va_up a 3 (upd (a 3) ((i 2).toNatClampNeg) k)) 4 (upd (a 4) (5 * (i 2).toNatClampNeg) x1)) 4 (upd (upd (a 4) (5 * (i 2).toNatClampNeg) x1) (5 * (i 2).toNatClampNeg + 1) x2)) 4 (upd (upd (upd (a 4) (5 * (i 2).toNatClampNeg) x1) (5 * (i 2).toNatClampNeg + 1) x2) (5 * (i 2).toNatClampNeg + 2) x3)) 4 (upd (upd (upd (upd (a 4) (5 * (i 2).toNatClampNeg) x1) (5 * (i 2).toNatClampNeg + 1) x2) (5 * (i 2).toNatClampNeg + 2) x3) (5 * (i 2).toNatClampNeg + 3) x4)) 4 (upd (upd (upd (upd (upd (a 4) (5 * (i 2).toNatClampNeg) x1) (5 * (i 2).toNatClampNeg + 1) x2) (5 * (i 2).toNatClampNeg + 2) x3) (5 * (i 2).toNatClampNeg + 3) x4) (5 * (i 2).toNatClampNeg + 4) x5)) 5 (upd (a 5) ((i 2).toNatClampNeg) lm), h)) F rfl dX10_cooler_190 rfl ?_
                      refine k_aload_n (n := 194) F dX10_cooler_193 rfl 1 rfl rfl ?_
                      refine k_rget_2 (n := 197) (v := (i 2) + 1) F (show (upd i 2 ((i 2) + 1)) 2 = (i 2) + 1 from pk_us) dX10_cooler_194 rfl ?_
                      refine k_iconst (n := 198) (v := 1) F dX10_cooler_197 rfl rfl ?_
                      refine k_isub (n := 199) F dX10_cooler_198 rfl ?_
                      have eF : f_cooler (i, l_, a, h) k x1 x2 x3 x4 x5 lm = (i 2 + 1 - 1, coo_S (i, l_, a, h) k x1 x2 x3 x4 x5 lm) := (if_neg (coo_n hc1 (Or.inr (kc_n hc7 hc8 hc9 hc10 hc11)) (Or.inr hc14))).trans (if_pos (ltn6 h2.2 hc15))
                      exact k_iret F (by rw [eF]) (by rw [eF]; simp only [coo_S, up5, wR, upd, va_up, vp_updL, reduceIte, Nat.reduceEqDiff]) dX10_cooler_199
                    · refine k_bipush (n := 102) (v := -3) F dX10_cooler_100 rfl rfl ?_
                      have eF : f_cooler (i, l_, a, h) k x1 x2 x3 x4 x5 lm = (-3, (i, l_, a, h)) := (if_neg (coo_n hc1 (Or.inr (kc_n hc7 hc8 hc9 hc10 hc11)) (Or.inr hc14))).trans (if_neg (show ¬ i 2 < 6 by rw [show i 2 = 6 from hc15]; decide))
                      exact k_iret F (by rw [eF]) (by rw [eF]) dX10_cooler_102
                  · refine k_iconst (n := 90) (v := -1) F dX10_cooler_89 rfl rfl ?_
                    have eF : f_cooler (i, l_, a, h) k x1 x2 x3 x4 x5 lm = (-1, (i, l_, a, h)) := if_pos (coo_c hc12 hc14)
                    exact k_iret F (by rw [eF]) (by rw [eF]) dX10_cooler_90
