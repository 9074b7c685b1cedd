theorem kIx_kin {y n : Int32} (h : ¬ kin y 0 (n - 1) = 0) (h1 : 1 ≤ n) (h8 : n ≤ 8) : kIx y y.toNatClampNeg 8 := by
  obtain ⟨a1, a2⟩ := kin_n.mp h
  obtain ⟨k, hk, rfl⟩ := nI_of (x := n) (fun q => absurd (Int32.lt_of_le_of_lt h1 q) (by decide))
  have e1 : 1 ≤ k := (nI_leI (by decide) hk).mp (show nI 1 ≤ nI k from h1)
  have e2 : k ≤ 8 := (nI_leI hk (by decide)).mp (show nI k ≤ nI 8 from h8)
  have e : nI k - 1 = nI (k - 1) := pk_sub (b := 1) e1
  rw [e] at a2
  refine kIx_le a1 ?_ (by decide)
  exact Int32.lt_of_le_of_lt a2 (nI_lt (by omega) (by omega))
theorem kIx_m {x : Int32} (h : ¬ kin x 0 3 = 0) : kIx x x.toNatClampNeg 4 := by
  obtain ⟨a1, a2⟩ := kin_n.mp h
  exact kIx_le a1 (Int32.lt_of_le_of_lt a2 (by decide)) (by decide)
theorem kclamp {x : Int32} (h : 0 ≤ x) : x = nI x.toNatClampNeg := by
  obtain ⟨k, hk, rfl⟩ := nI_of (Int32.not_lt.mpr h)
  rw [nI_clamp hk]
theorem kclamp8 {x : Int32} (h : 0 ≤ x) (h8 : x ≤ 8) : x.toNatClampNeg ≤ 8 := by
  obtain ⟨k, hk, rfl⟩ := nI_of (Int32.not_lt.mpr h)
  rw [nI_clamp hk]
  exact (nI_leI hk (by decide)).mp (show nI k ≤ nI 8 from h8)
set_option maxRecDepth 100000 in
set_option maxHeartbeats 4000000 in
theorem c_isCooler (l : Launch) (g : kG) (ad : Nat → Nat) (cf : Nat → Option Nat) (i : Nat → Int32) (l_ : Nat → Int64) (a : Nat → Nat → Int32) (h : Nat → Int64) (x : Int32) : kM l yX9_isCooler cX9_isCooler 2 (some .boolean) (rmK 1 0 0 22) g [.ref ((ad 0)), .int x] (wC g ad (i, l_, a, h) cf) (kDi g (kin x 0 (i 2 - 1)) (wC g ad (i, l_, a, h) cf)) := by
  refine k_enter (by decide) (Nat.le_of_ble_eq_true rfl) ?_
  intro p e s m args below meth c A F
  refine k_iload_n (n := 1) F dX9_isCooler_0 rfl 1 rfl rfl ?_
  refine k_iconst (n := 2) (v := 0) F dX9_isCooler_1 rfl rfl ?_
  refine k_aload_n (n := 3) F dX9_isCooler_2 rfl 0 rfl rfl ?_
  refine k_get (n := 6) (v := .int (i 2)) F uX9 0 7 rfl rfl (by decide) mw_203 rfl dX9_isCooler_3 rfl ?_
  refine k_iconst (n := 7) (v := 1) F dX9_isCooler_6 rfl rfl ?_
  refine k_isub (n := 8) F dX9_isCooler_7 rfl ?_
  refine k_ciR (n := 11) F (k_rS (k := 3) (As := [.int x, .int 0, .int ((i 2) - 1)]) (rest := []) F (c_within l g x 0 ((i 2) - 1)) [] rfl rfl mw_243 mw_241 mw_242 mw_1 (by decide) ⟨by decide, by decide⟩ rfl (Nat.le_of_ble_eq_true rfl) ⟨by decide, by decide⟩ dX9_isCooler_8) [] rfl rfl ?_
  exact k_zret F (kZn (kin_b _ _ _)) (by first | rfl | (simp only [kin, if_true, if_false, not_true_eq_false, not_false_eq_true]; done) | (simp only [kin, if_true, if_false, not_true_eq_false, not_false_eq_true]; rfl) | (simp [kin]; done) | (simp [kin]; rfl) | (simp_all [kin]; done)) (by first | rfl | (simp only [kin, if_true, if_false, not_true_eq_false, not_false_eq_true]; done) | (simp only [kin, if_true, if_false, not_true_eq_false, not_false_eq_true]; rfl) | (simp [kin]; done) | (simp [kin]; rfl) | (simp_all [kin]; done)) dX9_isCooler_11
set_option maxRecDepth 100000 in
set_option maxHeartbeats 4000000 in
theorem c_cells (l : Launch) (g : kG) (ad : Nat → Nat) (cf : Nat → Option Nat) (i : Nat → Int32) (l_ : Nat → Int64) (a : Nat → Nat → Int32) (h : Nat → Int64) (n pp : Int32) : kM l yX9_cells cX9_cells 3 (some .int) (rmK 2 0 0 45) g [.ref ((ad 0)), .int n, .int pp] (wC g ad (i, l_, a, h) cf) (kDi g (f_cells (i, l_, a, h) n pp).1 (wC g ad (f_cells (i, l_, a, h) n pp).2 cf)) := by
  refine k_enter (by decide) (Nat.le_of_ble_eq_true rfl) ?_
  intro p e s m args below meth c A F
  refine k_iload_n (n := 1) F dX9_cells_0 rfl 1 rfl rfl ?_
  refine k_iconst (n := 2) (v := 1) F dX9_cells_1 rfl rfl ?_
  refine k_bipush (n := 4) (v := 8) F dX9_cells_2 rfl rfl ?_
  refine k_ciR (n := 7) F (k_rS (k := 3) (As := [.int n, .int 1, .int 8]) (rest := []) F (c_within l g n 1 8) [] rfl rfl mw_243 mw_241 mw_242 mw_1 (by decide) ⟨by decide, by decide⟩ rfl (Nat.le_of_ble_eq_true rfl) ⟨by decide, by decide⟩ dX9_cells_4) [] rfl rfl ?_
  refine k_if_eq (n := 10) (tgt := 20) F dX9_cells_7 (by decide) rfl (fun hc1 => ?_) (fun hc1 => ?_)
  · refine k_iconst (n := 21) (v := -1) F dX9_cells_20 rfl rfl ?_
    exact k_iret F (by first | rfl | (simp only [f_cells, hc1, if_true, if_false, not_true_eq_false, not_false_eq_true]; done) | (simp only [f_cells, hc1, if_true, if_false, not_true_eq_false, not_false_eq_true]; rfl) | (simp [f_cells, hc1]; done) | (simp [f_cells, hc1]; rfl) | (simp_all [f_cells, hc1]; done)) (by first | rfl | (simp only [f_cells, hc1, if_true, if_false, not_true_eq_false, not_false_eq_true]; done) | (simp only [f_cells, hc1, if_true, if_false, not_true_eq_false, not_false_eq_true]; rfl) | (simp [f_cells, hc1]; done) | (simp [f_cells, hc1]; rfl) | (simp_all [f_cells, hc1]; done)) dX9_cells_21
  · refine k_iload_n (n := 11) F dX9_cells_10 rfl 2 rfl rfl ?_
    refine k_iconst (n := 12) (v := 1) F dX9_cells_11 rfl rfl ?_
    refine k_bipush (n := 14) (v := 50) F dX9_cells_12 rfl rfl ?_
    refine k_ciR (n := 17) F (k_rS (k := 3) (As := [.int pp, .int 1, .int 50]) (rest := []) F (c_within l g pp 1 50) [] rfl rfl mw_243 mw_241 mw_242 mw_1 (by decide) ⟨by decide, by decide⟩ rfl (Nat.le_of_ble_eq_true rfl) ⟨by decide, by decide⟩ dX9_cells_14) [] rfl rfl ?_
    refine k_if_ne (n := 20) (tgt := 22) F dX9_cells_17 (by decide) rfl (fun hc2 => ?_) (fun hc2 => ?_)
    · refine k_aload_n (n := 23) F dX9_cells_22 rfl 0 rfl rfl ?_
      refine k_get (n := 26) (v := .ref ((ad 5))) F uX9 0 2 rfl rfl (by decide) mw_198 rfl dX9_cells_23 rfl ?_
      refine k_getN (n := 29) (v := .int (i 12)) F uX3 5 0 rfl rfl (by decide) nw_8 rfl dX9_cells_26 rfl ?_
      refine k_if_eq (n := 32) (tgt := 35) F dX9_cells_29 (by decide) rfl (fun hc3 => ?_) (fun hc3 => ?_)
      · refine k_aload_n (n := 36) F dX9_cells_35 rfl 0 rfl rfl ?_
        refine k_get (n := 39) (v := .ref ((ad 2))) F uX9 0 1 rfl rfl (by decide) mw_197 rfl dX9_cells_36 rfl ?_
        refine k_iload_n (n := 40) F dX9_cells_39 rfl 1 rfl rfl ?_
        refine k_iload_n (n := 41) F dX9_cells_40 rfl 2 rfl rfl ?_
        refine k_cv (n := 44) (ws' := wC g ad (upd (upd i 6 n) 9 pp, l_, va_up (va_up a 7 (kfill 300 (a 7) 8)) 8 (kfill 300 (a 8) 8), vp_updL (vp_updL (vp_updL (vp_updL h 0 0) 1 0) 2 0) 3 0) cf) F (k_rV (k := 2) (b := (ad 2)) (As := [.int n, .int pp]) (rest := []) F (c_rebuild l g (ad 2) (ad 3) (ad 4) (i 6) (i 9) (h 0) (h 1) (h 2) (h 3) (a 7) (a 8) n pp) [2, 3, 4] rfl rfl 0 rfl rfl mw_34 mw_334 mw_32 mw_33 mw_2 (by decide) ⟨by decide, by decide⟩ rfl (Nat.le_of_ble_eq_true rfl) ⟨by decide, by decide⟩ dX9_cells_41) [2, 3, 4] [0, 1, 5, 6, 7, 8, 9, 10, 11, 12, 13, 14] [0, 1, 12, 13, 14, 2, 3, 4, 5, 6, 7, 8, 9, 10, 11] rfl rfl rfl (by decide) rfl rfl rfl ?_
        refine k_iconst (n := 45) (v := 1) F dX9_cells_44 rfl rfl ?_
        exact k_iret F (by first | rfl | (simp only [f_cells, hc1, hc2, hc3, if_true, if_false, not_true_eq_false, not_false_eq_true]; done) | (simp only [f_cells, hc1, hc2, hc3, if_true, if_false, not_true_eq_false, not_false_eq_true]; rfl) | (simp [f_cells, hc1, hc2, hc3]; done) | (simp [f_cells, hc1, hc2, hc3]; rfl) | (simp_all [f_cells, hc1, hc2, hc3]; done)) (by first | rfl | (simp only [f_cells, hc1, hc2, hc3, if_true, if_false, not_true_eq_false, not_false_eq_true]; done) | (simp only [f_cells, hc1, hc2, hc3, if_true, if_false, not_true_eq_false, not_false_eq_true]; rfl) | (simp [f_cells, hc1, hc2, hc3]; done) | (simp [f_cells, hc1, hc2, hc3]; rfl) | (simp_all [f_cells, hc1, hc2, hc3]; done)) dX9_cells_45
      · refine k_bipush (n := 34) (v := -2) F dX9_cells_32 rfl rfl ?_
        exact k_iret F (by first | rfl | (simp only [f_cells, hc1, hc2, hc3, if_true, if_false, not_true_eq_false, not_false_eq_true]; done) | (simp only [f_cells, hc1, hc2, hc3, if_true, if_false, not_true_eq_false, not_false_eq_true]; rfl) | (simp [f_cells, hc1, hc2, hc3]; done) | (simp [f_cells, hc1, hc2, hc3]; rfl) | (simp_all [f_cells, hc1, hc2, hc3]; done)) (by first | rfl | (simp only [f_cells, hc1, hc2, hc3, if_true, if_false, not_true_eq_false, not_false_eq_true]; done) | (simp only [f_cells, hc1, hc2, hc3, if_true, if_false, not_true_eq_false, not_false_eq_true]; rfl) | (simp [f_cells, hc1, hc2, hc3]; done) | (simp [f_cells, hc1, hc2, hc3]; rfl) | (simp_all [f_cells, hc1, hc2, hc3]; done)) dX9_cells_34
    · refine k_iconst (n := 21) (v := -1) F dX9_cells_20 rfl rfl ?_
      exact k_iret F (by first | rfl | (simp only [f_cells, hc1, hc2, if_true, if_false, not_true_eq_false, not_false_eq_true]; done) | (simp only [f_cells, hc1, hc2, if_true, if_false, not_true_eq_false, not_false_eq_true]; rfl) | (simp [f_cells, hc1, hc2]; done) | (simp [f_cells, hc1, hc2]; rfl) | (simp_all [f_cells, hc1, hc2]; done)) (by first | rfl | (simp only [f_cells, hc1, hc2, if_true, if_false, not_true_eq_false, not_false_eq_true]; done) | (simp only [f_cells, hc1, hc2, if_true, if_false, not_true_eq_false, not_false_eq_true]; rfl) | (simp [f_cells, hc1, hc2]; done) | (simp [f_cells, hc1, hc2]; rfl) | (simp_all [f_cells, hc1, hc2]; done)) dX9_cells_21
set_option maxRecDepth 100000 in
set_option maxHeartbeats 4000000 in
theorem c_maySet (l : Launch) (g : kG) (ad : Nat → Nat) (cf : Nat → Option Nat) (i : Nat → Int32) (l_ : Nat → Int64) (a : Nat → Nat → Int32) (h : Nat → Int64) (wh v : Int32) : kM l yX9_maySet cX9_maySet 3 (some .boolean) (rmK 2 0 0 43) g [.ref ((ad 0)), .int wh, .int v] (wC g ad (i, l_, a, h) cf) (kDi g (mayS (i, l_, a, h) wh v) (wC g ad (i, l_, a, h) cf)) := by
  refine k_enter (by decide) (Nat.le_of_ble_eq_true rfl) ?_
  intro p e s m args below meth c A F
  refine k_iload_n (n := 1) F dX9_maySet_0 rfl 1 rfl rfl ?_
  by_cases hc1 : wh = 0
  · refine k_tableIn (off := 39) (tgt := 40) F dX9_maySet_1 (by rw [hc1]; decide) (by rw [hc1]; decide) (by rw [hc1]; rfl) (by decide) ?_
    refine k_iload_n (n := 41) F dX9_maySet_40 rfl 2 rfl rfl ?_
    refine k_bipush (n := 43) (v := -9) F dX9_maySet_41 rfl rfl ?_
    refine k_icmp_eq (n := 46) (tgt := 54) F dX9_maySet_43 (by decide) rfl (fun hc2 => ?_) (fun hc2 => ?_)
    · refine k_iconst (n := 55) (v := 1) F dX9_maySet_54 rfl rfl ?_
      refine k_goto (tgt := 59) F dX9_maySet_55 (by decide) ?_
      exact k_zret F rfl (by first | rfl | (simp only [mayS, hc1, hc2, if_true, if_false, not_true_eq_false, not_false_eq_true]; done) | (simp only [mayS, hc1, hc2, if_true, if_false, not_true_eq_false, not_false_eq_true]; rfl) | (simp [mayS, hc1, hc2]; done) | (simp [mayS, hc1, hc2]; rfl) | (simp_all [mayS, hc1, hc2]; done)) (by first | rfl | (simp only [mayS, hc1, hc2, if_true, if_false, not_true_eq_false, not_false_eq_true]; done) | (simp only [mayS, hc1, hc2, if_true, if_false, not_true_eq_false, not_false_eq_true]; rfl) | (simp [mayS, hc1, hc2]; done) | (simp [mayS, hc1, hc2]; rfl) | (simp_all [mayS, hc1, hc2]; done)) dX9_maySet_59
    · refine k_aload_n (n := 47) F dX9_maySet_46 rfl 0 rfl rfl ?_
      refine k_iload_n (n := 48) F dX9_maySet_47 rfl 2 rfl rfl ?_
      refine k_ciR (n := 51) F (k_rV (k := 1) (b := (ad 0)) (As := [.int v]) (rest := []) F (c_isCooler l g ad cf i l_ a h v) [0, 1, 2, 3, 4, 5, 6, 7, 8, 9, 10, 11, 12, 13, 14] rfl rfl 0 rfl rfl mw_284 mw_281 mw_283 mw_s0 mw_1 (by decide) ⟨by decide, by decide⟩ rfl (Nat.le_of_ble_eq_true rfl) ⟨by decide, by decide⟩ dX9_maySet_48) [0, 1, 2, 3, 4, 5, 6, 7, 8, 9, 10, 11, 12, 13, 14] rfl rfl ?_
      refine k_if_eq (n := 54) (tgt := 58) F dX9_maySet_51 (by decide) rfl (fun hc3 => ?_) (fun hc3 => ?_)
      · refine k_iconst (n := 59) (v := 0) F dX9_maySet_58 rfl rfl ?_
        exact k_zret F rfl (by first | rfl | (simp only [mayS, hc1, hc2, hc3, if_true, if_false, not_true_eq_false, not_false_eq_true]; done) | (simp only [mayS, hc1, hc2, hc3, if_true, if_false, not_true_eq_false, not_false_eq_true]; rfl) | (simp [mayS, hc1, hc2, hc3]; done) | (simp [mayS, hc1, hc2, hc3]; rfl) | (simp_all [mayS, hc1, hc2, hc3]; done)) (by first | rfl | (simp only [mayS, hc1, hc2, hc3, if_true, if_false, not_true_eq_false, not_false_eq_true]; done) | (simp only [mayS, hc1, hc2, hc3, if_true, if_false, not_true_eq_false, not_false_eq_true]; rfl) | (simp [mayS, hc1, hc2, hc3]; done) | (simp [mayS, hc1, hc2, hc3]; rfl) | (simp_all [mayS, hc1, hc2, hc3]; done)) dX9_maySet_59
      · refine k_iconst (n := 55) (v := 1) F dX9_maySet_54 rfl rfl ?_
        refine k_goto (tgt := 59) F dX9_maySet_55 (by decide) ?_
        exact k_zret F rfl (by first | rfl | (simp only [mayS, hc1, hc2, hc3, if_true, if_false, not_true_eq_false, not_false_eq_true]; done) | (simp only [mayS, hc1, hc2, hc3, if_true, if_false, not_true_eq_false, not_false_eq_true]; rfl) | (simp [mayS, hc1, hc2, hc3]; done) | (simp [mayS, hc1, hc2, hc3]; rfl) | (simp_all [mayS, hc1, hc2, hc3]; done)) (by first | rfl | (simp only [mayS, hc1, hc2, hc3, if_true, if_false, not_true_eq_false, not_false_eq_true]; done) | (simp only [mayS, hc1, hc2, hc3, if_true, if_false, not_true_eq_false, not_false_eq_true]; rfl) | (simp [mayS, hc1, hc2, hc3]; done) | (simp [mayS, hc1, hc2, hc3]; rfl) | (simp_all [mayS, hc1, hc2, hc3]; done)) dX9_maySet_59
  by_cases hc4 : wh = 1
  · refine k_tableIn (off := 59) (tgt := 60) F dX9_maySet_1 (by rw [hc4]; decide) (by rw [hc4]; decide) (by rw [hc4]; rfl) (by decide) ?_
    refine k_iload_n (n := 61) F dX9_maySet_60 rfl 2 rfl rfl ?_
    refine k_iconst (n := 62) (v := 0) F dX9_maySet_61 rfl rfl ?_
    refine k_bipush (n := 64) (v := 40) F dX9_maySet_62 rfl rfl ?_
    refine k_ciR (n := 67) F (k_rS (k := 3) (As := [.int v, .int 0, .int 40]) (rest := []) F (c_within l g v 0 40) [] rfl rfl mw_243 mw_241 mw_242 mw_1 (by decide) ⟨by decide, by decide⟩ rfl (Nat.le_of_ble_eq_true rfl) ⟨by decide, by decide⟩ dX9_maySet_64) [] rfl rfl ?_
    exact k_zret F (kZn (kin_b _ _ _)) (by first | rfl | (simp only [mayS, hc1, hc4, if_true, if_false, not_true_eq_false, not_false_eq_true]; done) | (simp only [mayS, hc1, hc4, if_true, if_false, not_true_eq_false, not_false_eq_true]; rfl) | (simp [mayS, hc1, hc4]; done) | (simp [mayS, hc1, hc4]; rfl) | (simp_all [mayS, hc1, hc4]; done)) (by first | rfl | (simp only [mayS, hc1, hc4, if_true, if_false, not_true_eq_false, not_false_eq_true]; done) | (simp only [mayS, hc1, hc4, if_true, if_false, not_true_eq_false, not_false_eq_true]; rfl) | (simp [mayS, hc1, hc4]; done) | (simp [mayS, hc1, hc4]; rfl) | (simp_all [mayS, hc1, hc4]; done)) dX9_maySet_67
  by_cases hc5 : wh = 2
  · refine k_tableIn (off := 67) (tgt := 68) F dX9_maySet_1 (by rw [hc5]; decide) (by rw [hc5]; decide) (by rw [hc5]; rfl) (by decide) ?_
    refine k_iload_n (n := 69) F dX9_maySet_68 rfl 2 rfl rfl ?_
    refine k_iconst (n := 70) (v := 0) F dX9_maySet_69 rfl rfl ?_
    refine k_sipush (n := 73) (v := 400) F dX9_maySet_70 rfl rfl ?_
    refine k_ciR (n := 76) F (k_rS (k := 3) (As := [.int v, .int 0, .int 400]) (rest := []) F (c_within l g v 0 400) [] rfl rfl mw_243 mw_241 mw_242 mw_1 (by decide) ⟨by decide, by decide⟩ rfl (Nat.le_of_ble_eq_true rfl) ⟨by decide, by decide⟩ dX9_maySet_73) [] rfl rfl ?_
    exact k_zret F (kZn (kin_b _ _ _)) (by first | rfl | (simp only [mayS, hc1, hc4, hc5, if_true, if_false, not_true_eq_false, not_false_eq_true]; done) | (simp only [mayS, hc1, hc4, hc5, if_true, if_false, not_true_eq_false, not_false_eq_true]; rfl) | (simp [mayS, hc1, hc4, hc5]; done) | (simp [mayS, hc1, hc4, hc5]; rfl) | (simp_all [mayS, hc1, hc4, hc5]; done)) (by first | rfl | (simp only [mayS, hc1, hc4, hc5, if_true, if_false, not_true_eq_false, not_false_eq_true]; done) | (simp only [mayS, hc1, hc4, hc5, if_true, if_false, not_true_eq_false, not_false_eq_true]; rfl) | (simp [mayS, hc1, hc4, hc5]; done) | (simp [mayS, hc1, hc4, hc5]; rfl) | (simp_all [mayS, hc1, hc4, hc5]; done)) dX9_maySet_76
  by_cases hc6 : wh = 3
  · refine k_tableIn (off := 76) (tgt := 77) F dX9_maySet_1 (by rw [hc6]; decide) (by rw [hc6]; decide) (by rw [hc6]; rfl) (by decide) ?_
    refine k_iload_n (n := 78) F dX9_maySet_77 rfl 2 rfl rfl ?_
    refine k_bipush (n := 80) (v := 10) F dX9_maySet_78 rfl rfl ?_
    refine k_sipush (n := 83) (v := 5000) F dX9_maySet_80 rfl rfl ?_
    refine k_ciR (n := 86) F (k_rS (k := 3) (As := [.int v, .int 10, .int 5000]) (rest := []) F (c_within l g v 10 5000) [] rfl rfl mw_243 mw_241 mw_242 mw_1 (by decide) ⟨by decide, by decide⟩ rfl (Nat.le_of_ble_eq_true rfl) ⟨by decide, by decide⟩ dX9_maySet_83) [] rfl rfl ?_
    refine k_if_eq (n := 89) (tgt := 104) F dX9_maySet_86 (by decide) rfl (fun hc7 => ?_) (fun hc7 => ?_)
    · refine k_iconst (n := 105) (v := 0) F dX9_maySet_104 rfl rfl ?_
      exact k_zret F rfl (by first | rfl | (simp only [mayS, hc1, hc4, hc5, hc6, hc7, if_true, if_false, not_true_eq_false, not_false_eq_true]; done) | (simp only [mayS, hc1, hc4, hc5, hc6, hc7, if_true, if_false, not_true_eq_false, not_false_eq_true]; rfl) | (simp [mayS, hc1, hc4, hc5, hc6, hc7]; done) | (simp [mayS, hc1, hc4, hc5, hc6, hc7]; rfl) | (simp_all [mayS, hc1, hc4, hc5, hc6, hc7]; done)) (by first | rfl | (simp only [mayS, hc1, hc4, hc5, hc6, hc7, if_true, if_false, not_true_eq_false, not_false_eq_true]; done) | (simp only [mayS, hc1, hc4, hc5, hc6, hc7, if_true, if_false, not_true_eq_false, not_false_eq_true]; rfl) | (simp [mayS, hc1, hc4, hc5, hc6, hc7]; done) | (simp [mayS, hc1, hc4, hc5, hc6, hc7]; rfl) | (simp_all [mayS, hc1, hc4, hc5, hc6, hc7]; done)) dX9_maySet_105
    · refine k_iload_n (n := 90) F dX9_maySet_89 rfl 2 rfl rfl ?_
      refine k_aload_n (n := 91) F dX9_maySet_90 rfl 0 rfl rfl ?_
      refine k_get (n := 94) (v := .ref ((ad 9))) F uX9 0 4 rfl rfl (by decide) mw_200 rfl dX9_maySet_91 rfl ?_
      refine k_getN (n := 97) (v := .int (i 17)) F uX6 9 1 rfl rfl (by decide) nw_20 rfl dX9_maySet_94 rfl ?_
      refine k_icmp_lt (n := 100) (tgt := 104) F dX9_maySet_97 (by decide) rfl (fun hc8 => ?_) (fun hc8 => ?_)
      · refine k_iconst (n := 105) (v := 0) F dX9_maySet_104 rfl rfl ?_
        exact k_zret F rfl (by first | rfl | (simp only [mayS, hc1, hc4, hc5, hc6, hc7, hc8, Int32.not_le.mpr hc8, if_true, if_false, not_true_eq_false, not_false_eq_true]; done) | (simp only [mayS, hc1, hc4, hc5, hc6, hc7, hc8, Int32.not_le.mpr hc8, if_true, if_false, not_true_eq_false, not_false_eq_true]; rfl) | (simp [mayS, hc1, hc4, hc5, hc6, hc7, hc8, Int32.not_le.mpr hc8]; done) | (simp [mayS, hc1, hc4, hc5, hc6, hc7, hc8, Int32.not_le.mpr hc8]; rfl) | (simp_all [mayS, hc1, hc4, hc5, hc6, hc7, hc8, Int32.not_le.mpr hc8]; done)) (by first | rfl | (simp only [mayS, hc1, hc4, hc5, hc6, hc7, hc8, Int32.not_le.mpr hc8, if_true, if_false, not_true_eq_false, not_false_eq_true]; done) | (simp only [mayS, hc1, hc4, hc5, hc6, hc7, hc8, Int32.not_le.mpr hc8, if_true, if_false, not_true_eq_false, not_false_eq_true]; rfl) | (simp [mayS, hc1, hc4, hc5, hc6, hc7, hc8, Int32.not_le.mpr hc8]; done) | (simp [mayS, hc1, hc4, hc5, hc6, hc7, hc8, Int32.not_le.mpr hc8]; rfl) | (simp_all [mayS, hc1, hc4, hc5, hc6, hc7, hc8, Int32.not_le.mpr hc8]; done)) dX9_maySet_105
      · refine k_iconst (n := 101) (v := 1) F dX9_maySet_100 rfl rfl ?_
        refine k_goto (tgt := 105) F dX9_maySet_101 (by decide) ?_
        exact k_zret F rfl (by first | rfl | (simp only [mayS, hc1, hc4, hc5, hc6, hc7, hc8, Int32.not_lt.mp hc8, if_true, if_false, not_true_eq_false, not_false_eq_true]; done) | (simp only [mayS, hc1, hc4, hc5, hc6, hc7, hc8, Int32.not_lt.mp hc8, if_true, if_false, not_true_eq_false, not_false_eq_true]; rfl) | (simp [mayS, hc1, hc4, hc5, hc6, hc7, hc8, Int32.not_lt.mp hc8]; done) | (simp [mayS, hc1, hc4, hc5, hc6, hc7, hc8, Int32.not_lt.mp hc8]; rfl) | (simp_all [mayS, hc1, hc4, hc5, hc6, hc7, hc8, Int32.not_lt.mp hc8]; done)) (by first | rfl | (simp only [mayS, hc1, hc4, hc5, hc6, hc7, hc8, Int32.not_lt.mp hc8, if_true, if_false, not_true_eq_false, not_false_eq_true]; done) | (simp only [mayS, hc1, hc4, hc5, hc6, hc7, hc8, Int32.not_lt.mp hc8, if_true, if_false, not_true_eq_false, not_false_eq_true]; rfl) | (simp [mayS, hc1, hc4, hc5, hc6, hc7, hc8, Int32.not_lt.mp hc8]; done) | (simp [mayS, hc1, hc4, hc5, hc6, hc7, hc8, Int32.not_lt.mp hc8]; rfl) | (simp_all [mayS, hc1, hc4, hc5, hc6, hc7, hc8, Int32.not_lt.mp hc8]; done)) dX9_maySet_105
  by_cases hc9 : wh = 4
  · refine k_tableIn (off := 105) (tgt := 106) F dX9_maySet_1 (by rw [hc9]; decide) (by rw [hc9]; decide) (by rw [hc9]; rfl) (by decide) ?_
    refine k_iload_n (n := 107) F dX9_maySet_106 rfl 2 rfl rfl ?_
    refine k_iconst (n := 108) (v := 5) F dX9_maySet_107 rfl rfl ?_
    refine k_bipush (n := 110) (v := 60) F dX9_maySet_108 rfl rfl ?_
    refine k_ciR (n := 113) F (k_rS (k := 3) (As := [.int v, .int 5, .int 60]) (rest := []) F (c_within l g v 5 60) [] rfl rfl mw_243 mw_241 mw_242 mw_1 (by decide) ⟨by decide, by decide⟩ rfl (Nat.le_of_ble_eq_true rfl) ⟨by decide, by decide⟩ dX9_maySet_110) [] rfl rfl ?_
    exact k_zret F (kZn (kin_b _ _ _)) (by first | rfl | (simp only [mayS, hc1, hc4, hc5, hc6, hc9, if_true, if_false, not_true_eq_false, not_false_eq_true]; done) | (simp only [mayS, hc1, hc4, hc5, hc6, hc9, if_true, if_false, not_true_eq_false, not_false_eq_true]; rfl) | (simp [mayS, hc1, hc4, hc5, hc6, hc9]; done) | (simp [mayS, hc1, hc4, hc5, hc6, hc9]; rfl) | (simp_all [mayS, hc1, hc4, hc5, hc6, hc9]; done)) (by first | rfl | (simp only [mayS, hc1, hc4, hc5, hc6, hc9, if_true, if_false, not_true_eq_false, not_false_eq_true]; done) | (simp only [mayS, hc1, hc4, hc5, hc6, hc9, if_true, if_false, not_true_eq_false, not_false_eq_true]; rfl) | (simp [mayS, hc1, hc4, hc5, hc6, hc9]; done) | (simp [mayS, hc1, hc4, hc5, hc6, hc9]; rfl) | (simp_all [mayS, hc1, hc4, hc5, hc6, hc9]; done)) dX9_maySet_113
  by_cases hc10 : wh = 5
  · refine k_tableIn (off := 113) (tgt := 114) F dX9_maySet_1 (by rw [hc10]; decide) (by rw [hc10]; decide) (by rw [hc10]; rfl) (by decide) ?_
    refine k_iload_n (n := 115) F dX9_maySet_114 rfl 2 rfl rfl ?_
    refine k_iconst (n := 116) (v := 1) F dX9_maySet_115 rfl rfl ?_
    refine k_bipush (n := 118) (v := 30) F dX9_maySet_116 rfl rfl ?_
    refine k_ciR (n := 121) F (k_rS (k := 3) (As := [.int v, .int 1, .int 30]) (rest := []) F (c_within l g v 1 30) [] rfl rfl mw_243 mw_241 mw_242 mw_1 (by decide) ⟨by decide, by decide⟩ rfl (Nat.le_of_ble_eq_true rfl) ⟨by decide, by decide⟩ dX9_maySet_118) [] rfl rfl ?_
    exact k_zret F (kZn (kin_b _ _ _)) (by first | rfl | (simp only [mayS, hc1, hc4, hc5, hc6, hc9, hc10, if_true, if_false, not_true_eq_false, not_false_eq_true]; done) | (simp only [mayS, hc1, hc4, hc5, hc6, hc9, hc10, if_true, if_false, not_true_eq_false, not_false_eq_true]; rfl) | (simp [mayS, hc1, hc4, hc5, hc6, hc9, hc10]; done) | (simp [mayS, hc1, hc4, hc5, hc6, hc9, hc10]; rfl) | (simp_all [mayS, hc1, hc4, hc5, hc6, hc9, hc10]; done)) (by first | rfl | (simp only [mayS, hc1, hc4, hc5, hc6, hc9, hc10, if_true, if_false, not_true_eq_false, not_false_eq_true]; done) | (simp only [mayS, hc1, hc4, hc5, hc6, hc9, hc10, if_true, if_false, not_true_eq_false, not_false_eq_true]; rfl) | (simp [mayS, hc1, hc4, hc5, hc6, hc9, hc10]; done) | (simp [mayS, hc1, hc4, hc5, hc6, hc9, hc10]; rfl) | (simp_all [mayS, hc1, hc4, hc5, hc6, hc9, hc10]; done)) dX9_maySet_121
  refine k_tableOut (tgt := 122) F dX9_maySet_1 (by have z0 := lv_neT hc1 (show (0 : Int32).toInt = 0 from rfl); have z1 := lv_neT hc4 (show (1 : Int32).toInt = 1 from rfl); have z2 := lv_neT hc5 (show (2 : Int32).toInt = 2 from rfl); have z3 := lv_neT hc6 (show (3 : Int32).toInt = 3 from rfl); have z4 := lv_neT hc9 (show (4 : Int32).toInt = 4 from rfl); have z5 := lv_neT hc10 (show (5 : Int32).toInt = 5 from rfl); omega) (by decide) ?_
  refine k_iconst (n := 123) (v := 0) F dX9_maySet_122 rfl rfl ?_
  exact k_zret F rfl (by first | rfl | (simp only [mayS, hc1, hc4, hc5, hc6, hc9, hc10, if_true, if_false, not_true_eq_false, not_false_eq_true]; done) | (simp only [mayS, hc1, hc4, hc5, hc6, hc9, hc10, if_true, if_false, not_true_eq_false, not_false_eq_true]; rfl) | (simp [mayS, hc1, hc4, hc5, hc6, hc9, hc10]; done) | (simp [mayS, hc1, hc4, hc5, hc6, hc9, hc10]; rfl) | (simp_all [mayS, hc1, hc4, hc5, hc6, hc9, hc10]; done)) (by first | rfl | (simp only [mayS, hc1, hc4, hc5, hc6, hc9, hc10, if_true, if_false, not_true_eq_false, not_false_eq_true]; done) | (simp only [mayS, hc1, hc4, hc5, hc6, hc9, hc10, if_true, if_false, not_true_eq_false, not_false_eq_true]; rfl) | (simp [mayS, hc1, hc4, hc5, hc6, hc9, hc10]; done) | (simp [mayS, hc1, hc4, hc5, hc6, hc9, hc10]; rfl) | (simp_all [mayS, hc1, hc4, hc5, hc6, hc9, hc10]; done)) dX9_maySet_123
set_option maxRecDepth 100000 in
set_option maxHeartbeats 4000000 in
theorem c_setting (l : Launch) (g : kG) (ad : Nat → Nat) (cf : Nat → Option Nat) (i : Nat → Int32) (l_ : Nat → Int64) (a : Nat → Nat → Int32) (h : Nat → Int64) (wh : Int32) : kM l yX9_setting cX9_setting 2 (some .int) (rmK 0 0 0 0) g [.ref ((ad 0)), .int wh] (wC g ad (i, l_, a, h) cf) (kDi g (setS (i, l_, a, h) wh) (wC g ad (i, l_, a, h) cf)) := by
  refine k_enter (by decide) (Nat.le_of_ble_eq_true rfl) ?_
  intro p e s m args below meth c A F
  refine k_iload_n (n := 1) F dX9_setting_0 rfl 1 rfl rfl ?_
  by_cases hc1 : wh = 0
  · refine k_tableIn (off := 35) (tgt := 36) F dX9_setting_1 (by rw [hc1]; decide) (by rw [hc1]; decide) (by rw [hc1]; rfl) (by decide) ?_
    refine k_aload_n (n := 37) F dX9_setting_36 rfl 0 rfl rfl ?_
    refine k_get (n := 40) (v := .int (a 10 0)) F uX9 0 8 rfl rfl (by decide) mw_204 rfl dX9_setting_37 rfl ?_
    exact k_iret F (by first | rfl | (simp only [setS, hc1, if_true, if_false, not_true_eq_false, not_false_eq_true]; done) | (simp only [setS, hc1, if_true, if_false, not_true_eq_false, not_false_eq_true]; rfl) | (simp [setS, hc1]; done) | (simp [setS, hc1]; rfl) | (simp_all [setS, hc1]; done)) (by first | rfl | (simp only [setS, hc1, if_true, if_false, not_true_eq_false, not_false_eq_true]; done) | (simp only [setS, hc1, if_true, if_false, not_true_eq_false, not_false_eq_true]; rfl) | (simp [setS, hc1]; done) | (simp [setS, hc1]; rfl) | (simp_all [setS, hc1]; done)) dX9_setting_40
  by_cases hc2 : wh = 1
  · refine k_tableIn (off := 40) (tgt := 41) F dX9_setting_1 (by rw [hc2]; decide) (by rw [hc2]; decide) (by rw [hc2]; rfl) (by decide) ?_
    refine k_aload_n (n := 42) F dX9_setting_41 rfl 0 rfl rfl ?_
    refine k_get (n := 45) (v := .int (a 10 1)) F uX9 0 9 rfl rfl (by decide) mw_205 rfl dX9_setting_42 rfl ?_
    exact k_iret F (by first | rfl | (simp only [setS, hc1, hc2, if_true, if_false, not_true_eq_false, not_false_eq_true]; done) | (simp only [setS, hc1, hc2, if_true, if_false, not_true_eq_false, not_false_eq_true]; rfl) | (simp [setS, hc1, hc2]; done) | (simp [setS, hc1, hc2]; rfl) | (simp_all [setS, hc1, hc2]; done)) (by first | rfl | (simp only [setS, hc1, hc2, if_true, if_false, not_true_eq_false, not_false_eq_true]; done) | (simp only [setS, hc1, hc2, if_true, if_false, not_true_eq_false, not_false_eq_true]; rfl) | (simp [setS, hc1, hc2]; done) | (simp [setS, hc1, hc2]; rfl) | (simp_all [setS, hc1, hc2]; done)) dX9_setting_45
  by_cases hc3 : wh = 2
  · refine k_tableIn (off := 45) (tgt := 46) F dX9_setting_1 (by rw [hc3]; decide) (by rw [hc3]; decide) (by rw [hc3]; rfl) (by decide) ?_
    refine k_aload_n (n := 47) F dX9_setting_46 rfl 0 rfl rfl ?_
    refine k_get (n := 50) (v := .int (a 10 2)) F uX9 0 10 rfl rfl (by decide) mw_206 rfl dX9_setting_47 rfl ?_
    exact k_iret F (by first | rfl | (simp only [setS, hc1, hc2, hc3, if_true, if_false, not_true_eq_false, not_false_eq_true]; done) | (simp only [setS, hc1, hc2, hc3, if_true, if_false, not_true_eq_false, not_false_eq_true]; rfl) | (simp [setS, hc1, hc2, hc3]; done) | (simp [setS, hc1, hc2, hc3]; rfl) | (simp_all [setS, hc1, hc2, hc3]; done)) (by first | rfl | (simp only [setS, hc1, hc2, hc3, if_true, if_false, not_true_eq_false, not_false_eq_true]; done) | (simp only [setS, hc1, hc2, hc3, if_true, if_false, not_true_eq_false, not_false_eq_true]; rfl) | (simp [setS, hc1, hc2, hc3]; done) | (simp [setS, hc1, hc2, hc3]; rfl) | (simp_all [setS, hc1, hc2, hc3]; done)) dX9_setting_50
  by_cases hc4 : wh = 3
  · refine k_tableIn (off := 50) (tgt := 51) F dX9_setting_1 (by rw [hc4]; decide) (by rw [hc4]; decide) (by rw [hc4]; rfl) (by decide) ?_
    refine k_aload_n (n := 52) F dX9_setting_51 rfl 0 rfl rfl ?_
    refine k_get (n := 55) (v := .ref ((ad 9))) F uX9 0 4 rfl rfl (by decide) mw_200 rfl dX9_setting_52 rfl ?_
    refine k_getN (n := 58) (v := .int (a 10 3)) F uX6 9 0 rfl rfl (by decide) nw_19 rfl dX9_setting_55 rfl ?_
    exact k_iret F (by first | rfl | (simp only [setS, hc1, hc2, hc3, hc4, if_true, if_false, not_true_eq_false, not_false_eq_true]; done) | (simp only [setS, hc1, hc2, hc3, hc4, if_true, if_false, not_true_eq_false, not_false_eq_true]; rfl) | (simp [setS, hc1, hc2, hc3, hc4]; done) | (simp [setS, hc1, hc2, hc3, hc4]; rfl) | (simp_all [setS, hc1, hc2, hc3, hc4]; done)) (by first | rfl | (simp only [setS, hc1, hc2, hc3, hc4, if_true, if_false, not_true_eq_false, not_false_eq_true]; done) | (simp only [setS, hc1, hc2, hc3, hc4, if_true, if_false, not_true_eq_false, not_false_eq_true]; rfl) | (simp [setS, hc1, hc2, hc3, hc4]; done) | (simp [setS, hc1, hc2, hc3, hc4]; rfl) | (simp_all [setS, hc1, hc2, hc3, hc4]; done)) dX9_setting_58
  by_cases hc5 : wh = 4
  · refine k_tableIn (off := 58) (tgt := 59) F dX9_setting_1 (by rw [hc5]; decide) (by rw [hc5]; decide) (by rw [hc5]; rfl) (by decide) ?_
    refine k_aload_n (n := 60) F dX9_setting_59 rfl 0 rfl rfl ?_
    refine k_get (n := 63) (v := .ref ((ad 6))) F uX9 0 3 rfl rfl (by decide) mw_199 rfl dX9_setting_60 rfl ?_
    refine k_getN (n := 66) (v := .int (a 10 4)) F uX1 6 2 rfl rfl (by decide) nw_16 rfl dX9_setting_63 rfl ?_
    exact k_iret F (by first | rfl | (simp only [setS, hc1, hc2, hc3, hc4, hc5, if_true, if_false, not_true_eq_false, not_false_eq_true]; done) | (simp only [setS, hc1, hc2, hc3, hc4, hc5, if_true, if_false, not_true_eq_false, not_false_eq_true]; rfl) | (simp [setS, hc1, hc2, hc3, hc4, hc5]; done) | (simp [setS, hc1, hc2, hc3, hc4, hc5]; rfl) | (simp_all [setS, hc1, hc2, hc3, hc4, hc5]; done)) (by first | rfl | (simp only [setS, hc1, hc2, hc3, hc4, hc5, if_true, if_false, not_true_eq_false, not_false_eq_true]; done) | (simp only [setS, hc1, hc2, hc3, hc4, hc5, if_true, if_false, not_true_eq_false, not_false_eq_true]; rfl) | (simp [setS, hc1, hc2, hc3, hc4, hc5]; done) | (simp [setS, hc1, hc2, hc3, hc4, hc5]; rfl) | (simp_all [setS, hc1, hc2, hc3, hc4, hc5]; done)) dX9_setting_66
  refine k_tableOut (tgt := 67) F dX9_setting_1 (by have z0 := lv_neT hc1 (show (0 : Int32).toInt = 0 from rfl); have z1 := lv_neT hc2 (show (1 : Int32).toInt = 1 from rfl); have z2 := lv_neT hc3 (show (2 : Int32).toInt = 2 from rfl); have z3 := lv_neT hc4 (show (3 : Int32).toInt = 3 from rfl); have z4 := lv_neT hc5 (show (4 : Int32).toInt = 4 from rfl); omega) (by decide) ?_
  refine k_aload_n (n := 68) F dX9_setting_67 rfl 0 rfl rfl ?_
  refine k_get (n := 71) (v := .ref ((ad 6))) F uX9 0 3 rfl rfl (by decide) mw_199 rfl dX9_setting_68 rfl ?_
  refine k_getN (n := 74) (v := .int (a 10 5)) F uX1 6 3 rfl rfl (by decide) nw_17 rfl dX9_setting_71 rfl ?_
  exact k_iret F (by first | rfl | (simp only [setS, hc1, hc2, hc3, hc4, hc5, if_true, if_false, not_true_eq_false, not_false_eq_true]; done) | (simp only [setS, hc1, hc2, hc3, hc4, hc5, if_true, if_false, not_true_eq_false, not_false_eq_true]; rfl) | (simp [setS, hc1, hc2, hc3, hc4, hc5]; done) | (simp [setS, hc1, hc2, hc3, hc4, hc5]; rfl) | (simp_all [setS, hc1, hc2, hc3, hc4, hc5]; done)) (by first | rfl | (simp only [setS, hc1, hc2, hc3, hc4, hc5, if_true, if_false, not_true_eq_false, not_false_eq_true]; done) | (simp only [setS, hc1, hc2, hc3, hc4, hc5, if_true, if_false, not_true_eq_false, not_false_eq_true]; rfl) | (simp [setS, hc1, hc2, hc3, hc4, hc5]; done) | (simp [setS, hc1, hc2, hc3, hc4, hc5]; rfl) | (simp_all [setS, hc1, hc2, hc3, hc4, hc5]; done)) dX9_setting_74
set_option maxRecDepth 100000 in
set_option maxHeartbeats 4000000 in
theorem c_change (l : Launch) (g : kG) (ad : Nat → Nat) (cf : Nat → Option Nat) (i : Nat → Int32) (l_ : Nat → Int64) (a : Nat → Nat → Int32) (h : Nat → Int64) (wh v : Int32) : kM l yX9_change cX9_change 3 none (rmK 0 0 0 0) g [.ref ((ad 0)), .int wh, .int v] (wC g ad (i, l_, a, h) cf) (kDv g (wC g ad (chgS (i, l_, a, h) wh v) cf)) := by
  refine k_enter (by decide) (Nat.le_of_ble_eq_true rfl) ?_
  intro p e s m args below meth c A F
  refine k_iload_n (n := 1) F dX9_change_0 rfl 1 rfl rfl ?_
  by_cases hc1 : wh = 0
  · refine k_tableIn (off := 35) (tgt := 36) F dX9_change_1 (by rw [hc1]; decide) (by rw [hc1]; decide) (by rw [hc1]; rfl) (by decide) ?_
    refine k_aload_n (n := 37) F dX9_change_36 rfl 0 rfl rfl ?_
    refine k_iload_n (n := 38) F dX9_change_37 rfl 2 rfl rfl ?_
    refine k_put (n := 41) (ws' := wC g ad (i, l_, va_up a 10 (upd (a 10) 0 v), h) cf) F uX9 tyX9_ok nmX9 0 8 rfl rfl (by decide) mw_204 rfl rfl rfl (Nat.le_of_ble_eq_true rfl) rfl dX9_change_38 rfl ?_
    refine k_goto (tgt := 90) F dX9_change_41 (by decide) ?_
    exact k_vret F (by first | rfl | (simp only [chgS, sR, hc1, if_true, if_false, not_true_eq_false, not_false_eq_true]; done) | (simp only [chgS, sR, hc1, if_true, if_false, not_true_eq_false, not_false_eq_true]; rfl) | (simp [chgS, sR, hc1]; done) | (simp [chgS, sR, hc1]; rfl) | (simp_all [chgS, sR, hc1]; done)) dX9_change_90
  by_cases hc2 : wh = 1
  · refine k_tableIn (off := 43) (tgt := 44) F dX9_change_1 (by rw [hc2]; decide) (by rw [hc2]; decide) (by rw [hc2]; rfl) (by decide) ?_
    refine k_aload_n (n := 45) F dX9_change_44 rfl 0 rfl rfl ?_
    refine k_iload_n (n := 46) F dX9_change_45 rfl 2 rfl rfl ?_
    refine k_put (n := 49) (ws' := wC g ad (i, l_, va_up a 10 (upd (a 10) 1 v), h) cf) F uX9 tyX9_ok nmX9 0 9 rfl rfl (by decide) mw_205 rfl rfl rfl (Nat.le_of_ble_eq_true rfl) rfl dX9_change_46 rfl ?_
    refine k_goto (tgt := 90) F dX9_change_49 (by decide) ?_
    exact k_vret F (by first | rfl | (simp only [chgS, sR, hc1, hc2, if_true, if_false, not_true_eq_false, not_false_eq_true]; done) | (simp only [chgS, sR, hc1, hc2, if_true, if_false, not_true_eq_false, not_false_eq_true]; rfl) | (simp [chgS, sR, hc1, hc2]; done) | (simp [chgS, sR, hc1, hc2]; rfl) | (simp_all [chgS, sR, hc1, hc2]; done)) dX9_change_90
  by_cases hc3 : wh = 2
  · refine k_tableIn (off := 51) (tgt := 52) F dX9_change_1 (by rw [hc3]; decide) (by rw [hc3]; decide) (by rw [hc3]; rfl) (by decide) ?_
    refine k_aload_n (n := 53) F dX9_change_52 rfl 0 rfl rfl ?_
    refine k_iload_n (n := 54) F dX9_change_53 rfl 2 rfl rfl ?_
    refine k_put (n := 57) (ws' := wC g ad (i, l_, va_up a 10 (upd (a 10) 2 v), h) cf) F uX9 tyX9_ok nmX9 0 10 rfl rfl (by decide) mw_206 rfl rfl rfl (Nat.le_of_ble_eq_true rfl) rfl dX9_change_54 rfl ?_
    refine k_goto (tgt := 90) F dX9_change_57 (by decide) ?_
    exact k_vret F (by first | rfl | (simp only [chgS, sR, hc1, hc2, hc3, if_true, if_false, not_true_eq_false, not_false_eq_true]; done) | (simp only [chgS, sR, hc1, hc2, hc3, if_true, if_false, not_true_eq_false, not_false_eq_true]; rfl) | (simp [chgS, sR, hc1, hc2, hc3]; done) | (simp [chgS, sR, hc1, hc2, hc3]; rfl) | (simp_all [chgS, sR, hc1, hc2, hc3]; done)) dX9_change_90
  by_cases hc4 : wh = 3
  · refine k_tableIn (off := 59) (tgt := 60) F dX9_change_1 (by rw [hc4]; decide) (by rw [hc4]; decide) (by rw [hc4]; rfl) (by decide) ?_
    refine k_aload_n (n := 61) F dX9_change_60 rfl 0 rfl rfl ?_
    refine k_get (n := 64) (v := .ref ((ad 9))) F uX9 0 4 rfl rfl (by decide) mw_200 rfl dX9_change_61 rfl ?_
    refine k_iload_n (n := 65) F dX9_change_64 rfl 2 rfl rfl ?_
    refine k_putN (n := 68) (ws' := wC g ad (i, l_, va_up a 10 (upd (a 10) 3 v), h) cf) F uX6 tyX6_ok nmX6 9 0 rfl rfl (by decide) nw_19 rfl rfl rfl (Nat.le_of_ble_eq_true rfl) rfl dX9_change_65 rfl ?_
    refine k_goto (tgt := 90) F dX9_change_68 (by decide) ?_
    exact k_vret F (by first | rfl | (simp only [chgS, sR, hc1, hc2, hc3, hc4, if_true, if_false, not_true_eq_false, not_false_eq_true]; done) | (simp only [chgS, sR, hc1, hc2, hc3, hc4, if_true, if_false, not_true_eq_false, not_false_eq_true]; rfl) | (simp [chgS, sR, hc1, hc2, hc3, hc4]; done) | (simp [chgS, sR, hc1, hc2, hc3, hc4]; rfl) | (simp_all [chgS, sR, hc1, hc2, hc3, hc4]; done)) dX9_change_90
  by_cases hc5 : wh = 4
  · refine k_tableIn (off := 70) (tgt := 71) F dX9_change_1 (by rw [hc5]; decide) (by rw [hc5]; decide) (by rw [hc5]; rfl) (by decide) ?_
    refine k_aload_n (n := 72) F dX9_change_71 rfl 0 rfl rfl ?_
    refine k_get (n := 75) (v := .ref ((ad 6))) F uX9 0 3 rfl rfl (by decide) mw_199 rfl dX9_change_72 rfl ?_
    refine k_iload_n (n := 76) F dX9_change_75 rfl 2 rfl rfl ?_
    refine k_putN (n := 79) (ws' := wC g ad (i, l_, va_up a 10 (upd (a 10) 4 v), h) cf) F uX1 tyX1_ok nmX1 6 2 rfl rfl (by decide) nw_16 rfl rfl rfl (Nat.le_of_ble_eq_true rfl) rfl dX9_change_76 rfl ?_
    refine k_goto (tgt := 90) F dX9_change_79 (by decide) ?_
    exact k_vret F (by first | rfl | (simp only [chgS, sR, hc1, hc2, hc3, hc4, hc5, if_true, if_false, not_true_eq_false, not_false_eq_true]; done) | (simp only [chgS, sR, hc1, hc2, hc3, hc4, hc5, if_true, if_false, not_true_eq_false, not_false_eq_true]; rfl) | (simp [chgS, sR, hc1, hc2, hc3, hc4, hc5]; done) | (simp [chgS, sR, hc1, hc2, hc3, hc4, hc5]; rfl) | (simp_all [chgS, sR, hc1, hc2, hc3, hc4, hc5]; done)) dX9_change_90
  refine k_tableOut (tgt := 82) F dX9_change_1 (by have z0 := lv_neT hc1 (show (0 : Int32).toInt = 0 from rfl); have z1 := lv_neT hc2 (show (1 : Int32).toInt = 1 from rfl); have z2 := lv_neT hc3 (show (2 : Int32).toInt = 2 from rfl); have z3 := lv_neT hc4 (show (3 : Int32).toInt = 3 from rfl); have z4 := lv_neT hc5 (show (4 : Int32).toInt = 4 from rfl); omega) (by decide) ?_
  refine k_aload_n (n := 83) F dX9_change_82 rfl 0 rfl rfl ?_
  refine k_get (n := 86) (v := .ref ((ad 6))) F uX9 0 3 rfl rfl (by decide) mw_199 rfl dX9_change_83 rfl ?_
  refine k_iload_n (n := 87) F dX9_change_86 rfl 2 rfl rfl ?_
  refine k_putN (n := 90) (ws' := wC g ad (i, l_, va_up a 10 (upd (a 10) 5 v), h) cf) F uX1 tyX1_ok nmX1 6 3 rfl rfl (by decide) nw_17 rfl rfl rfl (Nat.le_of_ble_eq_true rfl) rfl dX9_change_87 rfl ?_
  exact k_vret F (by first | rfl | (simp only [chgS, sR, hc1, hc2, hc3, hc4, hc5, if_true, if_false, not_true_eq_false, not_false_eq_true]; done) | (simp only [chgS, sR, hc1, hc2, hc3, hc4, hc5, if_true, if_false, not_true_eq_false, not_false_eq_true]; rfl) | (simp [chgS, sR, hc1, hc2, hc3, hc4, hc5]; done) | (simp [chgS, sR, hc1, hc2, hc3, hc4, hc5]; rfl) | (simp_all [chgS, sR, hc1, hc2, hc3, hc4, hc5]; done)) dX9_change_90
set_option maxRecDepth 100000 in
set_option maxHeartbeats 4000000 in
theorem c_set (l : Launch) (g : kG) (ad : Nat → Nat) (cf : Nat → Option Nat) (i : Nat → Int32) (l_ : Nat → Int64) (a : Nat → Nat → Int32) (h : Nat → Int64) (wh v : Int32) : kM l yX9_set cX9_set 4 (some .int) (rmK 3 0 0 65) g [.ref ((ad 0)), .int wh, .int v] (wC g ad (i, l_, a, h) cf) (kDi g (f_set (i, l_, a, h) wh v).1 (wC g ad (f_set (i, l_, a, h) wh v).2 cf)) := by
  refine k_enter (by decide) (Nat.le_of_ble_eq_true rfl) ?_
  intro p e s m args below meth c A F
  refine k_aload_n (n := 1) F dX9_set_0 rfl 0 rfl rfl ?_
  refine k_iload_n (n := 2) F dX9_set_1 rfl 1 rfl rfl ?_
  refine k_iload_n (n := 3) F dX9_set_2 rfl 2 rfl rfl ?_
  refine k_ciR (n := 6) F (k_rV (k := 2) (b := (ad 0)) (As := [.int wh, .int v]) (rest := []) F (c_maySet l g ad cf i l_ a h wh v) [0, 1, 2, 3, 4, 5, 6, 7, 8, 9, 10, 11, 12, 13, 14] rfl rfl 0 rfl rfl mw_342 mw_339 mw_341 mw_s5 mw_1 (by decide) ⟨by decide, by decide⟩ rfl (Nat.le_of_ble_eq_true rfl) ⟨by decide, by decide⟩ dX9_set_3) [0, 1, 2, 3, 4, 5, 6, 7, 8, 9, 10, 11, 12, 13, 14] rfl rfl ?_
  refine k_if_ne (n := 9) (tgt := 11) F dX9_set_6 (by decide) rfl (fun hc1 => ?_) (fun hc1 => ?_)
  · refine k_aload_n (n := 12) F dX9_set_11 rfl 0 rfl rfl ?_
    refine k_iload_n (n := 13) F dX9_set_12 rfl 1 rfl rfl ?_
    refine k_ciR (n := 16) F (k_rV (k := 1) (b := (ad 0)) (As := [.int wh]) (rest := []) F (c_setting l g ad cf i l_ a h wh) [0, 1, 2, 3, 4, 5, 6, 7, 8, 9, 10, 11, 12, 13, 14] rfl rfl 0 rfl rfl mw_346 mw_343 mw_345 mw_s6 mw_1 (by decide) ⟨by decide, by decide⟩ rfl (Nat.le_of_ble_eq_true rfl) ⟨by decide, by decide⟩ dX9_set_13) [0, 1, 2, 3, 4, 5, 6, 7, 8, 9, 10, 11, 12, 13, 14] rfl rfl ?_
    refine k_istore_n (n := 17) (lv' := [(3, .int (setS (i, l_, a, h) wh)), (0, .ref ((ad 0))), (1, .int wh), (2, .int v)]) F dX9_set_16 rfl (by decide) rfl rfl ?_
    refine k_aload_n (n := 18) F dX9_set_17 rfl 1 rfl rfl ?_
    refine k_iload_n (n := 19) F dX9_set_18 rfl 2 rfl rfl ?_
    refine k_iload_n (n := 20) F dX9_set_19 rfl 3 rfl rfl ?_
    refine k_cv (n := 23) (ws' := wC g ad (chgS (i, l_, a, h) wh v) cf) F (k_rV (k := 2) (b := (ad 0)) (As := [.int wh, .int v]) (rest := []) F (c_change l g ad cf i l_ a h wh v) [0, 1, 2, 3, 4, 5, 6, 7, 8, 9, 10, 11, 12, 13, 14] rfl rfl 0 rfl rfl mw_350 mw_347 mw_349 mw_s7 mw_1 (by decide) ⟨by decide, by decide⟩ rfl (Nat.le_of_ble_eq_true rfl) ⟨by decide, by decide⟩ dX9_set_20) [0, 1, 2, 3, 4, 5, 6, 7, 8, 9, 10, 11, 12, 13, 14] [] [0, 1, 2, 3, 4, 5, 6, 7, 8, 9, 10, 11, 12, 13, 14] rfl rfl rfl (by decide) rfl rfl rfl ?_
    refine k_iload_n (n := 24) F dX9_set_23 rfl 0 rfl rfl ?_
    exact k_iret F (by first | rfl | (simp only [f_set, hc1, if_true, if_false, not_true_eq_false, not_false_eq_true]; done) | (simp only [f_set, hc1, if_true, if_false, not_true_eq_false, not_false_eq_true]; rfl) | (simp [f_set, hc1]; done) | (simp [f_set, hc1]; rfl) | (simp_all [f_set, hc1]; done)) (by first | rfl | (simp only [f_set, hc1, if_true, if_false, not_true_eq_false, not_false_eq_true]; done) | (simp only [f_set, hc1, if_true, if_false, not_true_eq_false, not_false_eq_true]; rfl) | (simp [f_set, hc1]; done) | (simp [f_set, hc1]; rfl) | (simp_all [f_set, hc1]; done)) dX9_set_24
  · refine k_iconst (n := 10) (v := -1) F dX9_set_9 rfl rfl ?_
    exact k_iret F (by first | rfl | (simp only [f_set, hc1, if_true, if_false, not_true_eq_false, not_false_eq_true]; done) | (simp only [f_set, hc1, if_true, if_false, not_true_eq_false, not_false_eq_true]; rfl) | (simp [f_set, hc1]; done) | (simp [f_set, hc1]; rfl) | (simp_all [f_set, hc1]; done)) (by first | rfl | (simp only [f_set, hc1, if_true, if_false, not_true_eq_false, not_false_eq_true]; done) | (simp only [f_set, hc1, if_true, if_false, not_true_eq_false, not_false_eq_true]; rfl) | (simp [f_set, hc1]; done) | (simp [f_set, hc1]; rfl) | (simp_all [f_set, hc1]; done)) dX9_set_10
set_option maxRecDepth 100000 in
set_option maxHeartbeats 4000000 in
theorem c_side (l : Launch) (g : kG) (ad : Nat → Nat) (cf : Nat → Option Nat) (i : Nat → Int32) (l_ : Nat → Int64) (a : Nat → Nat → Int32) (h : Nat → Int64) (x y : Int32) (h6 : 1 ≤ i 6 ∧ i 6 ≤ 8) : kM l yX9_side cX9_side 3 (some .int) (rmK 1 0 0 22) g [.ref ((ad 0)), .int x, .int y] (wC g ad (i, l_, a, h) cf) (kDi g (f_side (i, l_, a, h) x y) (wC g ad (i, l_, a, h) cf)) := by
  refine k_enter (by decide) (Nat.le_of_ble_eq_true rfl) ?_
  intro p e s m args below meth c A F
  refine k_iload_n (n := 1) F dX9_side_0 rfl 1 rfl rfl ?_
  refine k_iconst (n := 2) (v := 0) F dX9_side_1 rfl rfl ?_
  refine k_iconst (n := 3) (v := 1) F dX9_side_2 rfl rfl ?_
  refine k_ciR (n := 6) F (k_rS (k := 3) (As := [.int x, .int 0, .int 1]) (rest := []) F (c_within l g x 0 1) [] rfl rfl mw_243 mw_241 mw_242 mw_1 (by decide) ⟨by decide, by decide⟩ rfl (Nat.le_of_ble_eq_true rfl) ⟨by decide, by decide⟩ dX9_side_3) [] rfl rfl ?_
  refine k_if_eq (n := 9) (tgt := 26) F dX9_side_6 (by decide) rfl (fun hc1 => ?_) (fun hc1 => ?_)
  · refine k_iconst (n := 27) (v := -1) F dX9_side_26 rfl rfl ?_
    exact k_iret F (by first | rfl | (simp only [f_side, hc1, if_true, if_false, not_true_eq_false, not_false_eq_true]; done) | (simp only [f_side, hc1, if_true, if_false, not_true_eq_false, not_false_eq_true]; rfl) | (simp [f_side, hc1]; done) | (simp [f_side, hc1]; rfl) | (simp_all [f_side, hc1]; done)) (by first | rfl | (simp only [f_side, hc1, if_true, if_false, not_true_eq_false, not_false_eq_true]; done) | (simp only [f_side, hc1, if_true, if_false, not_true_eq_false, not_false_eq_true]; rfl) | (simp [f_side, hc1]; done) | (simp [f_side, hc1]; rfl) | (simp_all [f_side, hc1]; done)) dX9_side_27
  · refine k_iload_n (n := 10) F dX9_side_9 rfl 2 rfl rfl ?_
    refine k_iconst (n := 11) (v := 0) F dX9_side_10 rfl rfl ?_
    refine k_aload_n (n := 12) F dX9_side_11 rfl 0 rfl rfl ?_
    refine k_get (n := 15) (v := .ref ((ad 2))) F uX9 0 1 rfl rfl (by decide) mw_197 rfl dX9_side_12 rfl ?_
    refine k_getN (n := 18) (v := .int (i 6)) F uX4 2 2 rfl rfl (by decide) nw_2 rfl dX9_side_15 rfl ?_
    refine k_iconst (n := 19) (v := 1) F dX9_side_18 rfl rfl ?_
    refine k_isub (n := 20) F dX9_side_19 rfl ?_
    refine k_ciR (n := 23) F (k_rS (k := 3) (As := [.int y, .int 0, .int ((i 6) - 1)]) (rest := []) F (c_within l g y 0 ((i 6) - 1)) [] rfl rfl mw_243 mw_241 mw_242 mw_1 (by decide) ⟨by decide, by decide⟩ rfl (Nat.le_of_ble_eq_true rfl) ⟨by decide, by decide⟩ dX9_side_20) [] rfl rfl ?_
    refine k_if_ne (n := 26) (tgt := 28) F dX9_side_23 (by decide) rfl (fun hc2 => ?_) (fun hc2 => ?_)
    · refine k_iload_n (n := 29) F dX9_side_28 rfl 1 rfl rfl ?_
      refine k_if_ne (n := 32) (tgt := 44) F dX9_side_29 (by decide) rfl (fun hc3 => ?_) (fun hc3 => ?_)
      · refine k_aload_n (n := 45) F dX9_side_44 rfl 0 rfl rfl ?_
        refine k_get (n := 48) (v := .ref ((ad 2))) F uX9 0 1 rfl rfl (by decide) mw_197 rfl dX9_side_45 rfl ?_
        refine k_getN (n := 51) (v := .ref ((ad 4))) F uX4 2 1 rfl rfl (by decide) nw_1 rfl dX9_side_48 rfl ?_
        refine k_iload_n (n := 52) F dX9_side_51 rfl 2 rfl rfl ?_
        refine k_iald (n := 53) (N := y.toNatClampNeg) F 4 rfl (kIx_kin hc2 h6.1 h6.2) dX9_side_52 rfl ?_
        exact k_iret F (by first | rfl | (simp only [f_side, hc1, hc2, hc3, if_true, if_false, not_true_eq_false, not_false_eq_true]; done) | (simp only [f_side, hc1, hc2, hc3, if_true, if_false, not_true_eq_false, not_false_eq_true]; rfl) | (simp [f_side, hc1, hc2, hc3]; done) | (simp [f_side, hc1, hc2, hc3]; rfl) | (simp_all [f_side, hc1, hc2, hc3]; done)) (by first | rfl | (simp only [f_side, hc1, hc2, hc3, if_true, if_false, not_true_eq_false, not_false_eq_true]; done) | (simp only [f_side, hc1, hc2, hc3, if_true, if_false, not_true_eq_false, not_false_eq_true]; rfl) | (simp [f_side, hc1, hc2, hc3]; done) | (simp [f_side, hc1, hc2, hc3]; rfl) | (simp_all [f_side, hc1, hc2, hc3]; done)) dX9_side_53
      · refine k_aload_n (n := 33) F dX9_side_32 rfl 0 rfl rfl ?_
        refine k_get (n := 36) (v := .ref ((ad 2))) F uX9 0 1 rfl rfl (by decide) mw_197 rfl dX9_side_33 rfl ?_
        refine k_getN (n := 39) (v := .ref ((ad 3))) F uX4 2 0 rfl rfl (by decide) nw_0 rfl dX9_side_36 rfl ?_
        refine k_iload_n (n := 40) F dX9_side_39 rfl 2 rfl rfl ?_
        refine k_iald (n := 41) (N := y.toNatClampNeg) F 3 rfl (kIx_kin hc2 h6.1 h6.2) dX9_side_40 rfl ?_
        refine k_goto (tgt := 53) F dX9_side_41 (by decide) ?_
        exact k_iret F (by first | rfl | (simp only [f_side, hc1, hc2, hc3, if_true, if_false, not_true_eq_false, not_false_eq_true]; done) | (simp only [f_side, hc1, hc2, hc3, if_true, if_false, not_true_eq_false, not_false_eq_true]; rfl) | (simp [f_side, hc1, hc2, hc3]; done) | (simp [f_side, hc1, hc2, hc3]; rfl) | (simp_all [f_side, hc1, hc2, hc3]; done)) (by first | rfl | (simp only [f_side, hc1, hc2, hc3, if_true, if_false, not_true_eq_false, not_false_eq_true]; done) | (simp only [f_side, hc1, hc2, hc3, if_true, if_false, not_true_eq_false, not_false_eq_true]; rfl) | (simp [f_side, hc1, hc2, hc3]; done) | (simp [f_side, hc1, hc2, hc3]; rfl) | (simp_all [f_side, hc1, hc2, hc3]; done)) dX9_side_53
    · refine k_iconst (n := 27) (v := -1) F dX9_side_26 rfl rfl ?_
      exact k_iret F (by first | rfl | (simp only [f_side, hc1, hc2, if_true, if_false, not_true_eq_false, not_false_eq_true]; done) | (simp only [f_side, hc1, hc2, if_true, if_false, not_true_eq_false, not_false_eq_true]; rfl) | (simp [f_side, hc1, hc2]; done) | (simp [f_side, hc1, hc2]; rfl) | (simp_all [f_side, hc1, hc2]; done)) (by first | rfl | (simp only [f_side, hc1, hc2, if_true, if_false, not_true_eq_false, not_false_eq_true]; done) | (simp only [f_side, hc1, hc2, if_true, if_false, not_true_eq_false, not_false_eq_true]; rfl) | (simp [f_side, hc1, hc2]; done) | (simp [f_side, hc1, hc2]; rfl) | (simp_all [f_side, hc1, hc2]; done)) dX9_side_27
set_option maxRecDepth 100000 in
set_option maxHeartbeats 4000000 in
theorem c_heat (l : Launch) (g : kG) (ad : Nat → Nat) (cf : Nat → Option Nat) (i : Nat → Int32) (l_ : Nat → Int64) (a : Nat → Nat → Int32) (h : Nat → Int64) (x : Int32) : kM l yX9_heat cX9_heat 2 (some .long) (rmK 0 0 0 0) g [.ref ((ad 0)), .int x] (wC g ad (i, l_, a, h) cf) (kDl g (f_heat (i, l_, a, h) x) (wC g ad (i, l_, a, h) cf)) := by
  refine k_enter (by decide) (Nat.le_of_ble_eq_true rfl) ?_
  intro p e s m args below meth c A F
  refine k_iload_n (n := 1) F dX9_heat_0 rfl 1 rfl rfl ?_
  by_cases hc1 : x = 0
  · refine k_tableIn (off := 31) (tgt := 32) F dX9_heat_1 (by rw [hc1]; decide) (by rw [hc1]; decide) (by rw [hc1]; rfl) (by decide) ?_
    refine k_aload_n (n := 33) F dX9_heat_32 rfl 0 rfl rfl ?_
    refine k_get (n := 36) (v := .ref ((ad 2))) F uX9 0 1 rfl rfl (by decide) mw_197 rfl dX9_heat_33 rfl ?_
    refine k_getN (n := 39) (v := .long (h 0)) F uX4 2 4 rfl rfl (by decide) nw_3 rfl dX9_heat_36 rfl ?_
    exact k_lret F (by first | rfl | (simp only [f_heat, hc1, if_true, if_false, not_true_eq_false, not_false_eq_true]; done) | (simp only [f_heat, hc1, if_true, if_false, not_true_eq_false, not_false_eq_true]; rfl) | (simp [f_heat, hc1]; done) | (simp [f_heat, hc1]; rfl) | (simp_all [f_heat, hc1]; done)) (by first | rfl | (simp only [f_heat, hc1, if_true, if_false, not_true_eq_false, not_false_eq_true]; done) | (simp only [f_heat, hc1, if_true, if_false, not_true_eq_false, not_false_eq_true]; rfl) | (simp [f_heat, hc1]; done) | (simp [f_heat, hc1]; rfl) | (simp_all [f_heat, hc1]; done)) dX9_heat_39
  by_cases hc2 : x = 1
  · refine k_tableIn (off := 39) (tgt := 40) F dX9_heat_1 (by rw [hc2]; decide) (by rw [hc2]; decide) (by rw [hc2]; rfl) (by decide) ?_
    refine k_aload_n (n := 41) F dX9_heat_40 rfl 0 rfl rfl ?_
    refine k_get (n := 44) (v := .ref ((ad 2))) F uX9 0 1 rfl rfl (by decide) mw_197 rfl dX9_heat_41 rfl ?_
    refine k_getN (n := 47) (v := .long (h 1)) F uX4 2 5 rfl rfl (by decide) nw_4 rfl dX9_heat_44 rfl ?_
    exact k_lret F (by first | rfl | (simp only [f_heat, hc1, hc2, if_true, if_false, not_true_eq_false, not_false_eq_true]; done) | (simp only [f_heat, hc1, hc2, if_true, if_false, not_true_eq_false, not_false_eq_true]; rfl) | (simp [f_heat, hc1, hc2]; done) | (simp [f_heat, hc1, hc2]; rfl) | (simp_all [f_heat, hc1, hc2]; done)) (by first | rfl | (simp only [f_heat, hc1, hc2, if_true, if_false, not_true_eq_false, not_false_eq_true]; done) | (simp only [f_heat, hc1, hc2, if_true, if_false, not_true_eq_false, not_false_eq_true]; rfl) | (simp [f_heat, hc1, hc2]; done) | (simp [f_heat, hc1, hc2]; rfl) | (simp_all [f_heat, hc1, hc2]; done)) dX9_heat_47
  by_cases hc3 : x = 2
  · refine k_tableIn (off := 47) (tgt := 48) F dX9_heat_1 (by rw [hc3]; decide) (by rw [hc3]; decide) (by rw [hc3]; rfl) (by decide) ?_
    refine k_aload_n (n := 49) F dX9_heat_48 rfl 0 rfl rfl ?_
    refine k_get (n := 52) (v := .ref ((ad 2))) F uX9 0 1 rfl rfl (by decide) mw_197 rfl dX9_heat_49 rfl ?_
    refine k_getN (n := 55) (v := .long (h 2)) F uX4 2 6 rfl rfl (by decide) nw_5 rfl dX9_heat_52 rfl ?_
    exact k_lret F (by first | rfl | (simp only [f_heat, hc1, hc2, hc3, if_true, if_false, not_true_eq_false, not_false_eq_true]; done) | (simp only [f_heat, hc1, hc2, hc3, if_true, if_false, not_true_eq_false, not_false_eq_true]; rfl) | (simp [f_heat, hc1, hc2, hc3]; done) | (simp [f_heat, hc1, hc2, hc3]; rfl) | (simp_all [f_heat, hc1, hc2, hc3]; done)) (by first | rfl | (simp only [f_heat, hc1, hc2, hc3, if_true, if_false, not_true_eq_false, not_false_eq_true]; done) | (simp only [f_heat, hc1, hc2, hc3, if_true, if_false, not_true_eq_false, not_false_eq_true]; rfl) | (simp [f_heat, hc1, hc2, hc3]; done) | (simp [f_heat, hc1, hc2, hc3]; rfl) | (simp_all [f_heat, hc1, hc2, hc3]; done)) dX9_heat_55
  by_cases hc4 : x = 3
  · refine k_tableIn (off := 55) (tgt := 56) F dX9_heat_1 (by rw [hc4]; decide) (by rw [hc4]; decide) (by rw [hc4]; rfl) (by decide) ?_
    refine k_aload_n (n := 57) F dX9_heat_56 rfl 0 rfl rfl ?_
    refine k_get (n := 60) (v := .ref ((ad 2))) F uX9 0 1 rfl rfl (by decide) mw_197 rfl dX9_heat_57 rfl ?_
    refine k_getN (n := 63) (v := .long (h 3)) F uX4 2 7 rfl rfl (by decide) nw_6 rfl dX9_heat_60 rfl ?_
    exact k_lret F (by first | rfl | (simp only [f_heat, hc1, hc2, hc3, hc4, if_true, if_false, not_true_eq_false, not_false_eq_true]; done) | (simp only [f_heat, hc1, hc2, hc3, hc4, if_true, if_false, not_true_eq_false, not_false_eq_true]; rfl) | (simp [f_heat, hc1, hc2, hc3, hc4]; done) | (simp [f_heat, hc1, hc2, hc3, hc4]; rfl) | (simp_all [f_heat, hc1, hc2, hc3, hc4]; done)) (by first | rfl | (simp only [f_heat, hc1, hc2, hc3, hc4, if_true, if_false, not_true_eq_false, not_false_eq_true]; done) | (simp only [f_heat, hc1, hc2, hc3, hc4, if_true, if_false, not_true_eq_false, not_false_eq_true]; rfl) | (simp [f_heat, hc1, hc2, hc3, hc4]; done) | (simp [f_heat, hc1, hc2, hc3, hc4]; rfl) | (simp_all [f_heat, hc1, hc2, hc3, hc4]; done)) dX9_heat_63
  refine k_tableOut (tgt := 64) F dX9_heat_1 (by have z0 := lv_neT hc1 (show (0 : Int32).toInt = 0 from rfl); have z1 := lv_neT hc2 (show (1 : Int32).toInt = 1 from rfl); have z2 := lv_neT hc3 (show (2 : Int32).toInt = 2 from rfl); have z3 := lv_neT hc4 (show (3 : Int32).toInt = 3 from rfl); omega) (by decide) ?_
  refine k_ldc2 (n := 67) (v := -1) F mw_359 dX9_heat_64 rfl ?_
  exact k_lret F (by first | rfl | (simp only [f_heat, hc1, hc2, hc3, hc4, if_true, if_false, not_true_eq_false, not_false_eq_true]; done) | (simp only [f_heat, hc1, hc2, hc3, hc4, if_true, if_false, not_true_eq_false, not_false_eq_true]; rfl) | (simp [f_heat, hc1, hc2, hc3, hc4]; done) | (simp [f_heat, hc1, hc2, hc3, hc4]; rfl) | (simp_all [f_heat, hc1, hc2, hc3, hc4]; done)) (by first | rfl | (simp only [f_heat, hc1, hc2, hc3, hc4, if_true, if_false, not_true_eq_false, not_false_eq_true]; done) | (simp only [f_heat, hc1, hc2, hc3, hc4, if_true, if_false, not_true_eq_false, not_false_eq_true]; rfl) | (simp [f_heat, hc1, hc2, hc3, hc4]; done) | (simp [f_heat, hc1, hc2, hc3, hc4]; rfl) | (simp_all [f_heat, hc1, hc2, hc3, hc4]; done)) dX9_heat_67
set_option maxRecDepth 100000 in
set_option maxHeartbeats 4000000 in
theorem c_start (l : Launch) (g : kG) (ad : Nat → Nat) (cf : Nat → Option Nat) (i : Nat → Int32) (l_ : Nat → Int64) (a : Nat → Nat → Int32) (h : Nat → Int64) : kM l yX9_start cX9_start 1 (some .int) (rmK 2 0 0 41) g [.ref ((ad 0))] (wC g ad (i, l_, a, h) cf) (kDi g (f_start (i, l_, a, h)).1 (wC g ad (f_start (i, l_, a, h)).2 cf)) := by
  refine k_enter (by decide) (Nat.le_of_ble_eq_true rfl) ?_
  intro p e s m args below meth c A F
  refine k_aload_n (n := 1) F dX9_start_0 rfl 0 rfl rfl ?_
  refine k_get (n := 4) (v := .ref ((ad 5))) F uX9 0 2 rfl rfl (by decide) mw_198 rfl dX9_start_1 rfl ?_
  refine k_getN (n := 7) (v := .int (i 12)) F uX3 5 0 rfl rfl (by decide) nw_8 rfl dX9_start_4 rfl ?_
  refine k_if_ne (n := 10) (tgt := 30) F dX9_start_7 (by decide) rfl (fun hc1 => ?_) (fun hc1 => ?_)
  · refine k_bipush (n := 32) (v := -2) F dX9_start_30 rfl rfl ?_
    exact k_iret F (by first | rfl | (simp only [f_start, hc1, if_true, if_false, not_true_eq_false, not_false_eq_true]; done) | (simp only [f_start, hc1, if_true, if_false, not_true_eq_false, not_false_eq_true]; rfl) | (simp [f_start, hc1]; done) | (simp [f_start, hc1]; rfl) | (simp_all [f_start, hc1]; done)) (by first | rfl | (simp only [f_start, hc1, if_true, if_false, not_true_eq_false, not_false_eq_true]; done) | (simp only [f_start, hc1, if_true, if_false, not_true_eq_false, not_false_eq_true]; rfl) | (simp [f_start, hc1]; done) | (simp [f_start, hc1]; rfl) | (simp_all [f_start, hc1]; done)) dX9_start_32
  · refine k_aload_n (n := 11) F dX9_start_10 rfl 0 rfl rfl ?_
    refine k_get (n := 14) (v := .ref ((ad 6))) F uX9 0 3 rfl rfl (by decide) mw_199 rfl dX9_start_11 rfl ?_
    refine k_ciR (n := 17) F (k_rV (k := 0) (b := (ad 6)) (As := []) (rest := []) F (c_anyOn l g (ad 6) (ad 7) (ad 8) (a 22 0) (a 23 0) (a 24 0) (a 22 1) (a 23 1) (a 24 1) (a 10 4) (a 10 5)) [6, 7, 8] rfl rfl 0 rfl rfl mw_367 mw_364 mw_365 mw_366 mw_5 (by decide) ⟨by decide, by decide⟩ rfl (Nat.le_of_ble_eq_true rfl) ⟨by decide, by decide⟩ dX9_start_14) [6, 7, 8] rfl rfl ?_
    refine k_if_eq (n := 20) (tgt := 30) F dX9_start_17 (by decide) rfl (fun hc2 => ?_) (fun hc2 => ?_)
    · refine k_bipush (n := 32) (v := -2) F dX9_start_30 rfl rfl ?_
      exact k_iret F (by first | rfl | (simp only [f_start, hc1, hc2, if_true, if_false, not_true_eq_false, not_false_eq_true]; done) | (simp only [f_start, hc1, hc2, if_true, if_false, not_true_eq_false, not_false_eq_true]; rfl) | (simp [f_start, hc1, hc2]; done) | (simp [f_start, hc1, hc2]; rfl) | (simp_all [f_start, hc1, hc2]; done)) (by first | rfl | (simp only [f_start, hc1, hc2, if_true, if_false, not_true_eq_false, not_false_eq_true]; done) | (simp only [f_start, hc1, hc2, if_true, if_false, not_true_eq_false, not_false_eq_true]; rfl) | (simp [f_start, hc1, hc2]; done) | (simp [f_start, hc1, hc2]; rfl) | (simp_all [f_start, hc1, hc2]; done)) dX9_start_32
    · refine k_aload_n (n := 21) F dX9_start_20 rfl 0 rfl rfl ?_
      refine k_get (n := 24) (v := .ref ((ad 9))) F uX9 0 4 rfl rfl (by decide) mw_200 rfl dX9_start_21 rfl ?_
      refine k_ciR (n := 27) F (k_rV (k := 0) (b := (ad 9)) (As := []) (rest := []) F (c_isFull l g (ad 9) (a 10 3) (i 17) (i 18) (l_ 19) (l_ 20) (l_ 21)) [9] rfl rfl 0 rfl rfl mw_371 mw_368 mw_369 mw_370 mw_7 (by decide) ⟨by decide, by decide⟩ rfl (Nat.le_of_ble_eq_true rfl) ⟨by decide, by decide⟩ dX9_start_24) [9] rfl rfl ?_
      refine k_if_eq (n := 30) (tgt := 33) F dX9_start_27 (by decide) rfl (fun hc3 => ?_) (fun hc3 => ?_)
      · replace hc3 := kiteBt hc3
        refine k_aload_n (n := 34) F dX9_start_33 rfl 0 rfl rfl ?_
        refine k_get (n := 37) (v := .ref ((ad 5))) F uX9 0 2 rfl rfl (by decide) mw_198 rfl dX9_start_34 rfl ?_
        refine k_ci (n := 40) (ws' := wC g ad (upd (upd (upd (upd i 12 1) 34 0) 14 1) 15 1, l_, a, h) cf) F (k_rV (k := 0) (b := (ad 5)) (As := []) (rest := []) F (c_begin l g (ad 5) (i 12) (i 34) (i 32) (i 14) (i 15) (i 16)) [5] rfl rfl 0 rfl rfl mw_375 mw_372 mw_373 mw_374 mw_4 (by decide) ⟨by decide, by decide⟩ rfl (Nat.le_of_ble_eq_true rfl) ⟨by decide, by decide⟩ dX9_start_37) [5] [0, 1, 2, 3, 4, 6, 7, 8, 9, 10, 11, 12, 13, 14] [0, 1, 2, 3, 4, 14, 5, 6, 7, 8, 9, 10, 11, 12, 13] rfl rfl rfl (by decide) rfl rfl rfl ?_
        exact k_iret F (by first | rfl | (simp only [f_start, hc1, hc2, hc3, Int32.not_le.mp hc3, if_true, if_false, not_true_eq_false, not_false_eq_true]; done) | (simp only [f_start, hc1, hc2, hc3, Int32.not_le.mp hc3, if_true, if_false, not_true_eq_false, not_false_eq_true]; rfl) | (simp [f_start, hc1, hc2, hc3, Int32.not_le.mp hc3]; done) | (simp [f_start, hc1, hc2, hc3, Int32.not_le.mp hc3]; rfl) | (simp_all [f_start, hc1, hc2, hc3, Int32.not_le.mp hc3]; done)) (by first | rfl | (simp only [f_start, hc1, hc2, hc3, Int32.not_le.mp hc3, if_true, if_false, not_true_eq_false, not_false_eq_true]; done) | (simp only [f_start, hc1, hc2, hc3, Int32.not_le.mp hc3, if_true, if_false, not_true_eq_false, not_false_eq_true]; rfl) | (simp [f_start, hc1, hc2, hc3, Int32.not_le.mp hc3]; done) | (simp [f_start, hc1, hc2, hc3, Int32.not_le.mp hc3]; rfl) | (simp_all [f_start, hc1, hc2, hc3, Int32.not_le.mp hc3]; done)) dX9_start_40
      · replace hc3 := kiteBf hc3
        refine k_bipush (n := 32) (v := -2) F dX9_start_30 rfl rfl ?_
        exact k_iret F (by first | rfl | (simp only [f_start, hc1, hc2, hc3, Int32.not_lt.mpr hc3, if_true, if_false, not_true_eq_false, not_false_eq_true]; done) | (simp only [f_start, hc1, hc2, hc3, Int32.not_lt.mpr hc3, if_true, if_false, not_true_eq_false, not_false_eq_true]; rfl) | (simp [f_start, hc1, hc2, hc3, Int32.not_lt.mpr hc3]; done) | (simp [f_start, hc1, hc2, hc3, Int32.not_lt.mpr hc3]; rfl) | (simp_all [f_start, hc1, hc2, hc3, Int32.not_lt.mpr hc3]; done)) (by first | rfl | (simp only [f_start, hc1, hc2, hc3, Int32.not_lt.mpr hc3, if_true, if_false, not_true_eq_false, not_false_eq_true]; done) | (simp only [f_start, hc1, hc2, hc3, Int32.not_lt.mpr hc3, if_true, if_false, not_true_eq_false, not_false_eq_true]; rfl) | (simp [f_start, hc1, hc2, hc3, Int32.not_lt.mpr hc3]; done) | (simp [f_start, hc1, hc2, hc3, Int32.not_lt.mpr hc3]; rfl) | (simp_all [f_start, hc1, hc2, hc3, Int32.not_lt.mpr hc3]; done)) dX9_start_32
set_option maxRecDepth 100000 in
set_option maxHeartbeats 4000000 in
theorem c_low (l : Launch) (g : kG) (ad : Nat → Nat) (cf : Nat → Option Nat) (i : Nat → Int32) (l_ : Nat → Int64) (a : Nat → Nat → Int32) (h : Nat → Int64) : kM l yX9_low cX9_low 1 (some .int) (rmK 1 0 0 21) g [.ref ((ad 0))] (wC g ad (i, l_, a, h) cf) (kDi g (f_low (i, l_, a, h)).1 (wC g ad (f_low (i, l_, a, h)).2 cf)) := by
  refine k_enter (by decide) (Nat.le_of_ble_eq_true rfl) ?_
  intro p e s m args below meth c A F
  refine k_aload_n (n := 1) F dX9_low_0 rfl 0 rfl rfl ?_
  refine k_get (n := 4) (v := .ref ((ad 5))) F uX9 0 2 rfl rfl (by decide) mw_198 rfl dX9_low_1 rfl ?_
  refine k_getN (n := 7) (v := .int (i 12)) F uX3 5 0 rfl rfl (by decide) nw_8 rfl dX9_low_4 rfl ?_
  refine k_iconst (n := 8) (v := 2) F dX9_low_7 rfl rfl ?_
  refine k_icmp_ne (n := 11) (tgt := 22) F dX9_low_8 (by decide) rfl (fun hc1 => ?_) (fun hc1 => ?_)
  · refine k_bipush (n := 24) (v := -2) F dX9_low_22 rfl rfl ?_
    exact k_iret F (by first | rfl | (simp only [f_low, hc1, if_true, if_false, not_true_eq_false, not_false_eq_true]; done) | (simp only [f_low, hc1, if_true, if_false, not_true_eq_false, not_false_eq_true]; rfl) | (simp [f_low, hc1]; done) | (simp [f_low, hc1]; rfl) | (simp_all [f_low, hc1]; done)) (by first | rfl | (simp only [f_low, hc1, if_true, if_false, not_true_eq_false, not_false_eq_true]; done) | (simp only [f_low, hc1, if_true, if_false, not_true_eq_false, not_false_eq_true]; rfl) | (simp [f_low, hc1]; done) | (simp [f_low, hc1]; rfl) | (simp_all [f_low, hc1]; done)) dX9_low_24
  · refine k_aload_n (n := 12) F dX9_low_11 rfl 0 rfl rfl ?_
    refine k_get (n := 15) (v := .ref ((ad 5))) F uX9 0 2 rfl rfl (by decide) mw_198 rfl dX9_low_12 rfl ?_
    refine k_iconst (n := 16) (v := 3) F dX9_low_15 rfl rfl ?_
    refine k_ci (n := 19) (ws' := wC g ad (upd (upd i 12 3) 34 0, l_, a, h) cf) F (k_rV (k := 1) (b := (ad 5)) (As := [.int 3]) (rest := []) F (c_enter l g (ad 5) (i 12) (i 34) (i 32) (i 14) (i 15) (i 16) 3) [5] rfl rfl 0 rfl rfl mw_379 mw_384 mw_377 mw_378 mw_4 (by decide) ⟨by decide, by decide⟩ rfl (Nat.le_of_ble_eq_true rfl) ⟨by decide, by decide⟩ dX9_low_16) [5] [0, 1, 2, 3, 4, 6, 7, 8, 9, 10, 11, 12, 13, 14] [0, 1, 2, 3, 4, 14, 5, 6, 7, 8, 9, 10, 11, 12, 13] rfl rfl rfl (by decide) rfl rfl rfl ?_
    refine k_goto (tgt := 24) F dX9_low_19 (by decide) ?_
    exact k_iret F (by first | rfl | (simp only [f_low, hc1, if_true, if_false, not_true_eq_false, not_false_eq_true]; done) | (simp only [f_low, hc1, if_true, if_false, not_true_eq_false, not_false_eq_true]; rfl) | (simp [f_low, hc1]; done) | (simp [f_low, hc1]; rfl) | (simp_all [f_low, hc1]; done)) (by first | rfl | (simp only [f_low, hc1, if_true, if_false, not_true_eq_false, not_false_eq_true]; done) | (simp only [f_low, hc1, if_true, if_false, not_true_eq_false, not_false_eq_true]; rfl) | (simp [f_low, hc1]; done) | (simp [f_low, hc1]; rfl) | (simp_all [f_low, hc1]; done)) dX9_low_24
set_option maxRecDepth 100000 in
set_option maxHeartbeats 4000000 in
theorem c_high (l : Launch) (g : kG) (ad : Nat → Nat) (cf : Nat → Option Nat) (i : Nat → Int32) (l_ : Nat → Int64) (a : Nat → Nat → Int32) (h : Nat → Int64) : kM l yX9_high cX9_high 1 (some .int) (rmK 1 0 0 21) g [.ref ((ad 0))] (wC g ad (i, l_, a, h) cf) (kDi g (f_high (i, l_, a, h)).1 (wC g ad (f_high (i, l_, a, h)).2 cf)) := by
  refine k_enter (by decide) (Nat.le_of_ble_eq_true rfl) ?_
  intro p e s m args below meth c A F
  refine k_aload_n (n := 1) F dX9_high_0 rfl 0 rfl rfl ?_
  refine k_get (n := 4) (v := .ref ((ad 5))) F uX9 0 2 rfl rfl (by decide) mw_198 rfl dX9_high_1 rfl ?_
  refine k_getN (n := 7) (v := .int (i 12)) F uX3 5 0 rfl rfl (by decide) nw_8 rfl dX9_high_4 rfl ?_
  refine k_iconst (n := 8) (v := 3) F dX9_high_7 rfl rfl ?_
  refine k_icmp_ne (n := 11) (tgt := 22) F dX9_high_8 (by decide) rfl (fun hc1 => ?_) (fun hc1 => ?_)
  · refine k_bipush (n := 24) (v := -2) F dX9_high_22 rfl rfl ?_
    exact k_iret F (by first | rfl | (simp only [f_high, hc1, if_true, if_false, not_true_eq_false, not_false_eq_true]; done) | (simp only [f_high, hc1, if_true, if_false, not_true_eq_false, not_false_eq_true]; rfl) | (simp [f_high, hc1]; done) | (simp [f_high, hc1]; rfl) | (simp_all [f_high, hc1]; done)) (by first | rfl | (simp only [f_high, hc1, if_true, if_false, not_true_eq_false, not_false_eq_true]; done) | (simp only [f_high, hc1, if_true, if_false, not_true_eq_false, not_false_eq_true]; rfl) | (simp [f_high, hc1]; done) | (simp [f_high, hc1]; rfl) | (simp_all [f_high, hc1]; done)) dX9_high_24
  · refine k_aload_n (n := 12) F dX9_high_11 rfl 0 rfl rfl ?_
    refine k_get (n := 15) (v := .ref ((ad 5))) F uX9 0 2 rfl rfl (by decide) mw_198 rfl dX9_high_12 rfl ?_
    refine k_iconst (n := 16) (v := 2) F dX9_high_15 rfl rfl ?_
    refine k_ci (n := 19) (ws' := wC g ad (upd (upd i 12 2) 34 0, l_, a, h) cf) F (k_rV (k := 1) (b := (ad 5)) (As := [.int 2]) (rest := []) F (c_enter l g (ad 5) (i 12) (i 34) (i 32) (i 14) (i 15) (i 16) 2) [5] rfl rfl 0 rfl rfl mw_379 mw_384 mw_377 mw_378 mw_4 (by decide) ⟨by decide, by decide⟩ rfl (Nat.le_of_ble_eq_true rfl) ⟨by decide, by decide⟩ dX9_high_16) [5] [0, 1, 2, 3, 4, 6, 7, 8, 9, 10, 11, 12, 13, 14] [0, 1, 2, 3, 4, 14, 5, 6, 7, 8, 9, 10, 11, 12, 13] rfl rfl rfl (by decide) rfl rfl rfl ?_
    refine k_goto (tgt := 24) F dX9_high_19 (by decide) ?_
    exact k_iret F (by first | rfl | (simp only [f_high, hc1, if_true, if_false, not_true_eq_false, not_false_eq_true]; done) | (simp only [f_high, hc1, if_true, if_false, not_true_eq_false, not_false_eq_true]; rfl) | (simp [f_high, hc1]; done) | (simp [f_high, hc1]; rfl) | (simp_all [f_high, hc1]; done)) (by first | rfl | (simp only [f_high, hc1, if_true, if_false, not_true_eq_false, not_false_eq_true]; done) | (simp only [f_high, hc1, if_true, if_false, not_true_eq_false, not_false_eq_true]; rfl) | (simp [f_high, hc1]; done) | (simp [f_high, hc1]; rfl) | (simp_all [f_high, hc1]; done)) dX9_high_24
set_option maxRecDepth 100000 in
set_option maxHeartbeats 4000000 in
theorem c_trip (l : Launch) (g : kG) (ad : Nat → Nat) (cf : Nat → Option Nat) (i : Nat → Int32) (l_ : Nat → Int64) (a : Nat → Nat → Int32) (h : Nat → Int64) : kM l yX9_trip cX9_trip 1 (some .int) (rmK 2 0 0 41) g [.ref ((ad 0))] (wC g ad (i, l_, a, h) cf) (kDi g (f_trip (i, l_, a, h)).1 (wC g ad (f_trip (i, l_, a, h)).2 cf)) := by
  refine k_enter (by decide) (Nat.le_of_ble_eq_true rfl) ?_
  intro p e s m args below meth c A F
  refine k_aload_n (n := 1) F dX9_trip_0 rfl 0 rfl rfl ?_
  refine k_get (n := 4) (v := .ref ((ad 5))) F uX9 0 2 rfl rfl (by decide) mw_198 rfl dX9_trip_1 rfl ?_
  refine k_getN (n := 7) (v := .int (i 12)) F uX3 5 0 rfl rfl (by decide) nw_8 rfl dX9_trip_4 rfl ?_
  refine k_if_eq (n := 10) (tgt := 21) F dX9_trip_7 (by decide) rfl (fun hc1 => ?_) (fun hc1 => ?_)
  · refine k_bipush (n := 23) (v := -2) F dX9_trip_21 rfl rfl ?_
    exact k_iret F (by first | rfl | (simp only [f_trip, s_trip, hc1, if_true, if_false, not_true_eq_false, not_false_eq_true]; done) | (simp only [f_trip, s_trip, hc1, if_true, if_false, not_true_eq_false, not_false_eq_true]; rfl) | (simp [f_trip, s_trip, hc1]; done) | (simp [f_trip, s_trip, hc1]; rfl) | (simp_all [f_trip, s_trip, hc1]; done)) (by first | rfl | (simp only [f_trip, s_trip, hc1, if_true, if_false, not_true_eq_false, not_false_eq_true]; done) | (simp only [f_trip, s_trip, hc1, if_true, if_false, not_true_eq_false, not_false_eq_true]; rfl) | (simp [f_trip, s_trip, hc1]; done) | (simp [f_trip, s_trip, hc1]; rfl) | (simp_all [f_trip, s_trip, hc1]; done)) dX9_trip_23
  · refine k_aload_n (n := 11) F dX9_trip_10 rfl 0 rfl rfl ?_
    refine k_get (n := 14) (v := .ref ((ad 5))) F uX9 0 2 rfl rfl (by decide) mw_198 rfl dX9_trip_11 rfl ?_
    refine k_getN (n := 17) (v := .int (i 12)) F uX3 5 0 rfl rfl (by decide) nw_8 rfl dX9_trip_14 rfl ?_
    refine k_iconst (n := 18) (v := 4) F dX9_trip_17 rfl rfl ?_
    refine k_icmp_ne (n := 21) (tgt := 24) F dX9_trip_18 (by decide) rfl (fun hc2 => ?_) (fun hc2 => ?_)
    · refine k_aload_n (n := 25) F dX9_trip_24 rfl 0 rfl rfl ?_
      refine k_get (n := 28) (v := .ref ((ad 5))) F uX9 0 2 rfl rfl (by decide) mw_198 rfl dX9_trip_25 rfl ?_
      refine k_ci (n := 31) (ws' := wC g ad (upd (upd (upd i 12 4) 34 0) 32 ((i 32) + 1), l_, a, h) cf) F (k_rV (k := 0) (b := (ad 5)) (As := []) (rest := []) F (c_shutDown l g (ad 5) (i 12) (i 34) (i 32) (i 14) (i 15) (i 16)) [5] rfl rfl 0 rfl rfl mw_396 mw_393 mw_394 mw_395 mw_4 (by decide) ⟨by decide, by decide⟩ rfl (Nat.le_of_ble_eq_true rfl) ⟨by decide, by decide⟩ dX9_trip_28) [5] [0, 1, 2, 3, 4, 6, 7, 8, 9, 10, 11, 12, 13, 14] [0, 1, 2, 3, 4, 14, 5, 6, 7, 8, 9, 10, 11, 12, 13] rfl rfl rfl (by decide) rfl rfl rfl ?_
      exact k_iret F (by first | rfl | (simp only [f_trip, s_trip, hc1, hc2, if_true, if_false, not_true_eq_false, not_false_eq_true]; done) | (simp only [f_trip, s_trip, hc1, hc2, if_true, if_false, not_true_eq_false, not_false_eq_true]; rfl) | (simp [f_trip, s_trip, hc1, hc2]; done) | (simp [f_trip, s_trip, hc1, hc2]; rfl) | (simp_all [f_trip, s_trip, hc1, hc2]; done)) (by first | rfl | (simp only [f_trip, s_trip, hc1, hc2, if_true, if_false, not_true_eq_false, not_false_eq_true]; done) | (simp only [f_trip, s_trip, hc1, hc2, if_true, if_false, not_true_eq_false, not_false_eq_true]; rfl) | (simp [f_trip, s_trip, hc1, hc2]; done) | (simp [f_trip, s_trip, hc1, hc2]; rfl) | (simp_all [f_trip, s_trip, hc1, hc2]; done)) dX9_trip_31
    · refine k_bipush (n := 23) (v := -2) F dX9_trip_21 rfl rfl ?_
      exact k_iret F (by first | rfl | (simp only [f_trip, s_trip, hc1, hc2, if_true, if_false, not_true_eq_false, not_false_eq_true]; done) | (simp only [f_trip, s_trip, hc1, hc2, if_true, if_false, not_true_eq_false, not_false_eq_true]; rfl) | (simp [f_trip, s_trip, hc1, hc2]; done) | (simp [f_trip, s_trip, hc1, hc2]; rfl) | (simp_all [f_trip, s_trip, hc1, hc2]; done)) (by first | rfl | (simp only [f_trip, s_trip, hc1, hc2, if_true, if_false, not_true_eq_false, not_false_eq_true]; done) | (simp only [f_trip, s_trip, hc1, hc2, if_true, if_false, not_true_eq_false, not_false_eq_true]; rfl) | (simp [f_trip, s_trip, hc1, hc2]; done) | (simp [f_trip, s_trip, hc1, hc2]; rfl) | (simp_all [f_trip, s_trip, hc1, hc2]; done)) dX9_trip_23
set_option maxRecDepth 100000 in
set_option maxHeartbeats 4000000 in
theorem c_reset (l : Launch) (g : kG) (ad : Nat → Nat) (cf : Nat → Option Nat) (i : Nat → Int32) (l_ : Nat → Int64) (a : Nat → Nat → Int32) (h : Nat → Int64) : kM l yX9_reset cX9_reset 1 (some .int) (rmK 2 0 0 41) g [.ref ((ad 0))] (wC g ad (i, l_, a, h) cf) (kDi g (f_reset (i, l_, a, h)).1 (wC g ad (f_reset (i, l_, a, h)).2 cf)) := by
  refine k_enter (by decide) (Nat.le_of_ble_eq_true rfl) ?_
  intro p e s m args below meth c A F
  refine k_aload_n (n := 1) F dX9_reset_0 rfl 0 rfl rfl ?_
  refine k_get (n := 4) (v := .ref ((ad 5))) F uX9 0 2 rfl rfl (by decide) mw_198 rfl dX9_reset_1 rfl ?_
  refine k_getN (n := 7) (v := .int (i 12)) F uX3 5 0 rfl rfl (by decide) nw_8 rfl dX9_reset_4 rfl ?_
  refine k_iconst (n := 8) (v := 4) F dX9_reset_7 rfl rfl ?_
  refine k_icmp_ne (n := 11) (tgt := 21) F dX9_reset_8 (by decide) rfl (fun hc1 => ?_) (fun hc1 => ?_)
  · refine k_bipush (n := 23) (v := -2) F dX9_reset_21 rfl rfl ?_
    exact k_iret F (by first | rfl | (simp only [f_reset, hc1, if_true, if_false, not_true_eq_false, not_false_eq_true]; done) | (simp only [f_reset, hc1, if_true, if_false, not_true_eq_false, not_false_eq_true]; rfl) | (simp [f_reset, hc1]; done) | (simp [f_reset, hc1]; rfl) | (simp_all [f_reset, hc1]; done)) (by first | rfl | (simp only [f_reset, hc1, if_true, if_false, not_true_eq_false, not_false_eq_true]; done) | (simp only [f_reset, hc1, if_true, if_false, not_true_eq_false, not_false_eq_true]; rfl) | (simp [f_reset, hc1]; done) | (simp [f_reset, hc1]; rfl) | (simp_all [f_reset, hc1]; done)) dX9_reset_23
  · refine k_aload_n (n := 12) F dX9_reset_11 rfl 0 rfl rfl ?_
    refine k_get (n := 15) (v := .ref ((ad 5))) F uX9 0 2 rfl rfl (by decide) mw_198 rfl dX9_reset_12 rfl ?_
    refine k_getN (n := 18) (v := .int (i 16)) F uX3 5 5 rfl rfl (by decide) nw_12 rfl dX9_reset_15 rfl ?_
    refine k_if_ne (n := 21) (tgt := 24) F dX9_reset_18 (by decide) rfl (fun hc2 => ?_) (fun hc2 => ?_)
    · refine k_aload_n (n := 25) F dX9_reset_24 rfl 0 rfl rfl ?_
      refine k_get (n := 28) (v := .ref ((ad 5))) F uX9 0 2 rfl rfl (by decide) mw_198 rfl dX9_reset_25 rfl ?_
      refine k_ci (n := 31) (ws' := wC g ad (upd (upd (upd i 12 0) 34 0) 16 0, l_, a, h) cf) F (k_rV (k := 0) (b := (ad 5)) (As := []) (rest := []) F (c_settle l g (ad 5) (i 12) (i 34) (i 32) (i 14) (i 15) (i 16)) [5] rfl rfl 0 rfl rfl mw_404 mw_401 mw_402 mw_403 mw_4 (by decide) ⟨by decide, by decide⟩ rfl (Nat.le_of_ble_eq_true rfl) ⟨by decide, by decide⟩ dX9_reset_28) [5] [0, 1, 2, 3, 4, 6, 7, 8, 9, 10, 11, 12, 13, 14] [0, 1, 2, 3, 4, 14, 5, 6, 7, 8, 9, 10, 11, 12, 13] rfl rfl rfl (by decide) rfl rfl rfl ?_
      exact k_iret F (by first | rfl | (simp only [f_reset, hc1, hc2, if_true, if_false, not_true_eq_false, not_false_eq_true]; done) | (simp only [f_reset, hc1, hc2, if_true, if_false, not_true_eq_false, not_false_eq_true]; rfl) | (simp [f_reset, hc1, hc2]; done) | (simp [f_reset, hc1, hc2]; rfl) | (simp_all [f_reset, hc1, hc2]; done)) (by first | rfl | (simp only [f_reset, hc1, hc2, if_true, if_false, not_true_eq_false, not_false_eq_true]; done) | (simp only [f_reset, hc1, hc2, if_true, if_false, not_true_eq_false, not_false_eq_true]; rfl) | (simp [f_reset, hc1, hc2]; done) | (simp [f_reset, hc1, hc2]; rfl) | (simp_all [f_reset, hc1, hc2]; done)) dX9_reset_31
    · refine k_bipush (n := 23) (v := -2) F dX9_reset_21 rfl rfl ?_
      exact k_iret F (by first | rfl | (simp only [f_reset, hc1, hc2, if_true, if_false, not_true_eq_false, not_false_eq_true]; done) | (simp only [f_reset, hc1, hc2, if_true, if_false, not_true_eq_false, not_false_eq_true]; rfl) | (simp [f_reset, hc1, hc2]; done) | (simp [f_reset, hc1, hc2]; rfl) | (simp_all [f_reset, hc1, hc2]; done)) (by first | rfl | (simp only [f_reset, hc1, hc2, if_true, if_false, not_true_eq_false, not_false_eq_true]; done) | (simp only [f_reset, hc1, hc2, if_true, if_false, not_true_eq_false, not_false_eq_true]; rfl) | (simp [f_reset, hc1, hc2]; done) | (simp [f_reset, hc1, hc2]; rfl) | (simp_all [f_reset, hc1, hc2]; done)) dX9_reset_23
set_option maxRecDepth 100000 in
set_option maxHeartbeats 4000000 in
theorem c_adsorber (l : Launch) (g : kG) (ad : Nat → Nat) (cf : Nat → Option Nat) (i : Nat → Int32) (l_ : Nat → Int64) (a : Nat → Nat → Int32) (h : Nat → Int64) (x y : Int32) : kM l yX9_adsorber cX9_adsorber 3 (some .int) (rmK 2 0 0 43) g [.ref ((ad 0)), .int x, .int y] (wC g ad (i, l_, a, h) cf) (kDi g (f_adsorber (i, l_, a, h) x y) (wC g ad (i, l_, a, h) cf)) := by
  refine k_enter (by decide) (Nat.le_of_ble_eq_true rfl) ?_
  intro p e s m args below meth c A F
  refine k_aload_n (n := 1) F dX9_adsorber_0 rfl 0 rfl rfl ?_
  refine k_get (n := 4) (v := .ref ((ad 6))) F uX9 0 3 rfl rfl (by decide) mw_199 rfl dX9_adsorber_1 rfl ?_
  refine k_iload_n (n := 5) F dX9_adsorber_4 rfl 1 rfl rfl ?_
  refine k_iload_n (n := 6) F dX9_adsorber_5 rfl 2 rfl rfl ?_
  refine k_ciR (n := 9) F (k_rV (k := 2) (b := (ad 6)) (As := [.int x, .int y]) (rest := []) F (c_tell l g (ad 6) (ad 7) (ad 8) (a 22 0) (a 23 0) (a 24 0) (a 22 1) (a 23 1) (a 24 1) (a 10 4) (a 10 5) x y) [6, 7, 8] rfl rfl 0 rfl rfl mw_482 mw_479 mw_480 mw_481 mw_5 (by decide) ⟨by decide, by decide⟩ rfl (Nat.le_of_ble_eq_true rfl) ⟨by decide, by decide⟩ dX9_adsorber_6) [6, 7, 8] rfl rfl ?_
  exact k_iret F (by first | rfl | (simp only [f_adsorber, if_true, if_false, not_true_eq_false, not_false_eq_true]; done) | (simp only [f_adsorber, if_true, if_false, not_true_eq_false, not_false_eq_true]; rfl) | (simp [f_adsorber]; done) | (simp [f_adsorber]; rfl) | (simp_all [f_adsorber]; done)) (by first | rfl | (simp only [f_adsorber, if_true, if_false, not_true_eq_false, not_false_eq_true]; done) | (simp only [f_adsorber, if_true, if_false, not_true_eq_false, not_false_eq_true]; rfl) | (simp [f_adsorber]; done) | (simp [f_adsorber]; rfl) | (simp_all [f_adsorber]; done)) dX9_adsorber_9
set_option maxRecDepth 100000 in
set_option maxHeartbeats 4000000 in
theorem c_valve (l : Launch) (g : kG) (ad : Nat → Nat) (cf : Nat → Option Nat) (i : Nat → Int32) (l_ : Nat → Int64) (a : Nat → Nat → Int32) (h : Nat → Int64) (x : Int32) : kM l yX9_valve cX9_valve 2 (some .int) (rmK 1 0 0 20) g [.ref ((ad 0)), .int x] (wC g ad (i, l_, a, h) cf) (kDi g (f_valve (i, l_, a, h) x) (wC g ad (i, l_, a, h) cf)) := by
  refine k_enter (by decide) (Nat.le_of_ble_eq_true rfl) ?_
  intro p e s m args below meth c A F
  refine k_iload_n (n := 1) F dX9_valve_0 rfl 1 rfl rfl ?_
  by_cases hc1 : x = 0
  · refine k_tableIn (off := 27) (tgt := 28) F dX9_valve_1 (by rw [hc1]; decide) (by rw [hc1]; decide) (by rw [hc1]; rfl) (by decide) ?_
    refine k_aload_n (n := 29) F dX9_valve_28 rfl 0 rfl rfl ?_
    refine k_get (n := 32) (v := .ref ((ad 5))) F uX9 0 2 rfl rfl (by decide) mw_198 rfl dX9_valve_29 rfl ?_
    refine k_getN (n := 35) (v := .int (i 14)) F uX3 5 3 rfl rfl (by decide) nw_10 rfl dX9_valve_32 rfl ?_
    refine k_ciR (n := 38) F (k_rS (k := 1) (As := [.int (i 14)]) (rest := []) F (c_asNumber l g (i 14)) [] rfl rfl mw_493 mw_491 mw_492 mw_1 (by decide) ⟨by decide, by decide⟩ rfl (Nat.le_of_ble_eq_true rfl) ⟨by decide, by decide⟩ dX9_valve_35) [] rfl rfl ?_
    exact k_iret F (by first | rfl | (simp only [f_valve, hc1, if_true, if_false, not_true_eq_false, not_false_eq_true]; done) | (simp only [f_valve, hc1, if_true, if_false, not_true_eq_false, not_false_eq_true]; rfl) | (simp [f_valve, hc1]; done) | (simp [f_valve, hc1]; rfl) | (simp_all [f_valve, hc1]; done)) (by first | rfl | (simp only [f_valve, hc1, if_true, if_false, not_true_eq_false, not_false_eq_true]; done) | (simp only [f_valve, hc1, if_true, if_false, not_true_eq_false, not_false_eq_true]; rfl) | (simp [f_valve, hc1]; done) | (simp [f_valve, hc1]; rfl) | (simp_all [f_valve, hc1]; done)) dX9_valve_38
  by_cases hc2 : x = 1
  · refine k_tableIn (off := 38) (tgt := 39) F dX9_valve_1 (by rw [hc2]; decide) (by rw [hc2]; decide) (by rw [hc2]; rfl) (by decide) ?_
    refine k_aload_n (n := 40) F dX9_valve_39 rfl 0 rfl rfl ?_
    refine k_get (n := 43) (v := .ref ((ad 5))) F uX9 0 2 rfl rfl (by decide) mw_198 rfl dX9_valve_40 rfl ?_
    refine k_getN (n := 46) (v := .int (i 15)) F uX3 5 4 rfl rfl (by decide) nw_11 rfl dX9_valve_43 rfl ?_
    refine k_ciR (n := 49) F (k_rS (k := 1) (As := [.int (i 15)]) (rest := []) F (c_asNumber l g (i 15)) [] rfl rfl mw_493 mw_491 mw_492 mw_1 (by decide) ⟨by decide, by decide⟩ rfl (Nat.le_of_ble_eq_true rfl) ⟨by decide, by decide⟩ dX9_valve_46) [] rfl rfl ?_
    exact k_iret F (by first | rfl | (simp only [f_valve, hc1, hc2, if_true, if_false, not_true_eq_false, not_false_eq_true]; done) | (simp only [f_valve, hc1, hc2, if_true, if_false, not_true_eq_false, not_false_eq_true]; rfl) | (simp [f_valve, hc1, hc2]; done) | (simp [f_valve, hc1, hc2]; rfl) | (simp_all [f_valve, hc1, hc2]; done)) (by first | rfl | (simp only [f_valve, hc1, hc2, if_true, if_false, not_true_eq_false, not_false_eq_true]; done) | (simp only [f_valve, hc1, hc2, if_true, if_false, not_true_eq_false, not_false_eq_true]; rfl) | (simp [f_valve, hc1, hc2]; done) | (simp [f_valve, hc1, hc2]; rfl) | (simp_all [f_valve, hc1, hc2]; done)) dX9_valve_49
  by_cases hc3 : x = 2
  · refine k_tableIn (off := 49) (tgt := 50) F dX9_valve_1 (by rw [hc3]; decide) (by rw [hc3]; decide) (by rw [hc3]; rfl) (by decide) ?_
    refine k_aload_n (n := 51) F dX9_valve_50 rfl 0 rfl rfl ?_
    refine k_get (n := 54) (v := .ref ((ad 5))) F uX9 0 2 rfl rfl (by decide) mw_198 rfl dX9_valve_51 rfl ?_
    refine k_getN (n := 57) (v := .int (i 16)) F uX3 5 5 rfl rfl (by decide) nw_12 rfl dX9_valve_54 rfl ?_
    refine k_ciR (n := 60) F (k_rS (k := 1) (As := [.int (i 16)]) (rest := []) F (c_asNumber l g (i 16)) [] rfl rfl mw_493 mw_491 mw_492 mw_1 (by decide) ⟨by decide, by decide⟩ rfl (Nat.le_of_ble_eq_true rfl) ⟨by decide, by decide⟩ dX9_valve_57) [] rfl rfl ?_
    exact k_iret F (by first | rfl | (simp only [f_valve, hc1, hc2, hc3, if_true, if_false, not_true_eq_false, not_false_eq_true]; done) | (simp only [f_valve, hc1, hc2, hc3, if_true, if_false, not_true_eq_false, not_false_eq_true]; rfl) | (simp [f_valve, hc1, hc2, hc3]; done) | (simp [f_valve, hc1, hc2, hc3]; rfl) | (simp_all [f_valve, hc1, hc2, hc3]; done)) (by first | rfl | (simp only [f_valve, hc1, hc2, hc3, if_true, if_false, not_true_eq_false, not_false_eq_true]; done) | (simp only [f_valve, hc1, hc2, hc3, if_true, if_false, not_true_eq_false, not_false_eq_true]; rfl) | (simp [f_valve, hc1, hc2, hc3]; done) | (simp [f_valve, hc1, hc2, hc3]; rfl) | (simp_all [f_valve, hc1, hc2, hc3]; done)) dX9_valve_60
  refine k_tableOut (tgt := 61) F dX9_valve_1 (by have z0 := lv_neT hc1 (show (0 : Int32).toInt = 0 from rfl); have z1 := lv_neT hc2 (show (1 : Int32).toInt = 1 from rfl); have z2 := lv_neT hc3 (show (2 : Int32).toInt = 2 from rfl); omega) (by decide) ?_
  refine k_iconst (n := 62) (v := -1) F dX9_valve_61 rfl rfl ?_
  exact k_iret F (by first | rfl | (simp only [f_valve, hc1, hc2, hc3, if_true, if_false, not_true_eq_false, not_false_eq_true]; done) | (simp only [f_valve, hc1, hc2, hc3, if_true, if_false, not_true_eq_false, not_false_eq_true]; rfl) | (simp [f_valve, hc1, hc2, hc3]; done) | (simp [f_valve, hc1, hc2, hc3]; rfl) | (simp_all [f_valve, hc1, hc2, hc3]; done)) (by first | rfl | (simp only [f_valve, hc1, hc2, hc3, if_true, if_false, not_true_eq_false, not_false_eq_true]; done) | (simp only [f_valve, hc1, hc2, hc3, if_true, if_false, not_true_eq_false, not_false_eq_true]; rfl) | (simp [f_valve, hc1, hc2, hc3]; done) | (simp [f_valve, hc1, hc2, hc3]; rfl) | (simp_all [f_valve, hc1, hc2, hc3]; done)) dX9_valve_62
set_option maxRecDepth 100000 in
set_option maxHeartbeats 4000000 in
theorem c_order (l : Launch) (g : kG) (ad : Nat → Nat) (cf : Nat → Option Nat) (i : Nat → Int32) (l_ : Nat → Int64) (a : Nat → Nat → Int32) (h : Nat → Int64) (n d : Int32) (h25 : 0 ≤ i 25) : kM l yX9_order cX9_order 3 (some .int) (rmK 1 0 0 22) g [.ref ((ad 0)), .int n, .int d] (wC g ad (i, l_, a, h) cf) (kDi g (f_order (i, l_, a, h) n d).1 (wC g ad (f_order (i, l_, a, h) n d).2 cf)) := by
  refine k_enter (by decide) (Nat.le_of_ble_eq_true rfl) ?_
  intro p e s m args below meth c A F
  refine k_iload_n (n := 1) F dX9_order_0 rfl 1 rfl rfl ?_
  refine k_iconst (n := 2) (v := 1) F dX9_order_1 rfl rfl ?_
  refine k_sipush (n := 5) (v := 500) F dX9_order_2 rfl rfl ?_
  refine k_ciR (n := 8) F (k_rS (k := 3) (As := [.int n, .int 1, .int 500]) (rest := []) F (c_within l g n 1 500) [] rfl rfl mw_243 mw_241 mw_242 mw_1 (by decide) ⟨by decide, by decide⟩ rfl (Nat.le_of_ble_eq_true rfl) ⟨by decide, by decide⟩ dX9_order_5) [] rfl rfl ?_
  refine k_if_eq (n := 11) (tgt := 21) F dX9_order_8 (by decide) rfl (fun hc1 => ?_) (fun hc1 => ?_)
  · refine k_iconst (n := 22) (v := -1) F dX9_order_21 rfl rfl ?_
    exact k_iret F (by first | rfl | (simp only [f_order, hc1, if_true, if_false, not_true_eq_false, not_false_eq_true]; done) | (simp only [f_order, hc1, if_true, if_false, not_true_eq_false, not_false_eq_true]; rfl) | (simp [f_order, hc1]; done) | (simp [f_order, hc1]; rfl) | (simp_all [f_order, hc1]; done)) (by first | rfl | (simp only [f_order, hc1, if_true, if_false, not_true_eq_false, not_false_eq_true]; done) | (simp only [f_order, hc1, if_true, if_false, not_true_eq_false, not_false_eq_true]; rfl) | (simp [f_order, hc1]; done) | (simp [f_order, hc1]; rfl) | (simp_all [f_order, hc1]; done)) dX9_order_22
  · refine k_iload_n (n := 12) F dX9_order_11 rfl 2 rfl rfl ?_
    refine k_iconst (n := 13) (v := 0) F dX9_order_12 rfl rfl ?_
    refine k_bipush (n := 15) (v := 9) F dX9_order_13 rfl rfl ?_
    refine k_ciR (n := 18) F (k_rS (k := 3) (As := [.int d, .int 0, .int 9]) (rest := []) F (c_within l g d 0 9) [] rfl rfl mw_243 mw_241 mw_242 mw_1 (by decide) ⟨by decide, by decide⟩ rfl (Nat.le_of_ble_eq_true rfl) ⟨by decide, by decide⟩ dX9_order_15) [] rfl rfl ?_
    refine k_if_ne (n := 21) (tgt := 23) F dX9_order_18 (by decide) rfl (fun hc2 => ?_) (fun hc2 => ?_)
    · refine k_aload_n (n := 24) F dX9_order_23 rfl 0 rfl rfl ?_
      refine k_get (n := 27) (v := .ref ((ad 10))) F uX9 0 5 rfl rfl (by decide) mw_201 rfl dX9_order_24 rfl ?_
      refine k_iload_n (n := 28) F dX9_order_27 rfl 1 rfl rfl ?_
      refine k_iload_n (n := 29) F dX9_order_28 rfl 2 rfl rfl ?_
      refine k_ci (n := 32) (ws' := wC g ad (upd i 25 (if (i 25) < 8 then (i 25) + 1 else (i 25)), l_, va_up (va_up (va_up a 26 (if (i 25) < 8 then upd (a 26) (i 25).toNatClampNeg n else (a 26))) 27 (if (i 25) < 8 then upd (a 27) (i 25).toNatClampNeg d else (a 27))) 28 (if (i 25) < 8 then upd (a 28) (i 25).toNatClampNeg 0 else (a 28)), h) cf) F (k_rV (k := 2) (b := (ad 10)) (As := [.int n, .int d]) (rest := []) F (c_accept l g (ad 10) (ad 11) (ad 12) (ad 13) (i 25) (i 29) (i 30) (a 26) (a 27) (a 28) n d h25) [10, 11, 12, 13] rfl rfl 0 rfl rfl mw_501 mw_498 mw_499 mw_500 mw_8 (by decide) ⟨by decide, by decide⟩ rfl (Nat.le_of_ble_eq_true rfl) ⟨by decide, by decide⟩ dX9_order_29) [10, 11, 12, 13] [0, 1, 2, 3, 4, 5, 6, 7, 8, 9, 14] [0, 1, 2, 3, 4, 5, 6, 7, 8, 9, 11, 12, 13, 14, 10] rfl rfl rfl (by decide) rfl rfl rfl ?_
      by_cases h8 : i 25 < 8
      · exact k_iret F (by first | rfl | (simp only [f_order, hc1, hc2, h8, Int32.not_le.mpr h8, if_true, if_false, not_true_eq_false, not_false_eq_true]; done) | (simp only [f_order, hc1, hc2, h8, Int32.not_le.mpr h8, if_true, if_false, not_true_eq_false, not_false_eq_true]; rfl) | (simp [f_order, hc1, hc2, h8, Int32.not_le.mpr h8]; done) | (simp [f_order, hc1, hc2, h8, Int32.not_le.mpr h8]; rfl) | (simp_all [f_order, hc1, hc2, h8, Int32.not_le.mpr h8]; done)) (by first | rfl | (simp only [f_order, hc1, hc2, h8, Int32.not_le.mpr h8, if_true, if_false, not_true_eq_false, not_false_eq_true]; done) | (simp only [f_order, hc1, hc2, h8, Int32.not_le.mpr h8, if_true, if_false, not_true_eq_false, not_false_eq_true]; rfl) | (simp [f_order, hc1, hc2, h8, Int32.not_le.mpr h8]; done) | (simp [f_order, hc1, hc2, h8, Int32.not_le.mpr h8]; rfl) | (simp_all [f_order, hc1, hc2, h8, Int32.not_le.mpr h8]; done)) dX9_order_32
      · exact k_iret F (by first | rfl | (simp only [f_order, hc1, hc2, h8, Int32.not_lt.mp h8, if_true, if_false, not_true_eq_false, not_false_eq_true]; done) | (simp only [f_order, hc1, hc2, h8, Int32.not_lt.mp h8, if_true, if_false, not_true_eq_false, not_false_eq_true]; rfl) | (simp [f_order, hc1, hc2, h8, Int32.not_lt.mp h8]; done) | (simp [f_order, hc1, hc2, h8, Int32.not_lt.mp h8]; rfl) | (simp_all [f_order, hc1, hc2, h8, Int32.not_lt.mp h8]; done)) (by first | rfl | (simp only [f_order, hc1, hc2, h8, Int32.not_lt.mp h8, if_true, if_false, not_true_eq_false, not_false_eq_true]; done) | (simp only [f_order, hc1, hc2, h8, Int32.not_lt.mp h8, if_true, if_false, not_true_eq_false, not_false_eq_true]; rfl) | (simp [f_order, hc1, hc2, h8, Int32.not_lt.mp h8]; done) | (simp [f_order, hc1, hc2, h8, Int32.not_lt.mp h8]; rfl) | (simp_all [f_order, hc1, hc2, h8, Int32.not_lt.mp h8]; done)) dX9_order_32
    · refine k_iconst (n := 22) (v := -1) F dX9_order_21 rfl rfl ?_
      exact k_iret F (by first | rfl | (simp only [f_order, hc1, hc2, if_true, if_false, not_true_eq_false, not_false_eq_true]; done) | (simp only [f_order, hc1, hc2, if_true, if_false, not_true_eq_false, not_false_eq_true]; rfl) | (simp [f_order, hc1, hc2]; done) | (simp [f_order, hc1, hc2]; rfl) | (simp_all [f_order, hc1, hc2]; done)) (by first | rfl | (simp only [f_order, hc1, hc2, if_true, if_false, not_true_eq_false, not_false_eq_true]; done) | (simp only [f_order, hc1, hc2, if_true, if_false, not_true_eq_false, not_false_eq_true]; rfl) | (simp [f_order, hc1, hc2]; done) | (simp [f_order, hc1, hc2]; rfl) | (simp_all [f_order, hc1, hc2]; done)) dX9_order_22
set_option maxRecDepth 100000 in
set_option maxHeartbeats 4000000 in
theorem c_deliver (l : Launch) (g : kG) (ad : Nat → Nat) (cf : Nat → Option Nat) (i : Nat → Int32) (l_ : Nat → Int64) (a : Nat → Nat → Int32) (h : Nat → Int64) (h25 : 0 ≤ i 25 ∧ i 25 ≤ 8) : kM l yX9_deliver cX9_deliver 1 (some .int) (rmK 3 0 0 66) g [.ref ((ad 0))] (wC g ad (i, l_, a, h) cf) (kDi g (f_deliver (i, l_, a, h)).1 (wC g ad (f_deliver (i, l_, a, h)).2 cf)) := by
  refine k_enter (by decide) (Nat.le_of_ble_eq_true rfl) ?_
  intro p e s m args below meth c A F
  refine k_aload_n (n := 1) F dX9_deliver_0 rfl 0 rfl rfl ?_
  refine k_get (n := 4) (v := .ref ((ad 10))) F uX9 0 5 rfl rfl (by decide) mw_201 rfl dX9_deliver_1 rfl ?_
  refine k_getN (n := 7) (v := .int (i 29)) F uX5 10 4 rfl rfl (by decide) nw_24 rfl dX9_deliver_4 rfl ?_
  refine k_bipush (n := 9) (v := 10) F dX9_deliver_7 rfl rfl ?_
  refine k_icmp_lt (n := 12) (tgt := 17) F dX9_deliver_9 (by decide) rfl (fun hc1 => ?_) (fun hc1 => ?_)
  · refine k_aload_n (n := 18) F dX9_deliver_17 rfl 0 rfl rfl ?_
    refine k_get (n := 21) (v := .ref ((ad 10))) F uX9 0 5 rfl rfl (by decide) mw_201 rfl dX9_deliver_18 rfl ?_
    refine k_aload_n (n := 22) F dX9_deliver_21 rfl 0 rfl rfl ?_
    refine k_get (n := 25) (v := .ref ((ad 9))) F uX9 0 4 rfl rfl (by decide) mw_200 rfl dX9_deliver_22 rfl ?_
    refine k_ci (n := 28) (ws' := wC g ad (upd (upd (upd i 17 ((edL (a 26) (a 27) (i 29) (0, a 28, i 30, i 17, l_ 20) ((i 25).toNatClampNeg)).2.2.2.1)) 29 ((i 29) + 1)) 30 ((edL (a 26) (a 27) (i 29) (0, a 28, i 30, i 17, l_ 20) ((i 25).toNatClampNeg)).2.2.1), vp_updL l_ 20 ((edL (a 26) (a 27) (i 29) (0, a 28, i 30, i 17, l_ 20) ((i 25).toNatClampNeg)).2.2.2.2), va_up a 28 ((edL (a 26) (a 27) (i 29) (0, a 28, i 30, i 17, l_ 20) ((i 25).toNatClampNeg)).2.1), h) cf) F (k_rV (k := 1) (b := (ad 10)) (As := [.ref ((ad 9))]) (rest := []) F (c_endDay l g (ad 10) (ad 11) (ad 12) (ad 13) (ad 9) (i 25) (i 29) (i 30) (a 26) (a 27) (a 28) (a 10 3) (i 17) (i 18) (l_ 19) (l_ 20) (l_ 21) ((i 25).toNatClampNeg) (kclamp h25.1) (kclamp8 h25.1 h25.2)) [10, 11, 12, 13, 9] rfl rfl 0 rfl rfl mw_509 mw_506 mw_507 mw_508 mw_8 (by decide) ⟨by decide, by decide⟩ rfl (Nat.le_of_ble_eq_true rfl) ⟨by decide, by decide⟩ dX9_deliver_25) [10, 11, 12, 13, 9] [0, 1, 2, 3, 4, 5, 6, 7, 8, 14] [0, 1, 2, 3, 4, 5, 6, 7, 8, 14, 10, 11, 12, 13, 9] rfl rfl rfl (by decide) rfl rfl rfl ?_
    exact k_iret F (by first | rfl | (simp only [f_deliver, dlE, hc1, Int32.not_le.mpr hc1, if_true, if_false, not_true_eq_false, not_false_eq_true]; done) | (simp only [f_deliver, dlE, hc1, Int32.not_le.mpr hc1, if_true, if_false, not_true_eq_false, not_false_eq_true]; rfl) | (simp [f_deliver, dlE, hc1, Int32.not_le.mpr hc1]; done) | (simp [f_deliver, dlE, hc1, Int32.not_le.mpr hc1]; rfl) | (simp_all [f_deliver, dlE, hc1, Int32.not_le.mpr hc1]; done)) (by first | rfl | (simp only [f_deliver, dlE, hc1, Int32.not_le.mpr hc1, if_true, if_false, not_true_eq_false, not_false_eq_true]; done) | (simp only [f_deliver, dlE, hc1, Int32.not_le.mpr hc1, if_true, if_false, not_true_eq_false, not_false_eq_true]; rfl) | (simp [f_deliver, dlE, hc1, Int32.not_le.mpr hc1]; done) | (simp [f_deliver, dlE, hc1, Int32.not_le.mpr hc1]; rfl) | (simp_all [f_deliver, dlE, hc1, Int32.not_le.mpr hc1]; done)) dX9_deliver_28
  · refine k_bipush (n := 14) (v := -2) F dX9_deliver_12 rfl rfl ?_
    refine k_goto (tgt := 28) F dX9_deliver_14 (by decide) ?_
    exact k_iret F (by first | rfl | (simp only [f_deliver, dlE, hc1, Int32.not_lt.mp hc1, if_true, if_false, not_true_eq_false, not_false_eq_true]; done) | (simp only [f_deliver, dlE, hc1, Int32.not_lt.mp hc1, if_true, if_false, not_true_eq_false, not_false_eq_true]; rfl) | (simp [f_deliver, dlE, hc1, Int32.not_lt.mp hc1]; done) | (simp [f_deliver, dlE, hc1, Int32.not_lt.mp hc1]; rfl) | (simp_all [f_deliver, dlE, hc1, Int32.not_lt.mp hc1]; done)) (by first | rfl | (simp only [f_deliver, dlE, hc1, Int32.not_lt.mp hc1, if_true, if_false, not_true_eq_false, not_false_eq_true]; done) | (simp only [f_deliver, dlE, hc1, Int32.not_lt.mp hc1, if_true, if_false, not_true_eq_false, not_false_eq_true]; rfl) | (simp [f_deliver, dlE, hc1, Int32.not_lt.mp hc1]; done) | (simp [f_deliver, dlE, hc1, Int32.not_lt.mp hc1]; rfl) | (simp_all [f_deliver, dlE, hc1, Int32.not_lt.mp hc1]; done)) dX9_deliver_28
set_option maxRecDepth 100000 in
set_option maxHeartbeats 4000000 in
theorem c_about (l : Launch) (g : kG) (ad : Nat → Nat) (cf : Nat → Option Nat) (i : Nat → Int32) (l_ : Nat → Int64) (a : Nat → Nat → Int32) (h : Nat → Int64) (x y : Int32) (h25 : i 25 ≤ 8) : kM l yX9_about cX9_about 3 (some .int) (rmK 1 0 0 22) g [.ref ((ad 0)), .int x, .int y] (wC g ad (i, l_, a, h) cf) (kDi g (f_about (i, l_, a, h) x y) (wC g ad (i, l_, a, h) cf)) := by
  refine k_enter (by decide) (Nat.le_of_ble_eq_true rfl) ?_
  intro p e s m args below meth c A F
  refine k_aload_n (n := 1) F dX9_about_0 rfl 0 rfl rfl ?_
  refine k_get (n := 4) (v := .ref ((ad 10))) F uX9 0 5 rfl rfl (by decide) mw_201 rfl dX9_about_1 rfl ?_
  refine k_iload_n (n := 5) F dX9_about_4 rfl 1 rfl rfl ?_
  refine k_iload_n (n := 6) F dX9_about_5 rfl 2 rfl rfl ?_
  refine k_ciR (n := 9) F (k_rV (k := 2) (b := (ad 10)) (As := [.int x, .int y]) (rest := []) F (c_otell l g (ad 10) (ad 11) (ad 12) (ad 13) (i 25) (i 29) (i 30) (a 26) (a 27) (a 28) x y h25) [10, 11, 12, 13] rfl rfl 0 rfl rfl mw_525 mw_522 mw_523 mw_524 mw_8 (by decide) ⟨by decide, by decide⟩ rfl (Nat.le_of_ble_eq_true rfl) ⟨by decide, by decide⟩ dX9_about_6) [10, 11, 12, 13] rfl rfl ?_
  exact k_iret F (by first | rfl | (simp only [f_about, if_true, if_false, not_true_eq_false, not_false_eq_true]; done) | (simp only [f_about, if_true, if_false, not_true_eq_false, not_false_eq_true]; rfl) | (simp [f_about]; done) | (simp [f_about]; rfl) | (simp_all [f_about]; done)) (by first | rfl | (simp only [f_about, if_true, if_false, not_true_eq_false, not_false_eq_true]; done) | (simp only [f_about, if_true, if_false, not_true_eq_false, not_false_eq_true]; rfl) | (simp [f_about]; done) | (simp [f_about]; rfl) | (simp_all [f_about]; done)) dX9_about_9
set_option maxRecDepth 100000 in
set_option maxHeartbeats 4000000 in
theorem c_back (l : Launch) (g : kG) (ad : Nat → Nat) (cf : Nat → Option Nat) (i : Nat → Int32) (l_ : Nat → Int64) (a : Nat → Nat → Int32) (h : Nat → Int64) (n : Int32) : kM l yX9_back cX9_back 2 (some .int) (rmK 0 0 0 0) g [.ref ((ad 0)), .int n] (wC g ad (i, l_, a, h) cf) (kDi g (f_back (i, l_, a, h) n).1 (wC g ad (f_back (i, l_, a, h) n).2 cf)) := by
  refine k_enter (by decide) (Nat.le_of_ble_eq_true rfl) ?_
  intro p e s m args below meth c A F
  refine k_iload_n (n := 1) F dX9_back_0 rfl 1 rfl rfl ?_
  refine k_iconst (n := 2) (v := 1) F dX9_back_1 rfl rfl ?_
  refine k_icmp_ge (n := 5) (tgt := 7) F dX9_back_2 (by decide) rfl (fun hc1 => ?_) (fun hc1 => ?_)
  · refine k_iload_n (n := 8) F dX9_back_7 rfl 1 rfl rfl ?_
    refine k_aload_n (n := 9) F dX9_back_8 rfl 0 rfl rfl ?_
    refine k_get (n := 12) (v := .ref ((ad 9))) F uX9 0 4 rfl rfl (by decide) mw_200 rfl dX9_back_9 rfl ?_
    refine k_getN (n := 15) (v := .int (i 18)) F uX6 9 2 rfl rfl (by decide) nw_21 rfl dX9_back_12 rfl ?_
    refine k_icmp_gt (n := 18) (tgt := 37) F dX9_back_15 (by decide) rfl (fun hc2 => ?_) (fun hc2 => ?_)
    · refine k_bipush (n := 39) (v := -2) F dX9_back_37 rfl rfl ?_
      exact k_iret F (by first | rfl | (simp only [f_back, hc1, Int32.not_lt.mpr hc1, hc2, Int32.not_le.mpr hc2, if_true, if_false, not_true_eq_false, not_false_eq_true]; done) | (simp only [f_back, hc1, Int32.not_lt.mpr hc1, hc2, Int32.not_le.mpr hc2, if_true, if_false, not_true_eq_false, not_false_eq_true]; rfl) | (simp [f_back, hc1, Int32.not_lt.mpr hc1, hc2, Int32.not_le.mpr hc2]; done) | (simp [f_back, hc1, Int32.not_lt.mpr hc1, hc2, Int32.not_le.mpr hc2]; rfl) | (simp_all [f_back, hc1, Int32.not_lt.mpr hc1, hc2, Int32.not_le.mpr hc2]; done)) (by first | rfl | (simp only [f_back, hc1, Int32.not_lt.mpr hc1, hc2, Int32.not_le.mpr hc2, if_true, if_false, not_true_eq_false, not_false_eq_true]; done) | (simp only [f_back, hc1, Int32.not_lt.mpr hc1, hc2, Int32.not_le.mpr hc2, if_true, if_false, not_true_eq_false, not_false_eq_true]; rfl) | (simp [f_back, hc1, Int32.not_lt.mpr hc1, hc2, Int32.not_le.mpr hc2]; done) | (simp [f_back, hc1, Int32.not_lt.mpr hc1, hc2, Int32.not_le.mpr hc2]; rfl) | (simp_all [f_back, hc1, Int32.not_lt.mpr hc1, hc2, Int32.not_le.mpr hc2]; done)) dX9_back_39
    · refine k_iload_n (n := 19) F dX9_back_18 rfl 1 rfl rfl ?_
      refine k_aload_n (n := 20) F dX9_back_19 rfl 0 rfl rfl ?_
      refine k_get (n := 23) (v := .ref ((ad 9))) F uX9 0 4 rfl rfl (by decide) mw_200 rfl dX9_back_20 rfl ?_
      refine k_getN (n := 26) (v := .int (a 10 3)) F uX6 9 0 rfl rfl (by decide) nw_19 rfl dX9_back_23 rfl ?_
      refine k_aload_n (n := 27) F dX9_back_26 rfl 0 rfl rfl ?_
      refine k_get (n := 30) (v := .ref ((ad 9))) F uX9 0 4 rfl rfl (by decide) mw_200 rfl dX9_back_27 rfl ?_
      refine k_getN (n := 33) (v := .int (i 17)) F uX6 9 1 rfl rfl (by decide) nw_20 rfl dX9_back_30 rfl ?_
      refine k_isub (n := 34) F dX9_back_33 rfl ?_
      refine k_icmp_le (n := 37) (tgt := 40) F dX9_back_34 (by decide) rfl (fun hc3 => ?_) (fun hc3 => ?_)
      · refine k_aload_n (n := 41) F dX9_back_40 rfl 0 rfl rfl ?_
        refine k_get (n := 44) (v := .ref ((ad 9))) F uX9 0 4 rfl rfl (by decide) mw_200 rfl dX9_back_41 rfl ?_
        refine k_dup (n := 45) F dX9_back_44 rfl rfl ?_
        refine k_getN (n := 48) (v := .int (i 18)) F uX6 9 2 rfl rfl (by decide) nw_21 rfl dX9_back_45 rfl ?_
        refine k_iload_n (n := 49) F dX9_back_48 rfl 1 rfl rfl ?_
        refine k_isub (n := 50) F dX9_back_49 rfl ?_
        refine k_putN (n := 53) (ws' := wC g ad (upd i 18 ((i 18) - n), l_, a, h) cf) F uX6 tyX6_ok nmX6 9 2 rfl rfl (by decide) nw_21 rfl rfl rfl (Nat.le_of_ble_eq_true rfl) rfl dX9_back_50 rfl ?_
        refine k_aload_n (n := 54) F dX9_back_53 rfl 0 rfl rfl ?_
        refine k_get (n := 57) (v := .ref ((ad 9))) F uX9 0 4 rfl rfl (by decide) mw_200 rfl dX9_back_54 rfl ?_
        refine k_dup (n := 58) F dX9_back_57 rfl rfl ?_
        refine k_getN (n := 61) (v := .int (i 17)) F uX6 9 1 rfl rfl (by decide) nw_20 rfl dX9_back_58 rfl ?_
        refine k_iload_n (n := 62) F dX9_back_61 rfl 1 rfl rfl ?_
        refine k_iadd (n := 63) F dX9_back_62 rfl ?_
        refine k_putN (n := 66) (ws' := wC g ad (upd (upd i 18 ((i 18) - n)) 17 ((i 17) + n), l_, a, h) cf) F uX6 tyX6_ok nmX6 9 1 rfl rfl (by decide) nw_20 rfl rfl rfl (Nat.le_of_ble_eq_true rfl) rfl dX9_back_63 rfl ?_
        refine k_aload_n (n := 67) F dX9_back_66 rfl 0 rfl rfl ?_
        refine k_get (n := 70) (v := .ref ((ad 9))) F uX9 0 4 rfl rfl (by decide) mw_200 rfl dX9_back_67 rfl ?_
        refine k_getN (n := 73) (v := .int ((i 17) + n)) F uX6 9 1 rfl rfl (by decide) nw_20 rfl dX9_back_70 rfl ?_
        exact k_iret F (by first | rfl | (simp only [f_back, hc1, Int32.not_lt.mpr hc1, hc2, Int32.not_lt.mp hc2, hc3, Int32.not_lt.mpr hc3, if_true, if_false, not_true_eq_false, not_false_eq_true]; done) | (simp only [f_back, hc1, Int32.not_lt.mpr hc1, hc2, Int32.not_lt.mp hc2, hc3, Int32.not_lt.mpr hc3, if_true, if_false, not_true_eq_false, not_false_eq_true]; rfl) | (simp [f_back, hc1, Int32.not_lt.mpr hc1, hc2, Int32.not_lt.mp hc2, hc3, Int32.not_lt.mpr hc3]; done) | (simp [f_back, hc1, Int32.not_lt.mpr hc1, hc2, Int32.not_lt.mp hc2, hc3, Int32.not_lt.mpr hc3]; rfl) | (simp_all [f_back, hc1, Int32.not_lt.mpr hc1, hc2, Int32.not_lt.mp hc2, hc3, Int32.not_lt.mpr hc3]; done)) (by first | rfl | (simp only [f_back, hc1, Int32.not_lt.mpr hc1, hc2, Int32.not_lt.mp hc2, hc3, Int32.not_lt.mpr hc3, if_true, if_false, not_true_eq_false, not_false_eq_true]; done) | (simp only [f_back, hc1, Int32.not_lt.mpr hc1, hc2, Int32.not_lt.mp hc2, hc3, Int32.not_lt.mpr hc3, if_true, if_false, not_true_eq_false, not_false_eq_true]; rfl) | (simp [f_back, hc1, Int32.not_lt.mpr hc1, hc2, Int32.not_lt.mp hc2, hc3, Int32.not_lt.mpr hc3]; done) | (simp [f_back, hc1, Int32.not_lt.mpr hc1, hc2, Int32.not_lt.mp hc2, hc3, Int32.not_lt.mpr hc3]; rfl) | (simp_all [f_back, hc1, Int32.not_lt.mpr hc1, hc2, Int32.not_lt.mp hc2, hc3, Int32.not_lt.mpr hc3]; done)) dX9_back_73
      · refine k_bipush (n := 39) (v := -2) F dX9_back_37 rfl rfl ?_
        exact k_iret F (by first | rfl | (simp only [f_back, hc1, Int32.not_lt.mpr hc1, hc2, Int32.not_lt.mp hc2, hc3, Int32.not_le.mp hc3, if_true, if_false, not_true_eq_false, not_false_eq_true]; done) | (simp only [f_back, hc1, Int32.not_lt.mpr hc1, hc2, Int32.not_lt.mp hc2, hc3, Int32.not_le.mp hc3, if_true, if_false, not_true_eq_false, not_false_eq_true]; rfl) | (simp [f_back, hc1, Int32.not_lt.mpr hc1, hc2, Int32.not_lt.mp hc2, hc3, Int32.not_le.mp hc3]; done) | (simp [f_back, hc1, Int32.not_lt.mpr hc1, hc2, Int32.not_lt.mp hc2, hc3, Int32.not_le.mp hc3]; rfl) | (simp_all [f_back, hc1, Int32.not_lt.mpr hc1, hc2, Int32.not_lt.mp hc2, hc3, Int32.not_le.mp hc3]; done)) (by first | rfl | (simp only [f_back, hc1, Int32.not_lt.mpr hc1, hc2, Int32.not_lt.mp hc2, hc3, Int32.not_le.mp hc3, if_true, if_false, not_true_eq_false, not_false_eq_true]; done) | (simp only [f_back, hc1, Int32.not_lt.mpr hc1, hc2, Int32.not_lt.mp hc2, hc3, Int32.not_le.mp hc3, if_true, if_false, not_true_eq_false, not_false_eq_true]; rfl) | (simp [f_back, hc1, Int32.not_lt.mpr hc1, hc2, Int32.not_lt.mp hc2, hc3, Int32.not_le.mp hc3]; done) | (simp [f_back, hc1, Int32.not_lt.mpr hc1, hc2, Int32.not_lt.mp hc2, hc3, Int32.not_le.mp hc3]; rfl) | (simp_all [f_back, hc1, Int32.not_lt.mpr hc1, hc2, Int32.not_lt.mp hc2, hc3, Int32.not_le.mp hc3]; done)) dX9_back_39
  · refine k_iconst (n := 6) (v := -1) F dX9_back_5 rfl rfl ?_
    exact k_iret F (by first | rfl | (simp only [f_back, hc1, Int32.not_le.mp hc1, if_true, if_false, not_true_eq_false, not_false_eq_true]; done) | (simp only [f_back, hc1, Int32.not_le.mp hc1, if_true, if_false, not_true_eq_false, not_false_eq_true]; rfl) | (simp [f_back, hc1, Int32.not_le.mp hc1]; done) | (simp [f_back, hc1, Int32.not_le.mp hc1]; rfl) | (simp_all [f_back, hc1, Int32.not_le.mp hc1]; done)) (by first | rfl | (simp only [f_back, hc1, Int32.not_le.mp hc1, if_true, if_false, not_true_eq_false, not_false_eq_true]; done) | (simp only [f_back, hc1, Int32.not_le.mp hc1, if_true, if_false, not_true_eq_false, not_false_eq_true]; rfl) | (simp [f_back, hc1, Int32.not_le.mp hc1]; done) | (simp [f_back, hc1, Int32.not_le.mp hc1]; rfl) | (simp_all [f_back, hc1, Int32.not_le.mp hc1]; done)) dX9_back_6
set_option maxRecDepth 100000 in
set_option maxHeartbeats 4000000 in
theorem c_lose (l : Launch) (g : kG) (ad : Nat → Nat) (cf : Nat → Option Nat) (i : Nat → Int32) (l_ : Nat → Int64) (a : Nat → Nat → Int32) (h : Nat → Int64) (x v : Int32) (hv : v = 0 ∨ v = 1) : kM l yX9_lose cX9_lose 4 (some .int) (rmK 2 0 0 42) g [.ref ((ad 0)), .int x, .int v] (wC g ad (i, l_, a, h) cf) (kDi g (f_lose (i, l_, a, h) x v).1 (wC g ad (f_lose (i, l_, a, h) x v).2 cf)) := by
  refine k_enter (by decide) (Nat.le_of_ble_eq_true rfl) ?_
  intro p e s m args below meth c A F
  refine k_iload_n (n := 1) F dX9_lose_0 rfl 1 rfl rfl ?_
  refine k_ciR (n := 4) F (k_rS (k := 1) (As := [.int x]) (rest := []) F (c_isMeter l g x) [] rfl rfl mw_536 mw_534 mw_535 mw_1 (by decide) ⟨by decide, by decide⟩ rfl (Nat.le_of_ble_eq_true rfl) ⟨by decide, by decide⟩ dX9_lose_1) [] rfl rfl ?_
  refine k_if_ne (n := 7) (tgt := 9) F dX9_lose_4 (by decide) rfl (fun hc1 => ?_) (fun hc1 => ?_)
  · refine k_aload_n (n := 10) F dX9_lose_9 rfl 0 rfl rfl ?_
    refine k_get (n := 13) (v := .ref ((ad 14))) F uX9 0 6 rfl rfl (by decide) mw_202 rfl dX9_lose_10 rfl ?_
    refine k_iload_n (n := 14) F dX9_lose_13 rfl 1 rfl rfl ?_
    refine k_zald (n := 15) (N := x.toNatClampNeg) F 14 rfl (kIx_m hc1) dX9_lose_14 rfl ?_
    refine k_istore_n (n := 16) (lv' := [(3, .int ((a 33) x.toNatClampNeg)), (0, .ref ((ad 0))), (1, .int x), (2, .int v)]) F dX9_lose_15 rfl (by decide) rfl rfl ?_
    refine k_aload_n (n := 17) F dX9_lose_16 rfl 1 rfl rfl ?_
    refine k_get (n := 20) (v := .ref ((ad 14))) F uX9 0 6 rfl rfl (by decide) mw_202 rfl dX9_lose_17 rfl ?_
    refine k_iload_n (n := 21) F dX9_lose_20 rfl 2 rfl rfl ?_
    refine k_iload_n (n := 22) F dX9_lose_21 rfl 3 rfl rfl ?_
    refine k_zast (n := 23) (N := x.toNatClampNeg) (ws' := wC g ad (i, l_, va_up a 33 (upd (a 33) x.toNatClampNeg v), h) cf) F 14 rfl (kIx_m hc1) (kZv hv) rfl dX9_lose_22 rfl ?_
    refine k_iload_n (n := 24) F dX9_lose_23 rfl 0 rfl rfl ?_
    refine k_ciR (n := 27) F (k_rS (k := 1) (As := [.int ((a 33) x.toNatClampNeg)]) (rest := []) F (c_asNumber l g ((a 33) x.toNatClampNeg)) [] rfl rfl mw_493 mw_491 mw_492 mw_1 (by decide) ⟨by decide, by decide⟩ rfl (Nat.le_of_ble_eq_true rfl) ⟨by decide, by decide⟩ dX9_lose_24) [] rfl rfl ?_
    exact k_iret F (by first | rfl | (simp only [f_lose, hc1, if_true, if_false, not_true_eq_false, not_false_eq_true]; done) | (simp only [f_lose, hc1, if_true, if_false, not_true_eq_false, not_false_eq_true]; rfl) | (simp [f_lose, hc1]; done) | (simp [f_lose, hc1]; rfl) | (simp_all [f_lose, hc1]; done)) (by first | rfl | (simp only [f_lose, hc1, if_true, if_false, not_true_eq_false, not_false_eq_true]; done) | (simp only [f_lose, hc1, if_true, if_false, not_true_eq_false, not_false_eq_true]; rfl) | (simp [f_lose, hc1]; done) | (simp [f_lose, hc1]; rfl) | (simp_all [f_lose, hc1]; done)) dX9_lose_27
  · refine k_iconst (n := 8) (v := -1) F dX9_lose_7 rfl rfl ?_
    exact k_iret F (by first | rfl | (simp only [f_lose, hc1, if_true, if_false, not_true_eq_false, not_false_eq_true]; done) | (simp only [f_lose, hc1, if_true, if_false, not_true_eq_false, not_false_eq_true]; rfl) | (simp [f_lose, hc1]; done) | (simp [f_lose, hc1]; rfl) | (simp_all [f_lose, hc1]; done)) (by first | rfl | (simp only [f_lose, hc1, if_true, if_false, not_true_eq_false, not_false_eq_true]; done) | (simp only [f_lose, hc1, if_true, if_false, not_true_eq_false, not_false_eq_true]; rfl) | (simp [f_lose, hc1]; done) | (simp [f_lose, hc1]; rfl) | (simp_all [f_lose, hc1]; done)) dX9_lose_8
set_option maxRecDepth 100000 in
set_option maxHeartbeats 4000000 in
theorem c_meter (l : Launch) (g : kG) (ad : Nat → Nat) (cf : Nat → Option Nat) (i : Nat → Int32) (l_ : Nat → Int64) (a : Nat → Nat → Int32) (h : Nat → Int64) (x : Int32) : kM l yX9_meter cX9_meter 2 (some .long) (rmK 2 0 0 42) g [.ref ((ad 0)), .int x] (wC g ad (i, l_, a, h) cf) (kDl g (f_meter (i, l_, a, h) x) (wC g ad (i, l_, a, h) cf)) := by
  refine k_enter (by decide) (Nat.le_of_ble_eq_true rfl) ?_
  intro p e s m args below meth c A F
  refine k_iload_n (n := 1) F dX9_meter_0 rfl 1 rfl rfl ?_
  refine k_ciR (n := 4) F (k_rS (k := 1) (As := [.int x]) (rest := []) F (c_isMeter l g x) [] rfl rfl mw_536 mw_534 mw_535 mw_1 (by decide) ⟨by decide, by decide⟩ rfl (Nat.le_of_ble_eq_true rfl) ⟨by decide, by decide⟩ dX9_meter_1) [] rfl rfl ?_
  refine k_if_ne (n := 7) (tgt := 11) F dX9_meter_4 (by decide) rfl (fun hc1 => ?_) (fun hc1 => ?_)
  · refine k_aload_n (n := 12) F dX9_meter_11 rfl 0 rfl rfl ?_
    refine k_get (n := 15) (v := .ref ((ad 14))) F uX9 0 6 rfl rfl (by decide) mw_202 rfl dX9_meter_12 rfl ?_
    refine k_iload_n (n := 16) F dX9_meter_15 rfl 1 rfl rfl ?_
    refine k_zald (n := 17) (N := x.toNatClampNeg) F 14 rfl (kIx_m hc1) dX9_meter_16 rfl ?_
    refine k_if_eq (n := 20) (tgt := 26) F dX9_meter_17 (by decide) rfl (fun hc2 => ?_) (fun hc2 => ?_)
    · refine k_aload_n (n := 27) F dX9_meter_26 rfl 0 rfl rfl ?_
      refine k_get (n := 30) (v := .ref ((ad 9))) F uX9 0 4 rfl rfl (by decide) mw_200 rfl dX9_meter_27 rfl ?_
      refine k_iload_n (n := 31) F dX9_meter_30 rfl 1 rfl rfl ?_
      refine k_clR (n := 34) F (k_rV (k := 1) (b := (ad 9)) (As := [.int x]) (rest := []) F (c_reading l g (ad 9) (a 10 3) (i 17) (i 18) x (l_ 19) (l_ 20) (l_ 21)) [9] rfl rfl 0 rfl rfl mw_545 mw_542 mw_543 mw_544 mw_7 (by decide) ⟨by decide, by decide⟩ rfl (Nat.le_of_ble_eq_true rfl) ⟨by decide, by decide⟩ dX9_meter_31) [9] rfl rfl ?_
      exact k_lret F (by first | rfl | (simp only [f_meter, rdM, hc1, hc2, if_true, if_false, not_true_eq_false, not_false_eq_true]; done) | (simp only [f_meter, rdM, hc1, hc2, if_true, if_false, not_true_eq_false, not_false_eq_true]; rfl) | (simp [f_meter, rdM, hc1, hc2]; done) | (simp [f_meter, rdM, hc1, hc2]; rfl) | (simp_all [f_meter, rdM, hc1, hc2]; done)) (by first | rfl | (simp only [f_meter, rdM, hc1, hc2, if_true, if_false, not_true_eq_false, not_false_eq_true]; done) | (simp only [f_meter, rdM, hc1, hc2, if_true, if_false, not_true_eq_false, not_false_eq_true]; rfl) | (simp [f_meter, rdM, hc1, hc2]; done) | (simp [f_meter, rdM, hc1, hc2]; rfl) | (simp_all [f_meter, rdM, hc1, hc2]; done)) dX9_meter_34
    · refine k_ldc2 (n := 23) (v := -9) F mw_541 dX9_meter_20 rfl ?_
      refine k_goto (tgt := 34) F dX9_meter_23 (by decide) ?_
      exact k_lret F (by first | rfl | (simp only [f_meter, rdM, hc1, hc2, if_true, if_false, not_true_eq_false, not_false_eq_true]; done) | (simp only [f_meter, rdM, hc1, hc2, if_true, if_false, not_true_eq_false, not_false_eq_true]; rfl) | (simp [f_meter, rdM, hc1, hc2]; done) | (simp [f_meter, rdM, hc1, hc2]; rfl) | (simp_all [f_meter, rdM, hc1, hc2]; done)) (by first | rfl | (simp only [f_meter, rdM, hc1, hc2, if_true, if_false, not_true_eq_false, not_false_eq_true]; done) | (simp only [f_meter, rdM, hc1, hc2, if_true, if_false, not_true_eq_false, not_false_eq_true]; rfl) | (simp [f_meter, rdM, hc1, hc2]; done) | (simp [f_meter, rdM, hc1, hc2]; rfl) | (simp_all [f_meter, rdM, hc1, hc2]; done)) dX9_meter_34
  · refine k_ldc2 (n := 10) (v := -1) F mw_359 dX9_meter_7 rfl ?_
    exact k_lret F (by first | rfl | (simp only [f_meter, rdM, hc1, if_true, if_false, not_true_eq_false, not_false_eq_true]; done) | (simp only [f_meter, rdM, hc1, if_true, if_false, not_true_eq_false, not_false_eq_true]; rfl) | (simp [f_meter, rdM, hc1]; done) | (simp [f_meter, rdM, hc1]; rfl) | (simp_all [f_meter, rdM, hc1]; done)) (by first | rfl | (simp only [f_meter, rdM, hc1, if_true, if_false, not_true_eq_false, not_false_eq_true]; done) | (simp only [f_meter, rdM, hc1, if_true, if_false, not_true_eq_false, not_false_eq_true]; rfl) | (simp [f_meter, rdM, hc1]; done) | (simp [f_meter, rdM, hc1]; rfl) | (simp_all [f_meter, rdM, hc1]; done)) dX9_meter_10
set_option maxRecDepth 100000 in
set_option maxHeartbeats 4000000 in
theorem c_count (l : Launch) (g : kG) (ad : Nat → Nat) (cf : Nat → Option Nat) (i : Nat → Int32) (l_ : Nat → Int64) (a : Nat → Nat → Int32) (h : Nat → Int64) (x : Int32) : kM l yX9_count cX9_count 2 (some .int) (rmK 0 0 0 0) g [.ref ((ad 0)), .int x] (wC g ad (i, l_, a, h) cf) (kDi g (f_count (i, l_, a, h) x) (wC g ad (i, l_, a, h) cf)) := by
  refine k_enter (by decide) (Nat.le_of_ble_eq_true rfl) ?_
  intro p e s m args below meth c A F
  refine k_iload_n (n := 1) F dX9_count_0 rfl 1 rfl rfl ?_
  by_cases hc1 : x = 0
  · refine k_tableIn (off := 55) (tgt := 56) F dX9_count_1 (by rw [hc1]; decide) (by rw [hc1]; decide) (by rw [hc1]; rfl) (by decide) ?_
    refine k_aload_n (n := 57) F dX9_count_56 rfl 0 rfl rfl ?_
    refine k_get (n := 60) (v := .ref ((ad 5))) F uX9 0 2 rfl rfl (by decide) mw_198 rfl dX9_count_57 rfl ?_
    refine k_getN (n := 63) (v := .int (i 12)) F uX3 5 0 rfl rfl (by decide) nw_8 rfl dX9_count_60 rfl ?_
    exact k_iret F (by first | rfl | (simp only [f_count, hc1, if_true, if_false, not_true_eq_false, not_false_eq_true]; done) | (simp only [f_count, hc1, if_true, if_false, not_true_eq_false, not_false_eq_true]; rfl) | (simp [f_count, hc1]; done) | (simp [f_count, hc1]; rfl) | (simp_all [f_count, hc1]; done)) (by first | rfl | (simp only [f_count, hc1, if_true, if_false, not_true_eq_false, not_false_eq_true]; done) | (simp only [f_count, hc1, if_true, if_false, not_true_eq_false, not_false_eq_true]; rfl) | (simp [f_count, hc1]; done) | (simp [f_count, hc1]; rfl) | (simp_all [f_count, hc1]; done)) dX9_count_63
  by_cases hc2 : x = 1
  · refine k_tableIn (off := 63) (tgt := 64) F dX9_count_1 (by rw [hc2]; decide) (by rw [hc2]; decide) (by rw [hc2]; rfl) (by decide) ?_
    refine k_aload_n (n := 65) F dX9_count_64 rfl 0 rfl rfl ?_
    refine k_get (n := 68) (v := .ref ((ad 9))) F uX9 0 4 rfl rfl (by decide) mw_200 rfl dX9_count_65 rfl ?_
    refine k_getN (n := 71) (v := .int (i 17)) F uX6 9 1 rfl rfl (by decide) nw_20 rfl dX9_count_68 rfl ?_
    exact k_iret F (by first | rfl | (simp only [f_count, hc1, hc2, if_true, if_false, not_true_eq_false, not_false_eq_true]; done) | (simp only [f_count, hc1, hc2, if_true, if_false, not_true_eq_false, not_false_eq_true]; rfl) | (simp [f_count, hc1, hc2]; done) | (simp [f_count, hc1, hc2]; rfl) | (simp_all [f_count, hc1, hc2]; done)) (by first | rfl | (simp only [f_count, hc1, hc2, if_true, if_false, not_true_eq_false, not_false_eq_true]; done) | (simp only [f_count, hc1, hc2, if_true, if_false, not_true_eq_false, not_false_eq_true]; rfl) | (simp [f_count, hc1, hc2]; done) | (simp [f_count, hc1, hc2]; rfl) | (simp_all [f_count, hc1, hc2]; done)) dX9_count_71
  by_cases hc3 : x = 2
  · refine k_tableIn (off := 71) (tgt := 72) F dX9_count_1 (by rw [hc3]; decide) (by rw [hc3]; decide) (by rw [hc3]; rfl) (by decide) ?_
    refine k_aload_n (n := 73) F dX9_count_72 rfl 0 rfl rfl ?_
    refine k_get (n := 76) (v := .ref ((ad 9))) F uX9 0 4 rfl rfl (by decide) mw_200 rfl dX9_count_73 rfl ?_
    refine k_getN (n := 79) (v := .int (i 18)) F uX6 9 2 rfl rfl (by decide) nw_21 rfl dX9_count_76 rfl ?_
    exact k_iret F (by first | rfl | (simp only [f_count, hc1, hc2, hc3, if_true, if_false, not_true_eq_false, not_false_eq_true]; done) | (simp only [f_count, hc1, hc2, hc3, if_true, if_false, not_true_eq_false, not_false_eq_true]; rfl) | (simp [f_count, hc1, hc2, hc3]; done) | (simp [f_count, hc1, hc2, hc3]; rfl) | (simp_all [f_count, hc1, hc2, hc3]; done)) (by first | rfl | (simp only [f_count, hc1, hc2, hc3, if_true, if_false, not_true_eq_false, not_false_eq_true]; done) | (simp only [f_count, hc1, hc2, hc3, if_true, if_false, not_true_eq_false, not_false_eq_true]; rfl) | (simp [f_count, hc1, hc2, hc3]; done) | (simp [f_count, hc1, hc2, hc3]; rfl) | (simp_all [f_count, hc1, hc2, hc3]; done)) dX9_count_79
  by_cases hc4 : x = 3
  · refine k_tableIn (off := 79) (tgt := 80) F dX9_count_1 (by rw [hc4]; decide) (by rw [hc4]; decide) (by rw [hc4]; rfl) (by decide) ?_
    refine k_aload_n (n := 81) F dX9_count_80 rfl 0 rfl rfl ?_
    refine k_get (n := 84) (v := .int (i 2)) F uX9 0 7 rfl rfl (by decide) mw_203 rfl dX9_count_81 rfl ?_
    exact k_iret F (by first | rfl | (simp only [f_count, hc1, hc2, hc3, hc4, if_true, if_false, not_true_eq_false, not_false_eq_true]; done) | (simp only [f_count, hc1, hc2, hc3, hc4, if_true, if_false, not_true_eq_false, not_false_eq_true]; rfl) | (simp [f_count, hc1, hc2, hc3, hc4]; done) | (simp [f_count, hc1, hc2, hc3, hc4]; rfl) | (simp_all [f_count, hc1, hc2, hc3, hc4]; done)) (by first | rfl | (simp only [f_count, hc1, hc2, hc3, hc4, if_true, if_false, not_true_eq_false, not_false_eq_true]; done) | (simp only [f_count, hc1, hc2, hc3, hc4, if_true, if_false, not_true_eq_false, not_false_eq_true]; rfl) | (simp [f_count, hc1, hc2, hc3, hc4]; done) | (simp [f_count, hc1, hc2, hc3, hc4]; rfl) | (simp_all [f_count, hc1, hc2, hc3, hc4]; done)) dX9_count_84
  by_cases hc5 : x = 4
  · refine k_tableIn (off := 84) (tgt := 85) F dX9_count_1 (by rw [hc5]; decide) (by rw [hc5]; decide) (by rw [hc5]; rfl) (by decide) ?_
    refine k_aload_n (n := 86) F dX9_count_85 rfl 0 rfl rfl ?_
    refine k_get (n := 89) (v := .ref ((ad 2))) F uX9 0 1 rfl rfl (by decide) mw_197 rfl dX9_count_86 rfl ?_
    refine k_getN (n := 92) (v := .int (i 6)) F uX4 2 2 rfl rfl (by decide) nw_2 rfl dX9_count_89 rfl ?_
    exact k_iret F (by first | rfl | (simp only [f_count, hc1, hc2, hc3, hc4, hc5, if_true, if_false, not_true_eq_false, not_false_eq_true]; done) | (simp only [f_count, hc1, hc2, hc3, hc4, hc5, if_true, if_false, not_true_eq_false, not_false_eq_true]; rfl) | (simp [f_count, hc1, hc2, hc3, hc4, hc5]; done) | (simp [f_count, hc1, hc2, hc3, hc4, hc5]; rfl) | (simp_all [f_count, hc1, hc2, hc3, hc4, hc5]; done)) (by first | rfl | (simp only [f_count, hc1, hc2, hc3, hc4, hc5, if_true, if_false, not_true_eq_false, not_false_eq_true]; done) | (simp only [f_count, hc1, hc2, hc3, hc4, hc5, if_true, if_false, not_true_eq_false, not_false_eq_true]; rfl) | (simp [f_count, hc1, hc2, hc3, hc4, hc5]; done) | (simp [f_count, hc1, hc2, hc3, hc4, hc5]; rfl) | (simp_all [f_count, hc1, hc2, hc3, hc4, hc5]; done)) dX9_count_92
  by_cases hc6 : x = 5
  · refine k_tableIn (off := 92) (tgt := 93) F dX9_count_1 (by rw [hc6]; decide) (by rw [hc6]; decide) (by rw [hc6]; rfl) (by decide) ?_
    refine k_aload_n (n := 94) F dX9_count_93 rfl 0 rfl rfl ?_
    refine k_get (n := 97) (v := .ref ((ad 10))) F uX9 0 5 rfl rfl (by decide) mw_201 rfl dX9_count_94 rfl ?_
    refine k_getN (n := 100) (v := .int (i 25)) F uX5 10 3 rfl rfl (by decide) nw_23 rfl dX9_count_97 rfl ?_
    exact k_iret F (by first | rfl | (simp only [f_count, hc1, hc2, hc3, hc4, hc5, hc6, if_true, if_false, not_true_eq_false, not_false_eq_true]; done) | (simp only [f_count, hc1, hc2, hc3, hc4, hc5, hc6, if_true, if_false, not_true_eq_false, not_false_eq_true]; rfl) | (simp [f_count, hc1, hc2, hc3, hc4, hc5, hc6]; done) | (simp [f_count, hc1, hc2, hc3, hc4, hc5, hc6]; rfl) | (simp_all [f_count, hc1, hc2, hc3, hc4, hc5, hc6]; done)) (by first | rfl | (simp only [f_count, hc1, hc2, hc3, hc4, hc5, hc6, if_true, if_false, not_true_eq_false, not_false_eq_true]; done) | (simp only [f_count, hc1, hc2, hc3, hc4, hc5, hc6, if_true, if_false, not_true_eq_false, not_false_eq_true]; rfl) | (simp [f_count, hc1, hc2, hc3, hc4, hc5, hc6]; done) | (simp [f_count, hc1, hc2, hc3, hc4, hc5, hc6]; rfl) | (simp_all [f_count, hc1, hc2, hc3, hc4, hc5, hc6]; done)) dX9_count_100
  by_cases hc7 : x = 6
  · refine k_tableIn (off := 100) (tgt := 101) F dX9_count_1 (by rw [hc7]; decide) (by rw [hc7]; decide) (by rw [hc7]; rfl) (by decide) ?_
    refine k_aload_n (n := 102) F dX9_count_101 rfl 0 rfl rfl ?_
    refine k_get (n := 105) (v := .ref ((ad 10))) F uX9 0 5 rfl rfl (by decide) mw_201 rfl dX9_count_102 rfl ?_
    refine k_getN (n := 108) (v := .int (i 29)) F uX5 10 4 rfl rfl (by decide) nw_24 rfl dX9_count_105 rfl ?_
    exact k_iret F (by first | rfl | (simp only [f_count, hc1, hc2, hc3, hc4, hc5, hc6, hc7, if_true, if_false, not_true_eq_false, not_false_eq_true]; done) | (simp only [f_count, hc1, hc2, hc3, hc4, hc5, hc6, hc7, if_true, if_false, not_true_eq_false, not_false_eq_true]; rfl) | (simp [f_count, hc1, hc2, hc3, hc4, hc5, hc6, hc7]; done) | (simp [f_count, hc1, hc2, hc3, hc4, hc5, hc6, hc7]; rfl) | (simp_all [f_count, hc1, hc2, hc3, hc4, hc5, hc6, hc7]; done)) (by first | rfl | (simp only [f_count, hc1, hc2, hc3, hc4, hc5, hc6, hc7, if_true, if_false, not_true_eq_false, not_false_eq_true]; done) | (simp only [f_count, hc1, hc2, hc3, hc4, hc5, hc6, hc7, if_true, if_false, not_true_eq_false, not_false_eq_true]; rfl) | (simp [f_count, hc1, hc2, hc3, hc4, hc5, hc6, hc7]; done) | (simp [f_count, hc1, hc2, hc3, hc4, hc5, hc6, hc7]; rfl) | (simp_all [f_count, hc1, hc2, hc3, hc4, hc5, hc6, hc7]; done)) dX9_count_108
  by_cases hc8 : x = 7
  · refine k_tableIn (off := 108) (tgt := 109) F dX9_count_1 (by rw [hc8]; decide) (by rw [hc8]; decide) (by rw [hc8]; rfl) (by decide) ?_
    refine k_aload_n (n := 110) F dX9_count_109 rfl 0 rfl rfl ?_
    refine k_get (n := 113) (v := .int (i 31)) F uX9 0 11 rfl rfl (by decide) mw_207 rfl dX9_count_110 rfl ?_
    exact k_iret F (by first | rfl | (simp only [f_count, hc1, hc2, hc3, hc4, hc5, hc6, hc7, hc8, if_true, if_false, not_true_eq_false, not_false_eq_true]; done) | (simp only [f_count, hc1, hc2, hc3, hc4, hc5, hc6, hc7, hc8, if_true, if_false, not_true_eq_false, not_false_eq_true]; rfl) | (simp [f_count, hc1, hc2, hc3, hc4, hc5, hc6, hc7, hc8]; done) | (simp [f_count, hc1, hc2, hc3, hc4, hc5, hc6, hc7, hc8]; rfl) | (simp_all [f_count, hc1, hc2, hc3, hc4, hc5, hc6, hc7, hc8]; done)) (by first | rfl | (simp only [f_count, hc1, hc2, hc3, hc4, hc5, hc6, hc7, hc8, if_true, if_false, not_true_eq_false, not_false_eq_true]; done) | (simp only [f_count, hc1, hc2, hc3, hc4, hc5, hc6, hc7, hc8, if_true, if_false, not_true_eq_false, not_false_eq_true]; rfl) | (simp [f_count, hc1, hc2, hc3, hc4, hc5, hc6, hc7, hc8]; done) | (simp [f_count, hc1, hc2, hc3, hc4, hc5, hc6, hc7, hc8]; rfl) | (simp_all [f_count, hc1, hc2, hc3, hc4, hc5, hc6, hc7, hc8]; done)) dX9_count_113
  by_cases hc9 : x = 8
  · refine k_tableIn (off := 113) (tgt := 114) F dX9_count_1 (by rw [hc9]; decide) (by rw [hc9]; decide) (by rw [hc9]; rfl) (by decide) ?_
    refine k_aload_n (n := 115) F dX9_count_114 rfl 0 rfl rfl ?_
    refine k_get (n := 118) (v := .ref ((ad 5))) F uX9 0 2 rfl rfl (by decide) mw_198 rfl dX9_count_115 rfl ?_
    refine k_getN (n := 121) (v := .int (i 32)) F uX3 5 2 rfl rfl (by decide) nw_9 rfl dX9_count_118 rfl ?_
    exact k_iret F (by first | rfl | (simp only [f_count, hc1, hc2, hc3, hc4, hc5, hc6, hc7, hc8, hc9, if_true, if_false, not_true_eq_false, not_false_eq_true]; done) | (simp only [f_count, hc1, hc2, hc3, hc4, hc5, hc6, hc7, hc8, hc9, if_true, if_false, not_true_eq_false, not_false_eq_true]; rfl) | (simp [f_count, hc1, hc2, hc3, hc4, hc5, hc6, hc7, hc8, hc9]; done) | (simp [f_count, hc1, hc2, hc3, hc4, hc5, hc6, hc7, hc8, hc9]; rfl) | (simp_all [f_count, hc1, hc2, hc3, hc4, hc5, hc6, hc7, hc8, hc9]; done)) (by first | rfl | (simp only [f_count, hc1, hc2, hc3, hc4, hc5, hc6, hc7, hc8, hc9, if_true, if_false, not_true_eq_false, not_false_eq_true]; done) | (simp only [f_count, hc1, hc2, hc3, hc4, hc5, hc6, hc7, hc8, hc9, if_true, if_false, not_true_eq_false, not_false_eq_true]; rfl) | (simp [f_count, hc1, hc2, hc3, hc4, hc5, hc6, hc7, hc8, hc9]; done) | (simp [f_count, hc1, hc2, hc3, hc4, hc5, hc6, hc7, hc8, hc9]; rfl) | (simp_all [f_count, hc1, hc2, hc3, hc4, hc5, hc6, hc7, hc8, hc9]; done)) dX9_count_121
  by_cases hc10 : x = 9
  · refine k_tableIn (off := 121) (tgt := 122) F dX9_count_1 (by rw [hc10]; decide) (by rw [hc10]; decide) (by rw [hc10]; rfl) (by decide) ?_
    refine k_aload_n (n := 123) F dX9_count_122 rfl 0 rfl rfl ?_
    refine k_get (n := 126) (v := .ref ((ad 10))) F uX9 0 5 rfl rfl (by decide) mw_201 rfl dX9_count_123 rfl ?_
    refine k_getN (n := 129) (v := .int (i 30)) F uX5 10 5 rfl rfl (by decide) nw_25 rfl dX9_count_126 rfl ?_
    exact k_iret F (by first | rfl | (simp only [f_count, hc1, hc2, hc3, hc4, hc5, hc6, hc7, hc8, hc9, hc10, if_true, if_false, not_true_eq_false, not_false_eq_true]; done) | (simp only [f_count, hc1, hc2, hc3, hc4, hc5, hc6, hc7, hc8, hc9, hc10, if_true, if_false, not_true_eq_false, not_false_eq_true]; rfl) | (simp [f_count, hc1, hc2, hc3, hc4, hc5, hc6, hc7, hc8, hc9, hc10]; done) | (simp [f_count, hc1, hc2, hc3, hc4, hc5, hc6, hc7, hc8, hc9, hc10]; rfl) | (simp_all [f_count, hc1, hc2, hc3, hc4, hc5, hc6, hc7, hc8, hc9, hc10]; done)) (by first | rfl | (simp only [f_count, hc1, hc2, hc3, hc4, hc5, hc6, hc7, hc8, hc9, hc10, if_true, if_false, not_true_eq_false, not_false_eq_true]; done) | (simp only [f_count, hc1, hc2, hc3, hc4, hc5, hc6, hc7, hc8, hc9, hc10, if_true, if_false, not_true_eq_false, not_false_eq_true]; rfl) | (simp [f_count, hc1, hc2, hc3, hc4, hc5, hc6, hc7, hc8, hc9, hc10]; done) | (simp [f_count, hc1, hc2, hc3, hc4, hc5, hc6, hc7, hc8, hc9, hc10]; rfl) | (simp_all [f_count, hc1, hc2, hc3, hc4, hc5, hc6, hc7, hc8, hc9, hc10]; done)) dX9_count_129
  refine k_tableOut (tgt := 130) F dX9_count_1 (by have z0 := lv_neT hc1 (show (0 : Int32).toInt = 0 from rfl); have z1 := lv_neT hc2 (show (1 : Int32).toInt = 1 from rfl); have z2 := lv_neT hc3 (show (2 : Int32).toInt = 2 from rfl); have z3 := lv_neT hc4 (show (3 : Int32).toInt = 3 from rfl); have z4 := lv_neT hc5 (show (4 : Int32).toInt = 4 from rfl); have z5 := lv_neT hc6 (show (5 : Int32).toInt = 5 from rfl); have z6 := lv_neT hc7 (show (6 : Int32).toInt = 6 from rfl); have z7 := lv_neT hc8 (show (7 : Int32).toInt = 7 from rfl); have z8 := lv_neT hc9 (show (8 : Int32).toInt = 8 from rfl); have z9 := lv_neT hc10 (show (9 : Int32).toInt = 9 from rfl); omega) (by decide) ?_
  refine k_iconst (n := 131) (v := -1) F dX9_count_130 rfl rfl ?_
  exact k_iret F (by first | rfl | (simp only [f_count, hc1, hc2, hc3, hc4, hc5, hc6, hc7, hc8, hc9, hc10, if_true, if_false, not_true_eq_false, not_false_eq_true]; done) | (simp only [f_count, hc1, hc2, hc3, hc4, hc5, hc6, hc7, hc8, hc9, hc10, if_true, if_false, not_true_eq_false, not_false_eq_true]; rfl) | (simp [f_count, hc1, hc2, hc3, hc4, hc5, hc6, hc7, hc8, hc9, hc10]; done) | (simp [f_count, hc1, hc2, hc3, hc4, hc5, hc6, hc7, hc8, hc9, hc10]; rfl) | (simp_all [f_count, hc1, hc2, hc3, hc4, hc5, hc6, hc7, hc8, hc9, hc10]; done)) (by first | rfl | (simp only [f_count, hc1, hc2, hc3, hc4, hc5, hc6, hc7, hc8, hc9, hc10, if_true, if_false, not_true_eq_false, not_false_eq_true]; done) | (simp only [f_count, hc1, hc2, hc3, hc4, hc5, hc6, hc7, hc8, hc9, hc10, if_true, if_false, not_true_eq_false, not_false_eq_true]; rfl) | (simp [f_count, hc1, hc2, hc3, hc4, hc5, hc6, hc7, hc8, hc9, hc10]; done) | (simp [f_count, hc1, hc2, hc3, hc4, hc5, hc6, hc7, hc8, hc9, hc10]; rfl) | (simp_all [f_count, hc1, hc2, hc3, hc4, hc5, hc6, hc7, hc8, hc9, hc10]; done)) dX9_count_131
set_option maxRecDepth 100000 in
set_option maxHeartbeats 4000000 in
theorem c_trace (l : Launch) (g : kG) (ad : Nat → Nat) (cf : Nat → Option Nat) (i : Nat → Int32) (l_ : Nat → Int64) (a : Nat → Nat → Int32) (h : Nat → Int64) : kM l yX9_trace cX9_trace 1 (some .long) (rmK 0 0 0 0) g [.ref ((ad 0))] (wC g ad (i, l_, a, h) cf) (kDl g (l_ 1) (wC g ad (i, l_, a, h) cf)) := by
  refine k_enter (by decide) (Nat.le_of_ble_eq_true rfl) ?_
  intro p e s m args below meth c A F
  refine k_aload_n (n := 1) F dX9_trace_0 rfl 0 rfl rfl ?_
  refine k_get (n := 4) (v := .long (l_ 1)) F uX9 0 12 rfl rfl (by decide) mw_208 rfl dX9_trace_1 rfl ?_
  exact k_lret F (by first | rfl | (simp only [kin, if_true, if_false, not_true_eq_false, not_false_eq_true]; done) | (simp only [kin, if_true, if_false, not_true_eq_false, not_false_eq_true]; rfl) | (simp [kin]; done) | (simp [kin]; rfl) | (simp_all [kin]; done)) (by first | rfl | (simp only [kin, if_true, if_false, not_true_eq_false, not_false_eq_true]; done) | (simp only [kin, if_true, if_false, not_true_eq_false, not_false_eq_true]; rfl) | (simp [kin]; done) | (simp [kin]; rfl) | (simp_all [kin]; done)) dX9_trace_4
