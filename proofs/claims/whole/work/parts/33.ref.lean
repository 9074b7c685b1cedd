theorem bsL_w {o1 o2 pr : Int32} : ∀ {j : Nat}, (bsL o1 o2 pr j).2 = bsW o1 o2 pr (bsL o1 o2 pr j).1
  | 0 => by
    show 10 * o1 = (10 - 0) * o1 + 0 * o2 - 0 * pr
    rw [Int32.zero_mul, Int32.zero_mul, Int32.sub_zero, Int32.add_zero, Int32.sub_zero]
  | j + 1 => by
    unfold bsL
    split
    · exact bsL_w
    · rfl
theorem edL_ge {fw fd : Nat → Int32} {nd : Int32} {x : kE} : ∀ {j k : Nat}, j ≤ k → (edL fw fd nd x j).2.1 k = x.2.1 k
  | 0, _, _ => rfl
  | j + 1, k, h => by
    have ih := edL_ge (fw := fw) (fd := fd) (nd := nd) (x := x) (j := j) (k := k) (by omega)
    unfold edL edS
    split
    · show upd _ j _ k = _
      rw [pk_un (by omega)]
      exact ih
    · exact ih
set_option maxRecDepth 100000 in
set_option maxHeartbeats 4000000 in
theorem r_split (l : Launch) (g : kG) (h0 : Nat) (ad : Nat → Nat) (i : Nat → Int32) (l_ : Nat → Int64) (a : Nat → Nat → Int32) (h : Nat → Int64) (x y d pr : Int32) (h2 : 0 ≤ i 2 ∧ i 2 ≤ 6) (hk : ∀ c : Nat, c < (i 2).toNatClampNeg → a 3 c = 0 ∨ a 3 c = 1 ∨ a 3 c = 2) : kM l yX10_split cX10_split 9 (some .int) (rmK 2 0 0 43) g [.ref h0, .int x, .int y, .int d, .int pr] (wR g h0 ad (i, l_, a, h)) (kDi g (f_split (i, l_, a, h) x y d pr) (wR g h0 ad (i, l_, a, h))) := by
  refine k_enter (by decide) (Nat.le_of_ble_eq_true rfl) ?_
  intro p e s m args below meth c A F
  refine k_aload_n (n := 1) F dX10_split_0 rfl 0 rfl rfl ?_
  refine k_iconst (n := 2) (v := 0) F dX10_split_1 rfl rfl ?_
  refine k_rput_0 (n := 5) F dX10_split_2 rfl ?_
  refine k_aload_n (n := 6) F dX10_split_5 rfl 0 rfl rfl ?_
  refine k_iload_n (n := 7) F dX10_split_6 rfl 1 rfl rfl ?_
  refine k_ciR (n := 10) F (k_rV (k := 1) (b := h0) (As := [.int x]) (rest := []) F (r_isCooler l g h0 ad i l_ a h x) [0, 1, 2, 3, 4, 5, 6, 7, 8, 9, 10, 11, 12, 13, 14] rfl rfl 0 rfl rfl mw_701 mw_698 mw_700 mw_s19 mw_9 (by decide) ⟨by decide, by decide⟩ rfl (Nat.le_of_ble_eq_true rfl) ⟨by decide, by decide⟩ dX10_split_7) [0, 1, 2, 3, 4, 5, 6, 7, 8, 9, 10, 11, 12, 13, 14] rfl rfl ?_
  refine k_if_eq (n := 13) (tgt := 42) F dX10_split_10 (by decide) rfl (fun hc1 => ?_) (fun hc1 => ?_)
  · refine k_iconst (n := 43) (v := -1) F dX10_split_42 rfl rfl ?_
    exact k_iret F (by first | (simp only [f_split, hc1, if_true, if_false, not_true_eq_false, not_false_eq_true]; done) | (simp only [f_split, hc1, if_true, if_false, not_true_eq_false, not_false_eq_true, upd, va_up, vp_updL, reduceIte, Nat.reduceEqDiff]; done) | (simp [f_split, hc1]; done) | (simp_all [f_split, hc1]; done)) (by first | (simp only [f_split, hc1, if_true, if_false, not_true_eq_false, not_false_eq_true]; done) | (simp only [f_split, hc1, if_true, if_false, not_true_eq_false, not_false_eq_true, wR, upd, va_up, vp_updL, reduceIte, Nat.reduceEqDiff]; done) | (simp [f_split, hc1, wR, upd, va_up, vp_updL]; done) | (simp_all [f_split, hc1, wR, upd, va_up, vp_updL]; done)) dX10_split_43
  · refine k_aload_n (n := 14) F dX10_split_13 rfl 0 rfl rfl ?_
    refine k_iload_n (n := 15) F dX10_split_14 rfl 2 rfl rfl ?_
    refine k_ciR (n := 18) F (k_rV (k := 1) (b := h0) (As := [.int y]) (rest := []) F (r_isCooler l g h0 ad i l_ a h y) [0, 1, 2, 3, 4, 5, 6, 7, 8, 9, 10, 11, 12, 13, 14] rfl rfl 0 rfl rfl mw_701 mw_698 mw_700 mw_s19 mw_9 (by decide) ⟨by decide, by decide⟩ rfl (Nat.le_of_ble_eq_true rfl) ⟨by decide, by decide⟩ dX10_split_15) [0, 1, 2, 3, 4, 5, 6, 7, 8, 9, 10, 11, 12, 13, 14] rfl rfl ?_
    refine k_if_eq (n := 21) (tgt := 42) F dX10_split_18 (by decide) rfl (fun hc2 => ?_) (fun hc2 => ?_)
    · refine k_iconst (n := 43) (v := -1) F dX10_split_42 rfl rfl ?_
      exact k_iret F (by first | (simp only [f_split, hc1, hc2, if_true, if_false, not_true_eq_false, not_false_eq_true]; done) | (simp only [f_split, hc1, hc2, if_true, if_false, not_true_eq_false, not_false_eq_true, upd, va_up, vp_updL, reduceIte, Nat.reduceEqDiff]; done) | (simp [f_split, hc1, hc2]; done) | (simp_all [f_split, hc1, hc2]; done)) (by first | (simp only [f_split, hc1, hc2, if_true, if_false, not_true_eq_false, not_false_eq_true]; done) | (simp only [f_split, hc1, hc2, if_true, if_false, not_true_eq_false, not_false_eq_true, wR, upd, va_up, vp_updL, reduceIte, Nat.reduceEqDiff]; done) | (simp [f_split, hc1, hc2, wR, upd, va_up, vp_updL]; done) | (simp_all [f_split, hc1, hc2, wR, upd, va_up, vp_updL]; done)) dX10_split_43
    · refine k_iload_n (n := 22) F dX10_split_21 rfl 3 rfl rfl ?_
      refine k_iconst (n := 23) (v := 0) F dX10_split_22 rfl rfl ?_
      refine k_bipush (n := 25) (v := 40) F dX10_split_23 rfl rfl ?_
      refine k_ciR (n := 28) F (k_rS (k := 3) (As := [.int d, .int 0, .int 40]) (rest := []) F (c_in l g d 0 40) [] rfl rfl mw_693 mw_691 mw_692 mw_9 (by decide) ⟨by decide, by decide⟩ rfl (Nat.le_of_ble_eq_true rfl) ⟨by decide, by decide⟩ dX10_split_25) [] rfl rfl ?_
      refine k_if_eq (n := 31) (tgt := 42) F dX10_split_28 (by decide) rfl (fun hc3 => ?_) (fun hc3 => ?_)
      · refine k_iconst (n := 43) (v := -1) F dX10_split_42 rfl rfl ?_
        exact k_iret F (by first | (simp only [f_split, hc1, hc2, hc3, if_true, if_false, not_true_eq_false, not_false_eq_true]; done) | (simp only [f_split, hc1, hc2, hc3, if_true, if_false, not_true_eq_false, not_false_eq_true, upd, va_up, vp_updL, reduceIte, Nat.reduceEqDiff]; done) | (simp [f_split, hc1, hc2, hc3]; done) | (simp_all [f_split, hc1, hc2, hc3]; done)) (by first | (simp only [f_split, hc1, hc2, hc3, if_true, if_false, not_true_eq_false, not_false_eq_true]; done) | (simp only [f_split, hc1, hc2, hc3, if_true, if_false, not_true_eq_false, not_false_eq_true, wR, upd, va_up, vp_updL, reduceIte, Nat.reduceEqDiff]; done) | (simp [f_split, hc1, hc2, hc3, wR, upd, va_up, vp_updL]; done) | (simp_all [f_split, hc1, hc2, hc3, wR, upd, va_up, vp_updL]; done)) dX10_split_43
      · refine k_iload (n := 33) F dX10_split_31 4 rfl rfl ?_
        refine k_iconst (n := 34) (v := 0) F dX10_split_33 rfl rfl ?_
        refine k_bipush (n := 36) (v := 20) F dX10_split_34 rfl rfl ?_
        refine k_ciR (n := 39) F (k_rS (k := 3) (As := [.int pr, .int 0, .int 20]) (rest := []) F (c_in l g pr 0 20) [] rfl rfl mw_693 mw_691 mw_692 mw_9 (by decide) ⟨by decide, by decide⟩ rfl (Nat.le_of_ble_eq_true rfl) ⟨by decide, by decide⟩ dX10_split_36) [] rfl rfl ?_
        refine k_if_ne (n := 42) (tgt := 44) F dX10_split_39 (by decide) rfl (fun hc4 => ?_) (fun hc4 => ?_)
        · refine k_aload_n (n := 45) F dX10_split_44 rfl 0 rfl rfl ?_
          refine k_iload_n (n := 46) F dX10_split_45 rfl 1 rfl rfl ?_
          refine k_iload_n (n := 47) F dX10_split_46 rfl 3 rfl rfl ?_
          refine k_ciR (n := 50) F (k_rV (k := 2) (b := h0) (As := [.int x, .int d]) (rest := []) F (r_coldOf l g h0 ad i l_ a h x d h2 hc1 hc3 hk) [0, 1, 2, 3, 4, 5, 6, 7, 8, 9, 10, 11, 12, 13, 14] rfl rfl 0 rfl rfl mw_707 mw_704 mw_706 mw_s20 mw_9 (by decide) ⟨by decide, by decide⟩ rfl (Nat.le_of_ble_eq_true rfl) ⟨by decide, by decide⟩ dX10_split_47) [0, 1, 2, 3, 4, 5, 6, 7, 8, 9, 10, 11, 12, 13, 14] rfl rfl ?_
          refine k_istore (n := 52) (lv' := [(5, .int (cdC a x.toNatClampNeg d)), (0, .ref h0), (1, .int x), (2, .int y), (3, .int d), (4, .int pr)]) F dX10_split_50 (by decide) rfl rfl ?_
          refine k_aload_n (n := 53) F dX10_split_52 rfl 1 rfl rfl ?_
          refine k_iload_n (n := 54) F dX10_split_53 rfl 3 rfl rfl ?_
          refine k_iload_n (n := 55) F dX10_split_54 rfl 4 rfl rfl ?_
          refine k_ciR (n := 58) F (k_rV (k := 2) (b := h0) (As := [.int y, .int d]) (rest := []) F (r_coldOf l g h0 ad i l_ a h y d h2 hc2 hc3 hk) [0, 1, 2, 3, 4, 5, 6, 7, 8, 9, 10, 11, 12, 13, 14] rfl rfl 0 rfl rfl mw_707 mw_704 mw_706 mw_s20 mw_9 (by decide) ⟨by decide, by decide⟩ rfl (Nat.le_of_ble_eq_true rfl) ⟨by decide, by decide⟩ dX10_split_55) [0, 1, 2, 3, 4, 5, 6, 7, 8, 9, 10, 11, 12, 13, 14] rfl rfl ?_
          refine k_istore (n := 60) (lv' := [(6, .int (cdC a y.toNatClampNeg d)), (5, .int (cdC a x.toNatClampNeg d)), (0, .ref h0), (1, .int x), (2, .int y), (3, .int d), (4, .int pr)]) F dX10_split_58 (by decide) rfl rfl ?_
          refine k_iconst (n := 61) (v := 0) F dX10_split_60 rfl rfl ?_
          refine k_istore (n := 63) (lv' := [(7, .int 0), (6, .int (cdC a y.toNatClampNeg d)), (5, .int (cdC a x.toNatClampNeg d)), (0, .ref h0), (1, .int x), (2, .int y), (3, .int d), (4, .int pr)]) F dX10_split_61 (by decide) rfl rfl ?_
          refine k_iconst (n := 64) (v := 1) F dX10_split_63 rfl rfl ?_
          refine k_istore (n := 66) (lv' := [(8, .int 1), (7, .int 0), (6, .int (cdC a y.toNatClampNeg d)), (5, .int (cdC a x.toNatClampNeg d)), (0, .ref h0), (1, .int x), (2, .int y), (3, .int d), (4, .int pr)]) F dX10_split_64 (by decide) rfl rfl ?_
          have eF : f_split (i, l_, a, h) x y d pr = (bsL (cdC a x.toNatClampNeg d) (cdC a y.toNatClampNeg d) pr 10).1 := by simp only [f_split, hc1, hc2, hc3, hc4, if_true, if_false, not_true_eq_false, not_false_eq_true]
          rw [eF]
          generalize (cdC a x.toNatClampNeg d) = o1
          generalize (cdC a y.toNatClampNeg d) = o2
          have loop : ∀ (k j : Nat), j ≤ 10 → 11 ≤ j + k → KW p l e ((rmK 2 0 0 43)) s m args below meth c (MQ below ((kDi g (bsL o1 o2 pr 10).1 (wR g h0 ad (i, l_, a, h))) A) args s ((rmK 2 0 0 43)).cells ((rmK 2 0 0 43)).slots A) g A 9 (wR g h0 ad (i, l_, a, h)) 0 0 66 [(8, .int (nI (j + 1))), (7, .int ((bsL o1 o2 pr j).1)), (5, .int o1), (6, .int o2), (4, .int pr), (0, .ref h0), (1, .int x), (2, .int y), (3, .int d)] [] := by
            intro k
            induction k with
            | zero =>
              intro j h1 h2_
              exact absurd h2_ (by omega)
            | succ k ih =>
              intro j h1 h2_
              refine k_iload (n := 68) F dX10_split_66 0 rfl rfl ?_
              refine k_bipush (n := 70) (v := 10) F dX10_split_68 rfl rfl ?_
              refine k_icmp_gt (n := 73) (tgt := 126) F dX10_split_70 (by decide) rfl (fun hc101 => ?_) (fun hc101 => ?_)
              · refine k_iload (n := 128) F dX10_split_126 1 rfl rfl ?_
                have hj9 : j = 10 := by have h9 : nI 10 < nI (j + 1) := hc101; rw [nI_ltI (by omega) (by omega)] at h9; omega
                subst hj9
                exact k_iret F rfl rfl dX10_split_128
              · refine k_bipush (n := 75) (v := 10) F dX10_split_73 rfl rfl ?_
                refine k_iload (n := 77) F dX10_split_75 0 rfl rfl ?_
                refine k_isub (n := 78) F dX10_split_77 rfl ?_
                refine k_iload (n := 80) F dX10_split_78 2 rfl rfl ?_
                refine k_imul (n := 81) F dX10_split_80 rfl ?_
                refine k_iload (n := 83) F dX10_split_81 0 rfl rfl ?_
                refine k_iload (n := 85) F dX10_split_83 3 rfl rfl ?_
                refine k_imul (n := 86) F dX10_split_85 rfl ?_
                refine k_iadd (n := 87) F dX10_split_86 rfl ?_
                refine k_iload (n := 89) F dX10_split_87 0 rfl rfl ?_
                refine k_iload (n := 91) F dX10_split_89 4 rfl rfl ?_
                refine k_imul (n := 92) F dX10_split_91 rfl ?_
                refine k_isub (n := 93) F dX10_split_92 rfl ?_
                refine k_bipush (n := 95) (v := 10) F dX10_split_93 rfl rfl ?_
                refine k_iload (n := 97) F dX10_split_95 1 rfl rfl ?_
                refine k_isub (n := 98) F dX10_split_97 rfl ?_
                refine k_iload (n := 100) F dX10_split_98 2 rfl rfl ?_
                refine k_imul (n := 101) F dX10_split_100 rfl ?_
                refine k_iload (n := 103) F dX10_split_101 1 rfl rfl ?_
                refine k_iload (n := 105) F dX10_split_103 3 rfl rfl ?_
                refine k_imul (n := 106) F dX10_split_105 rfl ?_
                refine k_iadd (n := 107) F dX10_split_106 rfl ?_
                refine k_iload (n := 109) F dX10_split_107 1 rfl rfl ?_
                refine k_iload (n := 111) F dX10_split_109 4 rfl rfl ?_
                refine k_imul (n := 112) F dX10_split_111 rfl ?_
                refine k_isub (n := 113) F dX10_split_112 rfl ?_
                refine k_icmp_le (n := 116) (tgt := 120) F dX10_split_113 (by decide) rfl (fun hc102 => ?_) (fun hc102 => ?_)
                · refine k_iinc (n := 123) (j := 0) (v := nI (j + 1 + 1)) (lv' := [(8, .int (nI (j + 1 + 1))), (7, .int ((bsL o1 o2 pr j).1)), (5, .int o1), (6, .int o2), (4, .int pr), (0, .ref h0), (1, .int x), (2, .int y), (3, .int d)]) F dX10_split_120 rfl (nI_1 (j + 1)) (by decide) rfl rfl ?_
                  refine k_goto (tgt := 66) F dX10_split_123 (by decide) ?_
                  have hj9 : j < 10 := by have h8 : ¬ nI 10 < nI (j + 1) := hc101; rw [nI_ltI (by omega) (by omega)] at h8; omega
                  have hb9 : bsW o1 o2 pr (nI (j + 1)) ≤ (bsL o1 o2 pr j).2 := by rw [bsL_w]; exact hc102
                  refine k_lv (lv' := [(8, .int (nI (j + 1 + 1))), (7, .int ((bsL o1 o2 pr j).1)), (5, .int o1), (6, .int o2), (4, .int pr), (0, .ref h0), (1, .int x), (2, .int y), (3, .int d)]) [0, 1, 2, 3, 4, 5, 6, 7, 8] rfl ?_
                  refine k_lvv (lv' := [(8, .int (nI ((j + 1) + 1))), (7, .int ((bsL o1 o2 pr (j + 1)).1)), (5, .int o1), (6, .int o2), (4, .int pr), (0, .ref h0), (1, .int x), (2, .int y), (3, .int d)]) (by simp only [bsL, hb9, if_true, if_false, not_true_eq_false, not_false_eq_true]) ?_
                  exact ih (j + 1) (by omega) (by omega)
                · refine k_iload (n := 118) F dX10_split_116 0 rfl rfl ?_
                  refine k_istore (n := 120) (lv' := [(7, .int (nI (j + 1))), (8, .int (nI (j + 1))), (5, .int o1), (6, .int o2), (4, .int pr), (0, .ref h0), (1, .int x), (2, .int y), (3, .int d)]) F dX10_split_118 (by decide) rfl rfl ?_
                  refine k_iinc (n := 123) (j := 1) (v := nI (j + 1 + 1)) (lv' := [(8, .int (nI (j + 1 + 1))), (7, .int (nI (j + 1))), (5, .int o1), (6, .int o2), (4, .int pr), (0, .ref h0), (1, .int x), (2, .int y), (3, .int d)]) F dX10_split_120 rfl (nI_1 (j + 1)) (by decide) rfl rfl ?_
                  refine k_goto (tgt := 66) F dX10_split_123 (by decide) ?_
                  have hj9 : j < 10 := by have h8 : ¬ nI 10 < nI (j + 1) := hc101; rw [nI_ltI (by omega) (by omega)] at h8; omega
                  have hb9 : ¬ bsW o1 o2 pr (nI (j + 1)) ≤ (bsL o1 o2 pr j).2 := by rw [bsL_w]; exact hc102
                  refine k_lv (lv' := [(8, .int (nI (j + 1 + 1))), (7, .int (nI (j + 1))), (5, .int o1), (6, .int o2), (4, .int pr), (0, .ref h0), (1, .int x), (2, .int y), (3, .int d)]) [0, 1, 2, 3, 4, 5, 6, 7, 8] rfl ?_
                  refine k_lvv (lv' := [(8, .int (nI ((j + 1) + 1))), (7, .int ((bsL o1 o2 pr (j + 1)).1)), (5, .int o1), (6, .int o2), (4, .int pr), (0, .ref h0), (1, .int x), (2, .int y), (3, .int d)]) (by simp only [bsL, hb9, if_true, if_false, not_true_eq_false, not_false_eq_true]) ?_
                  exact ih (j + 1) (by omega) (by omega)
          refine k_lv (lv' := [(8, .int (nI (0 + 1))), (7, .int ((bsL o1 o2 pr 0).1)), (5, .int o1), (6, .int o2), (4, .int pr), (0, .ref h0), (1, .int x), (2, .int y), (3, .int d)]) [0, 1, 3, 2, 8, 4, 5, 6, 7] rfl ?_
          exact loop 11 0 (by omega) (by omega)
        · refine k_iconst (n := 43) (v := -1) F dX10_split_42 rfl rfl ?_
          exact k_iret F (by first | (simp only [f_split, hc1, hc2, hc3, hc4, if_true, if_false, not_true_eq_false, not_false_eq_true]; done) | (simp only [f_split, hc1, hc2, hc3, hc4, if_true, if_false, not_true_eq_false, not_false_eq_true, upd, va_up, vp_updL, reduceIte, Nat.reduceEqDiff]; done) | (simp [f_split, hc1, hc2, hc3, hc4]; done) | (simp_all [f_split, hc1, hc2, hc3, hc4]; done)) (by first | (simp only [f_split, hc1, hc2, hc3, hc4, if_true, if_false, not_true_eq_false, not_false_eq_true]; done) | (simp only [f_split, hc1, hc2, hc3, hc4, if_true, if_false, not_true_eq_false, not_false_eq_true, wR, upd, va_up, vp_updL, reduceIte, Nat.reduceEqDiff]; done) | (simp [f_split, hc1, hc2, hc3, hc4, wR, upd, va_up, vp_updL]; done) | (simp_all [f_split, hc1, hc2, hc3, hc4, wR, upd, va_up, vp_updL]; done)) dX10_split_43
set_option maxRecDepth 100000 in
set_option maxHeartbeats 4000000 in
theorem r_deliver (l : Launch) (g : kG) (h0 : Nat) (ad : Nat → Nat) (i : Nat → Int32) (l_ : Nat → Int64) (a : Nat → Nat → Int32) (h : Nat → Int64) (no : Nat) (ho : i 25 = nI no) (hn8 : no ≤ 8) (hd10 : i 29 ≤ 10) (hb : ∀ j : Nat, j < no → a 27 j = i 29 → a 28 j = 0) : kM l yX10_deliver cX10_deliver 3 (some .int) (rmK 0 0 0 0) g [.ref h0] (wR g h0 ad (i, l_, a, h)) (kDi g (f_deliver (i, l_, a, h)).1 (wR g h0 ad (f_deliver (i, l_, a, h)).2)) := by
  have hcl : (i 25).toNatClampNeg = no := by rw [ho]; exact nI_clamp (by omega)
  refine k_enter (by decide) (Nat.le_of_ble_eq_true rfl) ?_
  intro p e s m args below meth c A F
  refine k_aload_n (n := 1) F dX10_deliver_0 rfl 0 rfl rfl ?_
  refine k_iconst (n := 2) (v := 0) F dX10_deliver_1 rfl rfl ?_
  refine k_rput_0 (n := 5) F dX10_deliver_2 rfl ?_
  refine k_aload_n (n := 6) F dX10_deliver_5 rfl 0 rfl rfl ?_
  refine k_rget_29 (n := 9) (v := i 29) F rfl dX10_deliver_6 rfl ?_
  refine k_bipush (n := 11) (v := 10) F dX10_deliver_9 rfl rfl ?_
  refine k_icmp_ne (n := 14) (tgt := 17) F dX10_deliver_11 (by decide) rfl (fun hc1 => ?_) (fun hc1 => ?_)
  · refine k_iconst (n := 18) (v := 0) F dX10_deliver_17 rfl rfl ?_
    refine k_istore_n (n := 19) (lv' := [(1, .int 0), (0, .ref h0)]) F dX10_deliver_18 rfl (by decide) rfl rfl ?_
    refine k_iconst (n := 20) (v := 0) F dX10_deliver_19 rfl rfl ?_
    refine k_istore_n (n := 21) (lv' := [(2, .int 0), (1, .int 0), (0, .ref h0)]) F dX10_deliver_20 rfl (by decide) rfl rfl ?_
    have eF : f_deliver (i, l_, a, h) = ((edL (a 26) (a 27) (i 29) (0, a 28, i 30, i 17, l_ 20) no).1, (upd (upd (upd i 29 (i 29 + 1)) 30 (edL (a 26) (a 27) (i 29) (0, a 28, i 30, i 17, l_ 20) no).2.2.1) 17 (edL (a 26) (a 27) (i 29) (0, a 28, i 30, i 17, l_ 20) no).2.2.2.1, vp_updL l_ 20 (edL (a 26) (a 27) (i 29) (0, a 28, i 30, i 17, l_ 20) no).2.2.2.2, va_up a 28 (edL (a 26) (a 27) (i 29) (0, a 28, i 30, i 17, l_ 20) no).2.1, h)) := by unfold f_deliver dlE; rw [if_pos (show i 29 < 10 from Int32.lt_of_le_of_ne hd10 hc1), hcl]
    have loop : ∀ (k j : Nat), j ≤ no → no + 1 ≤ j + k → KW p l e ((rmK 0 0 0 0)) s m args below meth c (MQ below ((kDi g (f_deliver (i, l_, a, h)).1 (wR g h0 ad (f_deliver (i, l_, a, h)).2)) A) args s ((rmK 0 0 0 0)).cells ((rmK 0 0 0 0)).slots A) g A 3 (wR g h0 ad (upd (upd i 17 ((edL (a 26) (a 27) (i 29) (0, a 28, i 30, i 17, l_ 20) j).2.2.2.1)) 30 ((edL (a 26) (a 27) (i 29) (0, a 28, i 30, i 17, l_ 20) j).2.2.1), vp_updL l_ 20 ((edL (a 26) (a 27) (i 29) (0, a 28, i 30, i 17, l_ 20) j).2.2.2.2), va_up a 28 ((edL (a 26) (a 27) (i 29) (0, a 28, i 30, i 17, l_ 20) j).2.1), h)) 0 0 21 [(2, .int (nI j)), (1, .int ((edL (a 26) (a 27) (i 29) (0, a 28, i 30, i 17, l_ 20) j).1)), (0, .ref h0)] [] := by
      intro k
      induction k with
      | zero =>
        intro j h1 h2_
        exact absurd h2_ (by omega)
      | succ k ih =>
        intro j h1 h2_
        refine k_iload_n (n := 22) F dX10_deliver_21 rfl 0 rfl rfl ?_
        refine k_aload_n (n := 23) F dX10_deliver_22 rfl 2 rfl rfl ?_
        refine k_rget_25 (n := 26) (v := i 25) F (show (upd (upd i 17 ((edL (a 26) (a 27) (i 29) (0, a 28, i 30, i 17, l_ 20) j).2.2.2.1)) 30 ((edL (a 26) (a 27) (i 29) (0, a 28, i 30, i 17, l_ 20) j).2.2.1)) 25 = i 25 from (pk_un (k := 30) (j := 25) (by decide)).trans (pk_un (k := 17) (j := 25) (by decide))) dX10_deliver_23 rfl ?_
        refine k_icmp_ge (n := 29) (tgt := 131) F dX10_deliver_26 (by decide) rfl (fun hc101 => ?_) (fun hc101 => ?_)
        · refine k_aload_n (n := 132) F dX10_deliver_131 rfl 2 rfl rfl ?_
          refine k_dup (n := 133) F dX10_deliver_132 rfl rfl ?_
          refine k_rget_29 (n := 136) (v := i 29) F (show (upd (upd i 17 ((edL (a 26) (a 27) (i 29) (0, a 28, i 30, i 17, l_ 20) j).2.2.2.1)) 30 ((edL (a 26) (a 27) (i 29) (0, a 28, i 30, i 17, l_ 20) j).2.2.1)) 29 = i 29 from (pk_un (k := 30) (j := 29) (by decide)).trans (pk_un (k := 17) (j := 29) (by decide))) dX10_deliver_133 rfl ?_
          refine k_iconst (n := 137) (v := 1) F dX10_deliver_136 rfl rfl ?_
          refine k_iadd (n := 138) F dX10_deliver_137 rfl ?_
          refine k_rput_29 (n := 141) (u' := (upd (upd (upd i 17 ((edL (a 26) (a 27) (i 29) (0, a 28, i 30, i 17, l_ 20) j).2.2.2.1)) 30 ((edL (a 26) (a 27) (i 29) (0, a 28, i 30, i 17, l_ 20) j).2.2.1)) 29 ((i 29) + 1), vp_updL l_ 20 ((edL (a 26) (a 27) (i 29) (0, a 28, i 30, i 17, l_ 20) j).2.2.2.2), va_up a 28 ((edL (a 26) (a 27) (i 29) (0, a 28, i 30, i 17, l_ 20) j).2.1), h)) F rfl dX10_deliver_138 rfl ?_
          refine k_iload_n (n := 142) F dX10_deliver_141 rfl 1 rfl rfl ?_
          have hj9 : j = no := by have h9 := hc101; rw [ho, nI_leI (by omega) (by omega)] at h9; omega
          subst hj9
          exact k_iret F (by rw [eF]) (by rw [eF]; simp only [wR, upd, va_up, vp_updL, reduceIte, Nat.reduceEqDiff]) dX10_deliver_142
        · refine k_aload_n (n := 30) F dX10_deliver_29 rfl 2 rfl rfl ?_
          refine k_rget_27 (n := 33) F dX10_deliver_30 rfl ?_
          refine k_iload_n (n := 34) F dX10_deliver_33 rfl 0 rfl rfl ?_
          refine k_rald_27 (n := 35) (N := j) (f := a 27) F (show (va_up a 28 ((edL (a 26) (a 27) (i 29) (0, a 28, i 30, i 17, l_ 20) j).2.1)) 27 = a 27 from va_up_ne _ (k := 28) (j := 27) _ (by decide)) (kIx_nI (Nat.lt_of_lt_of_le (show j < no from (by have h9 := hc101; rw [ho, nI_leI (by omega) (by omega)] at h9; omega)) hn8) (by decide)) dX10_deliver_34 rfl ?_
          refine k_aload_n (n := 36) F dX10_deliver_35 rfl 2 rfl rfl ?_
          refine k_rget_29 (n := 39) (v := i 29) F (show (upd (upd i 17 ((edL (a 26) (a 27) (i 29) (0, a 28, i 30, i 17, l_ 20) j).2.2.2.1)) 30 ((edL (a 26) (a 27) (i 29) (0, a 28, i 30, i 17, l_ 20) j).2.2.1)) 29 = i 29 from (pk_un (k := 30) (j := 29) (by decide)).trans (pk_un (k := 17) (j := 29) (by decide))) dX10_deliver_36 rfl ?_
          refine k_icmp_ne (n := 42) (tgt := 125) F dX10_deliver_39 (by decide) rfl (fun hc102 => ?_) (fun hc102 => ?_)
          · refine k_iinc (n := 128) (j := 0) (v := nI (j + 1)) (lv' := [(2, .int (nI (j + 1))), (1, .int ((edL (a 26) (a 27) (i 29) (0, a 28, i 30, i 17, l_ 20) j).1)), (0, .ref h0)]) F dX10_deliver_125 rfl (nI_1 j) (by decide) rfl rfl ?_
            refine k_goto (tgt := 21) F dX10_deliver_128 (by decide) ?_
            have hj9 : j < no := by have h9 := hc101; rw [ho, nI_leI (by omega) (by omega)] at h9; omega
            refine k_lv (lv' := [(2, .int (nI (j + 1))), (1, .int ((edL (a 26) (a 27) (i 29) (0, a 28, i 30, i 17, l_ 20) j).1)), (0, .ref h0)]) [0, 1, 2] rfl ?_
            refine k_lvv (lv' := [(2, .int (nI (j + 1))), (1, .int ((edL (a 26) (a 27) (i 29) (0, a 28, i 30, i 17, l_ 20) (j + 1)).1)), (0, .ref h0)]) (by simp only [edL, edS, hc102, if_true, if_false, not_true_eq_false, not_false_eq_true, Int32.add_zero]) ?_
            refine k_world (ws' := wR g h0 ad (upd (upd i 17 ((edL (a 26) (a 27) (i 29) (0, a 28, i 30, i 17, l_ 20) (j + 1)).2.2.2.1)) 30 ((edL (a 26) (a 27) (i 29) (0, a 28, i 30, i 17, l_ 20) (j + 1)).2.2.1), vp_updL l_ 20 ((edL (a 26) (a 27) (i 29) (0, a 28, i 30, i 17, l_ 20) (j + 1)).2.2.2.2), va_up a 28 ((edL (a 26) (a 27) (i 29) (0, a 28, i 30, i 17, l_ 20) (j + 1)).2.1), h)) (by simp only [edL, edS, hc102, if_true, if_false, not_true_eq_false, not_false_eq_true, wR, upd, va_up, vp_updL, reduceIte, Nat.reduceEqDiff]) ?_
            exact ih (j + 1) (by omega) (by omega)
          · refine k_aload_n (n := 43) F dX10_deliver_42 rfl 2 rfl rfl ?_
            refine k_rget_28 (n := 46) F dX10_deliver_43 rfl ?_
            refine k_iload_n (n := 47) F dX10_deliver_46 rfl 0 rfl rfl ?_
            refine k_rald_28 (n := 48) (N := j) (f := (edL (a 26) (a 27) (i 29) (0, a 28, i 30, i 17, l_ 20) j).2.1) F (show (va_up a 28 ((edL (a 26) (a 27) (i 29) (0, a 28, i 30, i 17, l_ 20) j).2.1)) 28 = (edL (a 26) (a 27) (i 29) (0, a 28, i 30, i 17, l_ 20) j).2.1 from va_up_self _ _ _) (kIx_nI (Nat.lt_of_lt_of_le (show j < no from (by have h9 := hc101; rw [ho, nI_leI (by omega) (by omega)] at h9; omega)) hn8) (by decide)) dX10_deliver_47 rfl ?_
            refine k_if_ne (n := 51) (tgt := 125) F dX10_deliver_48 (by decide) rfl (fun hc103 => ?_) (fun hc103 => ?_)
            · refine k_iinc (n := 128) (j := 0) (v := nI (j + 1)) (lv' := [(2, .int (nI (j + 1))), (1, .int ((edL (a 26) (a 27) (i 29) (0, a 28, i 30, i 17, l_ 20) j).1)), (0, .ref h0)]) F dX10_deliver_125 rfl (nI_1 j) (by decide) rfl rfl ?_
              refine k_goto (tgt := 21) F dX10_deliver_128 (by decide) ?_
              have hj9 : j < no := by have h9 := hc101; rw [ho, nI_leI (by omega) (by omega)] at h9; omega
              exact absurd (by rw [edL_ge (Nat.le_refl j)]; exact hb j hj9 hc102) hc103
            · refine k_aload_n (n := 52) F dX10_deliver_51 rfl 2 rfl rfl ?_
              refine k_rget_17 (n := 55) (v := (edL (a 26) (a 27) (i 29) (0, a 28, i 30, i 17, l_ 20) j).2.2.2.1) F (show (upd (upd i 17 ((edL (a 26) (a 27) (i 29) (0, a 28, i 30, i 17, l_ 20) j).2.2.2.1)) 30 ((edL (a 26) (a 27) (i 29) (0, a 28, i 30, i 17, l_ 20) j).2.2.1)) 17 = (edL (a 26) (a 27) (i 29) (0, a 28, i 30, i 17, l_ 20) j).2.2.2.1 from (pk_un (k := 30) (j := 17) (by decide)).trans (pk_us)) dX10_deliver_52 rfl ?_
              refine k_aload_n (n := 56) F dX10_deliver_55 rfl 2 rfl rfl ?_
              refine k_rget_26 (n := 59) F dX10_deliver_56 rfl ?_
              refine k_iload_n (n := 60) F dX10_deliver_59 rfl 0 rfl rfl ?_
              refine k_rald_26 (n := 61) (N := j) (f := a 26) F (show (va_up a 28 ((edL (a 26) (a 27) (i 29) (0, a 28, i 30, i 17, l_ 20) j).2.1)) 26 = a 26 from va_up_ne _ (k := 28) (j := 26) _ (by decide)) (kIx_nI (Nat.lt_of_lt_of_le (show j < no from (by have h9 := hc101; rw [ho, nI_leI (by omega) (by omega)] at h9; omega)) hn8) (by decide)) dX10_deliver_60 rfl ?_
              refine k_icmp_lt (n := 64) (tgt := 108) F dX10_deliver_61 (by decide) rfl (fun hc104 => ?_) (fun hc104 => ?_)
              · refine k_aload_n (n := 109) F dX10_deliver_108 rfl 2 rfl rfl ?_
                refine k_rget_28 (n := 112) F dX10_deliver_109 rfl ?_
                refine k_iload_n (n := 113) F dX10_deliver_112 rfl 0 rfl rfl ?_
                refine k_iconst (n := 114) (v := 2) F dX10_deliver_113 rfl rfl ?_
                refine k_rast_28 (n := 115) (N := j) (f := (edL (a 26) (a 27) (i 29) (0, a 28, i 30, i 17, l_ 20) j).2.1) (u' := (upd (upd i 17 ((edL (a 26) (a 27) (i 29) (0, a 28, i 30, i 17, l_ 20) j).2.2.2.1)) 30 ((edL (a 26) (a 27) (i 29) (0, a 28, i 30, i 17, l_ 20) j).2.2.1), vp_updL l_ 20 ((edL (a 26) (a 27) (i 29) (0, a 28, i 30, i 17, l_ 20) j).2.2.2.2), va_up (va_up a 28 ((edL (a 26) (a 27) (i 29) (0, a 28, i 30, i 17, l_ 20) j).2.1)) 28 (upd ((edL (a 26) (a 27) (i 29) (0, a 28, i 30, i 17, l_ 20) j).2.1) j 2), h)) F (show (va_up a 28 ((edL (a 26) (a 27) (i 29) (0, a 28, i 30, i 17, l_ 20) j).2.1)) 28 = (edL (a 26) (a 27) (i 29) (0, a 28, i 30, i 17, l_ 20) j).2.1 from va_up_self _ _ _) (kIx_nI (Nat.lt_of_lt_of_le (show j < no from (by have h9 := hc101; rw [ho, nI_leI (by omega) (by omega)] at h9; omega)) hn8) (by decide)) rfl dX10_deliver_114 rfl ?_
                refine k_aload_n (n := 116) F dX10_deliver_115 rfl 2 rfl rfl ?_
                refine k_dup (n := 117) F dX10_deliver_116 rfl rfl ?_
                refine k_rget_30 (n := 120) (v := (edL (a 26) (a 27) (i 29) (0, a 28, i 30, i 17, l_ 20) j).2.2.1) F (show (upd (upd i 17 ((edL (a 26) (a 27) (i 29) (0, a 28, i 30, i 17, l_ 20) j).2.2.2.1)) 30 ((edL (a 26) (a 27) (i 29) (0, a 28, i 30, i 17, l_ 20) j).2.2.1)) 30 = (edL (a 26) (a 27) (i 29) (0, a 28, i 30, i 17, l_ 20) j).2.2.1 from pk_us) dX10_deliver_117 rfl ?_
                refine k_iconst (n := 121) (v := 1) F dX10_deliver_120 rfl rfl ?_
                refine k_iadd (n := 122) F dX10_deliver_121 rfl ?_
                refine k_rput_30 (n := 125) (u' := (upd (upd (upd i 17 ((edL (a 26) (a 27) (i 29) (0, a 28, i 30, i 17, l_ 20) j).2.2.2.1)) 30 ((edL (a 26) (a 27) (i 29) (0, a 28, i 30, i 17, l_ 20) j).2.2.1)) 30 (((edL (a 26) (a 27) (i 29) (0, a 28, i 30, i 17, l_ 20) j).2.2.1) + 1), vp_updL l_ 20 ((edL (a 26) (a 27) (i 29) (0, a 28, i 30, i 17, l_ 20) j).2.2.2.2), va_up (va_up a 28 ((edL (a 26) (a 27) (i 29) (0, a 28, i 30, i 17, l_ 20) j).2.1)) 28 (upd ((edL (a 26) (a 27) (i 29) (0, a 28, i 30, i 17, l_ 20) j).2.1) j 2), h)) F rfl dX10_deliver_122 rfl ?_
                refine k_iinc (n := 128) (j := 0) (v := nI (j + 1)) (lv' := [(2, .int (nI (j + 1))), (1, .int ((edL (a 26) (a 27) (i 29) (0, a 28, i 30, i 17, l_ 20) j).1)), (0, .ref h0)]) F dX10_deliver_125 rfl (nI_1 j) (by decide) rfl rfl ?_
                refine k_goto (tgt := 21) F dX10_deliver_128 (by decide) ?_
                have hj9 : j < no := by have h9 := hc101; rw [ho, nI_leI (by omega) (by omega)] at h9; omega
                refine k_lv (lv' := [(2, .int (nI (j + 1))), (1, .int ((edL (a 26) (a 27) (i 29) (0, a 28, i 30, i 17, l_ 20) j).1)), (0, .ref h0)]) [0, 1, 2] rfl ?_
                refine k_lvv (lv' := [(2, .int (nI (j + 1))), (1, .int ((edL (a 26) (a 27) (i 29) (0, a 28, i 30, i 17, l_ 20) (j + 1)).1)), (0, .ref h0)]) (by simp only [edL, edS, hc102, hc104, Int32.not_le.mpr hc104, if_true, if_false, not_true_eq_false, not_false_eq_true, Int32.add_zero]) ?_
                refine k_world (ws' := wR g h0 ad (upd (upd i 17 ((edL (a 26) (a 27) (i 29) (0, a 28, i 30, i 17, l_ 20) (j + 1)).2.2.2.1)) 30 ((edL (a 26) (a 27) (i 29) (0, a 28, i 30, i 17, l_ 20) (j + 1)).2.2.1), vp_updL l_ 20 ((edL (a 26) (a 27) (i 29) (0, a 28, i 30, i 17, l_ 20) (j + 1)).2.2.2.2), va_up a 28 ((edL (a 26) (a 27) (i 29) (0, a 28, i 30, i 17, l_ 20) (j + 1)).2.1), h)) (by simp only [edL, edS, hc102, hc104, Int32.not_le.mpr hc104, if_true, if_false, not_true_eq_false, not_false_eq_true, wR, upd, va_up, vp_updL, reduceIte, Nat.reduceEqDiff]) ?_
                exact ih (j + 1) (by omega) (by omega)
              · refine k_aload_n (n := 65) F dX10_deliver_64 rfl 2 rfl rfl ?_
                refine k_dup (n := 66) F dX10_deliver_65 rfl rfl ?_
                refine k_rget_17 (n := 69) (v := (edL (a 26) (a 27) (i 29) (0, a 28, i 30, i 17, l_ 20) j).2.2.2.1) F (show (upd (upd i 17 ((edL (a 26) (a 27) (i 29) (0, a 28, i 30, i 17, l_ 20) j).2.2.2.1)) 30 ((edL (a 26) (a 27) (i 29) (0, a 28, i 30, i 17, l_ 20) j).2.2.1)) 17 = (edL (a 26) (a 27) (i 29) (0, a 28, i 30, i 17, l_ 20) j).2.2.2.1 from (pk_un (k := 30) (j := 17) (by decide)).trans (pk_us)) dX10_deliver_66 rfl ?_
                refine k_aload_n (n := 70) F dX10_deliver_69 rfl 2 rfl rfl ?_
                refine k_rget_26 (n := 73) F dX10_deliver_70 rfl ?_
                refine k_iload_n (n := 74) F dX10_deliver_73 rfl 0 rfl rfl ?_
                refine k_rald_26 (n := 75) (N := j) (f := a 26) F (show (va_up a 28 ((edL (a 26) (a 27) (i 29) (0, a 28, i 30, i 17, l_ 20) j).2.1)) 26 = a 26 from va_up_ne _ (k := 28) (j := 26) _ (by decide)) (kIx_nI (Nat.lt_of_lt_of_le (show j < no from (by have h9 := hc101; rw [ho, nI_leI (by omega) (by omega)] at h9; omega)) hn8) (by decide)) dX10_deliver_74 rfl ?_
                refine k_isub (n := 76) F dX10_deliver_75 rfl ?_
                refine k_rput_17 (n := 79) (u' := (upd (upd (upd i 17 ((edL (a 26) (a 27) (i 29) (0, a 28, i 30, i 17, l_ 20) j).2.2.2.1)) 30 ((edL (a 26) (a 27) (i 29) (0, a 28, i 30, i 17, l_ 20) j).2.2.1)) 17 (((edL (a 26) (a 27) (i 29) (0, a 28, i 30, i 17, l_ 20) j).2.2.2.1) - ((a 26) j)), vp_updL l_ 20 ((edL (a 26) (a 27) (i 29) (0, a 28, i 30, i 17, l_ 20) j).2.2.2.2), va_up a 28 ((edL (a 26) (a 27) (i 29) (0, a 28, i 30, i 17, l_ 20) j).2.1), h)) F rfl dX10_deliver_76 rfl ?_
                refine k_aload_n (n := 80) F dX10_deliver_79 rfl 2 rfl rfl ?_
                refine k_dup (n := 81) F dX10_deliver_80 rfl rfl ?_
                refine k_rget_20 (n := 84) (v := (edL (a 26) (a 27) (i 29) (0, a 28, i 30, i 17, l_ 20) j).2.2.2.2) F (show (vp_updL l_ 20 ((edL (a 26) (a 27) (i 29) (0, a 28, i 30, i 17, l_ 20) j).2.2.2.2)) 20 = (edL (a 26) (a 27) (i 29) (0, a 28, i 30, i 17, l_ 20) j).2.2.2.2 from pk_uLs) dX10_deliver_81 rfl ?_
                refine k_aload_n (n := 85) F dX10_deliver_84 rfl 2 rfl rfl ?_
                refine k_rget_26 (n := 88) F dX10_deliver_85 rfl ?_
                refine k_iload_n (n := 89) F dX10_deliver_88 rfl 0 rfl rfl ?_
                refine k_rald_26 (n := 90) (N := j) (f := a 26) F (show (va_up a 28 ((edL (a 26) (a 27) (i 29) (0, a 28, i 30, i 17, l_ 20) j).2.1)) 26 = a 26 from va_up_ne _ (k := 28) (j := 26) _ (by decide)) (kIx_nI (Nat.lt_of_lt_of_le (show j < no from (by have h9 := hc101; rw [ho, nI_leI (by omega) (by omega)] at h9; omega)) hn8) (by decide)) dX10_deliver_89 rfl ?_
                refine k_i2l (n := 91) F dX10_deliver_90 rfl ?_
                refine k_ladd (n := 92) F dX10_deliver_91 rfl ?_
                refine k_rput_20 (n := 95) (u' := (upd (upd (upd i 17 ((edL (a 26) (a 27) (i 29) (0, a 28, i 30, i 17, l_ 20) j).2.2.2.1)) 30 ((edL (a 26) (a 27) (i 29) (0, a 28, i 30, i 17, l_ 20) j).2.2.1)) 17 (((edL (a 26) (a 27) (i 29) (0, a 28, i 30, i 17, l_ 20) j).2.2.2.1) - ((a 26) j)), vp_updL (vp_updL l_ 20 ((edL (a 26) (a 27) (i 29) (0, a 28, i 30, i 17, l_ 20) j).2.2.2.2)) 20 (((edL (a 26) (a 27) (i 29) (0, a 28, i 30, i 17, l_ 20) j).2.2.2.2) + (((a 26) j).toInt64)), va_up a 28 ((edL (a 26) (a 27) (i 29) (0, a 28, i 30, i 17, l_ 20) j).2.1), h)) F rfl dX10_deliver_92 rfl ?_
                refine k_aload_n (n := 96) F dX10_deliver_95 rfl 2 rfl rfl ?_
                refine k_rget_28 (n := 99) F dX10_deliver_96 rfl ?_
                refine k_iload_n (n := 100) F dX10_deliver_99 rfl 0 rfl rfl ?_
                refine k_iconst (n := 101) (v := 1) F dX10_deliver_100 rfl rfl ?_
                refine k_rast_28 (n := 102) (N := j) (f := (edL (a 26) (a 27) (i 29) (0, a 28, i 30, i 17, l_ 20) j).2.1) (u' := (upd (upd (upd i 17 ((edL (a 26) (a 27) (i 29) (0, a 28, i 30, i 17, l_ 20) j).2.2.2.1)) 30 ((edL (a 26) (a 27) (i 29) (0, a 28, i 30, i 17, l_ 20) j).2.2.1)) 17 (((edL (a 26) (a 27) (i 29) (0, a 28, i 30, i 17, l_ 20) j).2.2.2.1) - ((a 26) j)), vp_updL (vp_updL l_ 20 ((edL (a 26) (a 27) (i 29) (0, a 28, i 30, i 17, l_ 20) j).2.2.2.2)) 20 (((edL (a 26) (a 27) (i 29) (0, a 28, i 30, i 17, l_ 20) j).2.2.2.2) + (((a 26) j).toInt64)), va_up (va_up a 28 ((edL (a 26) (a 27) (i 29) (0, a 28, i 30, i 17, l_ 20) j).2.1)) 28 (upd ((edL (a 26) (a 27) (i 29) (0, a 28, i 30, i 17, l_ 20) j).2.1) j 1), h)) F (show (va_up a 28 ((edL (a 26) (a 27) (i 29) (0, a 28, i 30, i 17, l_ 20) j).2.1)) 28 = (edL (a 26) (a 27) (i 29) (0, a 28, i 30, i 17, l_ 20) j).2.1 from va_up_self _ _ _) (kIx_nI (Nat.lt_of_lt_of_le (show j < no from (by have h9 := hc101; rw [ho, nI_leI (by omega) (by omega)] at h9; omega)) hn8) (by decide)) rfl dX10_deliver_101 rfl ?_
                refine k_iinc (n := 105) (j := 1) (v := ((edL (a 26) (a 27) (i 29) (0, a 28, i 30, i 17, l_ 20) j).1) + 1) (lv' := [(1, .int (((edL (a 26) (a 27) (i 29) (0, a 28, i 30, i 17, l_ 20) j).1) + 1)), (2, .int (nI j)), (0, .ref h0)]) F dX10_deliver_102 rfl rfl (by decide) rfl rfl ?_
                refine k_goto (tgt := 125) F dX10_deliver_105 (by decide) ?_
                refine k_iinc (n := 128) (j := 1) (v := nI (j + 1)) (lv' := [(2, .int (nI (j + 1))), (1, .int (((edL (a 26) (a 27) (i 29) (0, a 28, i 30, i 17, l_ 20) j).1) + 1)), (0, .ref h0)]) F dX10_deliver_125 rfl (nI_1 j) (by decide) rfl rfl ?_
                refine k_goto (tgt := 21) F dX10_deliver_128 (by decide) ?_
                have hj9 : j < no := by have h9 := hc101; rw [ho, nI_leI (by omega) (by omega)] at h9; omega
                refine k_lv (lv' := [(2, .int (nI (j + 1))), (1, .int (((edL (a 26) (a 27) (i 29) (0, a 28, i 30, i 17, l_ 20) j).1) + 1)), (0, .ref h0)]) [0, 1, 2] rfl ?_
                refine k_lvv (lv' := [(2, .int (nI (j + 1))), (1, .int ((edL (a 26) (a 27) (i 29) (0, a 28, i 30, i 17, l_ 20) (j + 1)).1)), (0, .ref h0)]) (by simp only [edL, edS, hc102, hc104, Int32.not_lt.mp hc104, if_true, if_false, not_true_eq_false, not_false_eq_true, Int32.add_zero]) ?_
                refine k_world (ws' := wR g h0 ad (upd (upd i 17 ((edL (a 26) (a 27) (i 29) (0, a 28, i 30, i 17, l_ 20) (j + 1)).2.2.2.1)) 30 ((edL (a 26) (a 27) (i 29) (0, a 28, i 30, i 17, l_ 20) (j + 1)).2.2.1), vp_updL l_ 20 ((edL (a 26) (a 27) (i 29) (0, a 28, i 30, i 17, l_ 20) (j + 1)).2.2.2.2), va_up a 28 ((edL (a 26) (a 27) (i 29) (0, a 28, i 30, i 17, l_ 20) (j + 1)).2.1), h)) (by simp only [edL, edS, hc102, hc104, Int32.not_lt.mp hc104, if_true, if_false, not_true_eq_false, not_false_eq_true, wR, upd, va_up, vp_updL, reduceIte, Nat.reduceEqDiff]) ?_
                exact ih (j + 1) (by omega) (by omega)
    refine k_lv (lv' := [(2, .int (nI 0)), (1, .int ((edL (a 26) (a 27) (i 29) (0, a 28, i 30, i 17, l_ 20) 0).1)), (0, .ref h0)]) [0, 1, 2] rfl ?_
    refine k_world (ws' := wR g h0 ad (upd (upd i 17 ((edL (a 26) (a 27) (i 29) (0, a 28, i 30, i 17, l_ 20) 0).2.2.2.1)) 30 ((edL (a 26) (a 27) (i 29) (0, a 28, i 30, i 17, l_ 20) 0).2.2.1), vp_updL l_ 20 ((edL (a 26) (a 27) (i 29) (0, a 28, i 30, i 17, l_ 20) 0).2.2.2.2), va_up a 28 ((edL (a 26) (a 27) (i 29) (0, a 28, i 30, i 17, l_ 20) 0).2.1), h)) (by simp only [edL, wR, upd, va_up, vp_updL, reduceIte, Nat.reduceEqDiff]) ?_
    exact loop (no + 1) 0 (by omega) (by omega)
  · refine k_bipush (n := 16) (v := -2) F dX10_deliver_14 rfl rfl ?_
    have eF : f_deliver (i, l_, a, h) = (-2, (i, l_, a, h)) := by unfold f_deliver; rw [if_neg (show ¬ i 29 < 10 by rw [hc1]; decide)]
    exact k_iret F (by rw [eF]) (by rw [eF]) dX10_deliver_16
