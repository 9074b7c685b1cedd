theorem i64a (a b c : Int64) : a + b + c - a = b + c := by
  first
  | grind
  | (rw [Int64.add_assoc, Int64.add_comm a (b + c), Int64.add_sub_cancel])
theorem i64b (a b c : Int64) : a + b + c - b = a + c := by
  first
  | grind
  | (rw [Int64.add_assoc, Int64.add_comm b c, ← Int64.add_assoc, Int64.add_sub_cancel])
theorem f_bal_0 {u : kS} : f_balance u 0 = if u.2.2.1 33 0 = 0 then rdM u 0 else if lostN (u.2.2.1 33) = 1 then 0 + u.2.1 20 + u.2.1 21 + (u.1 17 + u.1 18).toInt64 else -9 := rfl
theorem f_bal_1 {u : kS} : f_balance u 1 = if u.2.2.1 33 1 = 0 then rdM u 1 else if lostN (u.2.2.1 33) = 1 then u.2.1 19 - (0 + u.2.1 21 + (u.1 17 + u.1 18).toInt64) else -9 := rfl
theorem f_bal_2 {u : kS} : f_balance u 2 = if u.2.2.1 33 2 = 0 then rdM u 2 else if lostN (u.2.2.1 33) = 1 then u.2.1 19 - (0 + u.2.1 20 + (u.1 17 + u.1 18).toInt64) else -9 := rfl
theorem f_bal_3 {u : kS} : f_balance u 3 = if u.2.2.1 33 3 = 0 then rdM u 3 else if lostN (u.2.2.1 33) = 1 then u.2.1 19 - (0 + u.2.1 20 + u.2.1 21) else -9 := rfl
theorem ix6 {x : Int32} {n : Nat} (hn : x = nI n) (h1 : 1 ≤ n) (h8 : n ≤ 8) : kIx (x - 1) (n - 1) 8 := by
  rw [hn]
  exact kIx_pred h1 h8 (by decide)
theorem lt6 {x : Int32} {n j : Nat} (hn : x = nI n) (h1 : 1 ≤ n) (h8 : n ≤ 8) (hj : j + 1 ≤ n) (h : ¬ x - 1 ≤ nI j) : j + 1 < n := by
  rw [hn, show nI n - 1 = nI (n - 1) from pk_sub (b := 1) h1, nI_leI (by omega) (by omega)] at h
  omega
theorem ge6 {x : Int32} {n j : Nat} (hn : x = nI n) (h1 : 1 ≤ n) (h8 : n ≤ 8) (hj : j + 1 ≤ n) (h : x - 1 ≤ nI j) : j = n - 1 := by
  rw [hn, show nI n - 1 = nI (n - 1) from pk_sub (b := 1) h1, nI_leI (by omega) (by omega)] at h
  omega
def shW (f : Nat → Int32) (n t : Nat) : Nat → Int32 := fun j => if t < j ∧ j < n then f (j - 1) else f j
theorem shW_0 {f : Nat → Int32} {n : Nat} : shW f n (n - 1) = f := by
  funext j
  unfold shW
  rw [if_neg (by omega)]
theorem shW_s {f : Nat → Int32} {n t : Nat} (h : t + 1 < n) : upd (shW f n (t + 1)) (t + 1) (shW f n (t + 1) t) = shW f n t := by
  have e : shW f n (t + 1) t = f t := by unfold shW; rw [if_neg (by omega)]
  rw [e]
  funext j
  by_cases hj : j = t + 1
  · subst hj
    rw [pk_us]
    unfold shW
    rw [if_pos (by omega)]
    congr 1
  · rw [pk_un hj]
    unfold shW
    by_cases h2 : t + 1 < j ∧ j < n
    · rw [if_pos h2, if_pos (by omega)]
    · rw [if_neg h2, if_neg (by omega)]
theorem shW_e {f : Nat → Int32} {n : Nat} {v : Int32} : upd (shW f n 0) 0 v = mvW f n v := by
  funext j
  by_cases hj : j = 0
  · subst hj; rw [pk_us]; simp [mvW]
  · rw [pk_un hj]
    unfold shW mvW
    rw [if_neg hj]
    by_cases h2 : j < n
    · rw [if_pos ⟨by omega, h2⟩, if_pos h2]
    · rw [if_neg (by omega), if_neg h2]
def shC (f : Nat → Int32) (t : Nat) : Nat → Int32 := fun j => if j < t then f (j + 1) else f j
theorem shC_0 {f : Nat → Int32} : shC f 0 = f := by funext j; simp [shC]
theorem shC_s {f : Nat → Int32} {t : Nat} : upd (shC f t) t (shC f t (t + 1)) = shC f (t + 1) := by
  have e : shC f t (t + 1) = f (t + 1) := by unfold shC; rw [if_neg (by omega)]
  rw [e]
  funext j
  by_cases hj : j = t
  · subst hj; rw [pk_us]; unfold shC; rw [if_pos (by omega)]
  · rw [pk_un hj]
    unfold shC
    by_cases h2 : j < t
    · rw [if_pos h2, if_pos (by omega)]
    · rw [if_neg h2, if_neg (by omega)]
theorem mvC_s {f : Nat → Int32} {n j : Nat} {v : Int32} (h1 : 1 ≤ n) (hj : j = n - 1) : upd (shC f j) (n - 1) v = mvC f n v := by
  subst hj
  funext k
  by_cases hk : k = n - 1
  · subst hk; rw [pk_us]; simp [mvC]
  · rw [pk_un hk]
    unfold shC mvC
    rw [if_neg hk]
set_option maxRecDepth 100000 in
set_option maxHeartbeats 4000000 in
theorem r_balance (l : Launch) (g : kG) (h0 : Nat) (ad : Nat → Nat) (i : Nat → Int32) (l_ : Nat → Int64) (a : Nat → Nat → Int32) (h : Nat → Int64) (x : Int32) (h17 : (i 17 + i 18).toInt64 = (i 17).toInt64 + (i 18).toInt64) : kM l yX10_balance cX10_balance 4 (some .long) (rmK 1 0 0 22) g [.ref h0, .int x] (wR g h0 ad (i, l_, a, h)) (kDl g (f_balance (i, l_, a, h) x) (wR g h0 ad (i, l_, a, h))) := by
  refine k_enter (by decide) (Nat.le_of_ble_eq_true rfl) ?_
  intro p e s m args below meth c A F
  refine k_aload_n (n := 1) F dX10_balance_0 rfl 0 rfl rfl ?_
  refine k_iconst (n := 2) (v := 0) F dX10_balance_1 rfl rfl ?_
  refine k_rput_0 (n := 5) F dX10_balance_2 rfl ?_
  refine k_iload_n (n := 6) F dX10_balance_5 rfl 1 rfl rfl ?_
  refine k_iconst (n := 7) (v := 0) F dX10_balance_6 rfl rfl ?_
  refine k_iconst (n := 8) (v := 3) F dX10_balance_7 rfl rfl ?_
  refine k_ciR (n := 11) F (k_rS (k := 3) (As := [.int x, .int 0, .int 3]) (rest := []) F (c_in l g x 0 3) [] rfl rfl mw_693 mw_691 mw_692 mw_9 (by decide) ⟨by decide, by decide⟩ rfl (Nat.le_of_ble_eq_true rfl) ⟨by decide, by decide⟩ dX10_balance_8) [] rfl rfl ?_
  refine k_if_ne (n := 14) (tgt := 18) F dX10_balance_11 (by decide) rfl (fun hc1 => ?_) (fun hc1 => ?_)
  · rcases kin3 hc1 with rfl | rfl | rfl | rfl
    · refine k_iconst (n := 19) (v := 0) F dX10_balance_18 rfl rfl ?_
      refine k_istore_n (n := 20) (lv' := [(2, .int 0), (0, .ref h0), (1, .int 0)]) F dX10_balance_19 rfl (by decide) rfl rfl ?_
      refine k_iconst (n := 21) (v := 0) F dX10_balance_20 rfl rfl ?_
      refine k_istore_n (n := 22) (lv' := [(3, .int 0), (2, .int 0), (0, .ref h0), (1, .int 0)]) F dX10_balance_21 rfl (by decide) rfl rfl ?_
      refine k_iload_n (n := 23) F dX10_balance_22 rfl 0 rfl rfl ?_
      refine k_iconst (n := 24) (v := 4) F dX10_balance_23 rfl rfl ?_
      refine k_icmp_ge (n := 27) (tgt := 55) F dX10_balance_24 (by decide) rfl (fun h9 => absurd h9 (by decide)) (fun _ => ?_)
      refine k_iload_n (n := 28) F dX10_balance_27 rfl 1 rfl rfl ?_
      refine k_iload_n (n := 29) F dX10_balance_28 rfl 0 rfl rfl ?_
      refine k_iload_n (n := 30) F dX10_balance_29 rfl 3 rfl rfl ?_
      refine k_icmp_eq (n := 33) (tgt := 46) F dX10_balance_30 (by decide) rfl (fun _ => ?_) (fun h9 => absurd h9 (by decide))
      refine k_iconst (n := 47) (v := 0) F dX10_balance_46 rfl rfl ?_
      refine k_iadd (n := 48) F dX10_balance_47 rfl ?_
      refine k_valI (y := 0) rfl ?_
      refine k_istore_n (n := 49) (lv' := [(2, .int 0), (3, .int 0), (0, .ref h0), (1, .int 0)]) F dX10_balance_48 rfl (by decide) rfl rfl ?_
      refine k_iinc (n := 52) (j := 1) (v := 1) (lv' := [(3, .int 1), (2, .int 0), (0, .ref h0), (1, .int 0)]) F dX10_balance_49 rfl rfl (by decide) rfl rfl ?_
      refine k_goto (tgt := 22) F dX10_balance_52 (by decide) ?_
      refine k_iload_n (n := 23) F dX10_balance_22 rfl 0 rfl rfl ?_
      refine k_iconst (n := 24) (v := 4) F dX10_balance_23 rfl rfl ?_
      refine k_icmp_ge (n := 27) (tgt := 55) F dX10_balance_24 (by decide) rfl (fun h9 => absurd h9 (by decide)) (fun _ => ?_)
      refine k_iload_n (n := 28) F dX10_balance_27 rfl 1 rfl rfl ?_
      refine k_iload_n (n := 29) F dX10_balance_28 rfl 0 rfl rfl ?_
      refine k_iload_n (n := 30) F dX10_balance_29 rfl 3 rfl rfl ?_
      refine k_icmp_eq (n := 33) (tgt := 46) F dX10_balance_30 (by decide) rfl (fun h9 => absurd h9 (by decide)) (fun _ => ?_)
      refine k_aload_n (n := 34) F dX10_balance_33 rfl 2 rfl rfl ?_
      refine k_rget_33 (n := 37) F dX10_balance_34 rfl ?_
      refine k_iload_n (n := 38) F dX10_balance_37 rfl 0 rfl rfl ?_
      refine k_rald_33 (n := 39) (N := 1) (f := a 33) F rfl (kIx_nI (j := 1) (by decide) (by decide)) dX10_balance_38 rfl ?_
      refine k_if_eq (n := 42) (tgt := 46) F dX10_balance_39 (by decide) rfl (fun hc2 => ?_) (fun hc2 => ?_)
      · refine k_iconst (n := 47) (v := 0) F dX10_balance_46 rfl rfl ?_
        refine k_iadd (n := 48) F dX10_balance_47 rfl ?_
        refine k_valI (y := 0) rfl ?_
        refine k_istore_n (n := 49) (lv' := [(2, .int 0), (3, .int 1), (0, .ref h0), (1, .int 0)]) F dX10_balance_48 rfl (by decide) rfl rfl ?_
        refine k_iinc (n := 52) (j := 1) (v := 2) (lv' := [(3, .int 2), (2, .int 0), (0, .ref h0), (1, .int 0)]) F dX10_balance_49 rfl rfl (by decide) rfl rfl ?_
        refine k_goto (tgt := 22) F dX10_balance_52 (by decide) ?_
        refine k_iload_n (n := 23) F dX10_balance_22 rfl 0 rfl rfl ?_
        refine k_iconst (n := 24) (v := 4) F dX10_balance_23 rfl rfl ?_
        refine k_icmp_ge (n := 27) (tgt := 55) F dX10_balance_24 (by decide) rfl (fun h9 => absurd h9 (by decide)) (fun _ => ?_)
        refine k_iload_n (n := 28) F dX10_balance_27 rfl 1 rfl rfl ?_
        refine k_iload_n (n := 29) F dX10_balance_28 rfl 0 rfl rfl ?_
        refine k_iload_n (n := 30) F dX10_balance_29 rfl 3 rfl rfl ?_
        refine k_icmp_eq (n := 33) (tgt := 46) F dX10_balance_30 (by decide) rfl (fun h9 => absurd h9 (by decide)) (fun _ => ?_)
        refine k_aload_n (n := 34) F dX10_balance_33 rfl 2 rfl rfl ?_
        refine k_rget_33 (n := 37) F dX10_balance_34 rfl ?_
        refine k_iload_n (n := 38) F dX10_balance_37 rfl 0 rfl rfl ?_
        refine k_rald_33 (n := 39) (N := 2) (f := a 33) F rfl (kIx_nI (j := 2) (by decide) (by decide)) dX10_balance_38 rfl ?_
        refine k_if_eq (n := 42) (tgt := 46) F dX10_balance_39 (by decide) rfl (fun hc3 => ?_) (fun hc3 => ?_)
        · refine k_iconst (n := 47) (v := 0) F dX10_balance_46 rfl rfl ?_
          refine k_iadd (n := 48) F dX10_balance_47 rfl ?_
          refine k_valI (y := 0) rfl ?_
          refine k_istore_n (n := 49) (lv' := [(2, .int 0), (3, .int 2), (0, .ref h0), (1, .int 0)]) F dX10_balance_48 rfl (by decide) rfl rfl ?_
          refine k_iinc (n := 52) (j := 1) (v := 3) (lv' := [(3, .int 3), (2, .int 0), (0, .ref h0), (1, .int 0)]) F dX10_balance_49 rfl rfl (by decide) rfl rfl ?_
          refine k_goto (tgt := 22) F dX10_balance_52 (by decide) ?_
          refine k_iload_n (n := 23) F dX10_balance_22 rfl 0 rfl rfl ?_
          refine k_iconst (n := 24) (v := 4) F dX10_balance_23 rfl rfl ?_
          refine k_icmp_ge (n := 27) (tgt := 55) F dX10_balance_24 (by decide) rfl (fun h9 => absurd h9 (by decide)) (fun _ => ?_)
          refine k_iload_n (n := 28) F dX10_balance_27 rfl 1 rfl rfl ?_
          refine k_iload_n (n := 29) F dX10_balance_28 rfl 0 rfl rfl ?_
          refine k_iload_n (n := 30) F dX10_balance_29 rfl 3 rfl rfl ?_
          refine k_icmp_eq (n := 33) (tgt := 46) F dX10_balance_30 (by decide) rfl (fun h9 => absurd h9 (by decide)) (fun _ => ?_)
          refine k_aload_n (n := 34) F dX10_balance_33 rfl 2 rfl rfl ?_
          refine k_rget_33 (n := 37) F dX10_balance_34 rfl ?_
          refine k_iload_n (n := 38) F dX10_balance_37 rfl 0 rfl rfl ?_
          refine k_rald_33 (n := 39) (N := 3) (f := a 33) F rfl (kIx_nI (j := 3) (by decide) (by decide)) dX10_balance_38 rfl ?_
          refine k_if_eq (n := 42) (tgt := 46) F dX10_balance_39 (by decide) rfl (fun hc4 => ?_) (fun hc4 => ?_)
          · refine k_iconst (n := 47) (v := 0) F dX10_balance_46 rfl rfl ?_
            refine k_iadd (n := 48) F dX10_balance_47 rfl ?_
            refine k_valI (y := 0) rfl ?_
            refine k_istore_n (n := 49) (lv' := [(2, .int 0), (3, .int 3), (0, .ref h0), (1, .int 0)]) F dX10_balance_48 rfl (by decide) rfl rfl ?_
            refine k_iinc (n := 52) (j := 1) (v := 4) (lv' := [(3, .int 4), (2, .int 0), (0, .ref h0), (1, .int 0)]) F dX10_balance_49 rfl rfl (by decide) rfl rfl ?_
            refine k_goto (tgt := 22) F dX10_balance_52 (by decide) ?_
            refine k_iload_n (n := 23) F dX10_balance_22 rfl 0 rfl rfl ?_
            refine k_iconst (n := 24) (v := 4) F dX10_balance_23 rfl rfl ?_
            refine k_icmp_ge (n := 27) (tgt := 55) F dX10_balance_24 (by decide) rfl (fun _ => ?_) (fun h9 => absurd h9 (by decide))
            refine k_aload_n (n := 56) F dX10_balance_55 rfl 2 rfl rfl ?_
            refine k_rget_33 (n := 59) F dX10_balance_56 rfl ?_
            refine k_iload_n (n := 60) F dX10_balance_59 rfl 3 rfl rfl ?_
            refine k_rald_33 (n := 61) (N := 0) (f := a 33) F rfl (kIx_nI (j := 0) (by decide) (by decide)) dX10_balance_60 rfl ?_
            refine k_if_ne (n := 64) (tgt := 70) F dX10_balance_61 (by decide) rfl (fun hc5 => ?_) (fun hc5 => ?_)
            · refine k_iload_n (n := 71) F dX10_balance_70 rfl 1 rfl rfl ?_
              refine k_if_le (n := 74) (tgt := 78) F dX10_balance_71 (by decide) rfl (fun _ => ?_) (fun h9 => absurd h9 (by decide))
              refine k_iload_n (n := 79) F dX10_balance_78 rfl 3 rfl rfl ?_
              refine k_if_ne (n := 82) (tgt := 102) F dX10_balance_79 (by decide) rfl (fun h9 => absurd h9 (by decide)) (fun _ => ?_)
              refine k_aload_n (n := 83) F dX10_balance_82 rfl 2 rfl rfl ?_
              refine k_iconst (n := 84) (v := 1) F dX10_balance_83 rfl rfl ?_
              refine k_clR (n := 87) F (k_rV (k := 1) (b := h0) (As := [.int 1]) (rest := []) F (r_reads l g h0 ad i l_ a h 1) [0, 1, 2, 3, 4, 5, 6, 7, 8, 9, 10, 11, 12, 13, 14] rfl rfl 0 rfl rfl mw_809 mw_806 mw_808 mw_s27 mw_9 (by decide) ⟨by decide, by decide⟩ rfl (Nat.le_of_ble_eq_true rfl) ⟨by decide, by decide⟩ dX10_balance_84) [0, 1, 2, 3, 4, 5, 6, 7, 8, 9, 10, 11, 12, 13, 14] rfl rfl ?_
              refine k_aload_n (n := 88) F dX10_balance_87 rfl 2 rfl rfl ?_
              refine k_iconst (n := 89) (v := 2) F dX10_balance_88 rfl rfl ?_
              refine k_clR (n := 92) F (k_rV (k := 1) (b := h0) (As := [.int 2]) (rest := [.long (rdR (i, l_, a, h) 1)]) F (r_reads l g h0 ad i l_ a h 2) [0, 1, 2, 3, 4, 5, 6, 7, 8, 9, 10, 11, 12, 13, 14] rfl rfl 0 rfl rfl mw_809 mw_806 mw_808 mw_s27 mw_9 (by decide) ⟨by decide, by decide⟩ rfl (Nat.le_of_ble_eq_true rfl) ⟨by decide, by decide⟩ dX10_balance_89) [0, 1, 2, 3, 4, 5, 6, 7, 8, 9, 10, 11, 12, 13, 14] rfl rfl ?_
              refine k_ladd (n := 93) F dX10_balance_92 rfl ?_
              refine k_aload_n (n := 94) F dX10_balance_93 rfl 2 rfl rfl ?_
              refine k_iconst (n := 95) (v := 3) F dX10_balance_94 rfl rfl ?_
              refine k_clR (n := 98) F (k_rV (k := 1) (b := h0) (As := [.int 3]) (rest := [.long ((rdR (i, l_, a, h) 1) + (rdR (i, l_, a, h) 2))]) F (r_reads l g h0 ad i l_ a h 3) [0, 1, 2, 3, 4, 5, 6, 7, 8, 9, 10, 11, 12, 13, 14] rfl rfl 0 rfl rfl mw_809 mw_806 mw_808 mw_s27 mw_9 (by decide) ⟨by decide, by decide⟩ rfl (Nat.le_of_ble_eq_true rfl) ⟨by decide, by decide⟩ dX10_balance_95) [0, 1, 2, 3, 4, 5, 6, 7, 8, 9, 10, 11, 12, 13, 14] rfl rfl ?_
              refine k_ladd (n := 99) F dX10_balance_98 rfl ?_
              refine k_goto (tgt := 131) F dX10_balance_99 (by decide) ?_
              exact k_lret F (by rw [f_bal_0]; simp [lostN, zb, rdM, rdR, h17, i64a, i64b, hc2, hc3, hc4, hc5]) rfl dX10_balance_131
            · refine k_aload_n (n := 65) F dX10_balance_64 rfl 2 rfl rfl ?_
              refine k_iload_n (n := 66) F dX10_balance_65 rfl 3 rfl rfl ?_
              refine k_clR (n := 69) F (k_rV (k := 1) (b := h0) (As := [.int 0]) (rest := []) F (r_reads l g h0 ad i l_ a h 0) [0, 1, 2, 3, 4, 5, 6, 7, 8, 9, 10, 11, 12, 13, 14] rfl rfl 0 rfl rfl mw_809 mw_806 mw_808 mw_s27 mw_9 (by decide) ⟨by decide, by decide⟩ rfl (Nat.le_of_ble_eq_true rfl) ⟨by decide, by decide⟩ dX10_balance_66) [0, 1, 2, 3, 4, 5, 6, 7, 8, 9, 10, 11, 12, 13, 14] rfl rfl ?_
              exact k_lret F (by rw [f_bal_0]; simp [lostN, zb, rdM, rdR, h17, i64a, i64b, hc2, hc3, hc4, hc5]) rfl dX10_balance_69
          · refine k_iconst (n := 43) (v := 1) F dX10_balance_42 rfl rfl ?_
            refine k_goto (tgt := 47) F dX10_balance_43 (by decide) ?_
            refine k_iadd (n := 48) F dX10_balance_47 rfl ?_
            refine k_valI (y := 1) rfl ?_
            refine k_istore_n (n := 49) (lv' := [(2, .int 1), (3, .int 3), (0, .ref h0), (1, .int 0)]) F dX10_balance_48 rfl (by decide) rfl rfl ?_
            refine k_iinc (n := 52) (j := 1) (v := 4) (lv' := [(3, .int 4), (2, .int 1), (0, .ref h0), (1, .int 0)]) F dX10_balance_49 rfl rfl (by decide) rfl rfl ?_
            refine k_goto (tgt := 22) F dX10_balance_52 (by decide) ?_
            refine k_iload_n (n := 23) F dX10_balance_22 rfl 0 rfl rfl ?_
            refine k_iconst (n := 24) (v := 4) F dX10_balance_23 rfl rfl ?_
            refine k_icmp_ge (n := 27) (tgt := 55) F dX10_balance_24 (by decide) rfl (fun _ => ?_) (fun h9 => absurd h9 (by decide))
            refine k_aload_n (n := 56) F dX10_balance_55 rfl 2 rfl rfl ?_
            refine k_rget_33 (n := 59) F dX10_balance_56 rfl ?_
            refine k_iload_n (n := 60) F dX10_balance_59 rfl 3 rfl rfl ?_
            refine k_rald_33 (n := 61) (N := 0) (f := a 33) F rfl (kIx_nI (j := 0) (by decide) (by decide)) dX10_balance_60 rfl ?_
            refine k_if_ne (n := 64) (tgt := 70) F dX10_balance_61 (by decide) rfl (fun hc6 => ?_) (fun hc6 => ?_)
            · refine k_iload_n (n := 71) F dX10_balance_70 rfl 1 rfl rfl ?_
              refine k_if_le (n := 74) (tgt := 78) F dX10_balance_71 (by decide) rfl (fun h9 => absurd h9 (by decide)) (fun _ => ?_)
              refine k_ldc2 (n := 77) (v := -9) F mw_805 dX10_balance_74 rfl ?_
              exact k_lret F (by rw [f_bal_0]; simp [lostN, zb, rdM, rdR, h17, i64a, i64b, hc2, hc3, hc4, hc6]) rfl dX10_balance_77
            · refine k_aload_n (n := 65) F dX10_balance_64 rfl 2 rfl rfl ?_
              refine k_iload_n (n := 66) F dX10_balance_65 rfl 3 rfl rfl ?_
              refine k_clR (n := 69) F (k_rV (k := 1) (b := h0) (As := [.int 0]) (rest := []) F (r_reads l g h0 ad i l_ a h 0) [0, 1, 2, 3, 4, 5, 6, 7, 8, 9, 10, 11, 12, 13, 14] rfl rfl 0 rfl rfl mw_809 mw_806 mw_808 mw_s27 mw_9 (by decide) ⟨by decide, by decide⟩ rfl (Nat.le_of_ble_eq_true rfl) ⟨by decide, by decide⟩ dX10_balance_66) [0, 1, 2, 3, 4, 5, 6, 7, 8, 9, 10, 11, 12, 13, 14] rfl rfl ?_
              exact k_lret F (by rw [f_bal_0]; simp [lostN, zb, rdM, rdR, h17, i64a, i64b, hc2, hc3, hc4, hc6]) rfl dX10_balance_69
        · refine k_iconst (n := 43) (v := 1) F dX10_balance_42 rfl rfl ?_
          refine k_goto (tgt := 47) F dX10_balance_43 (by decide) ?_
          refine k_iadd (n := 48) F dX10_balance_47 rfl ?_
          refine k_valI (y := 1) rfl ?_
          refine k_istore_n (n := 49) (lv' := [(2, .int 1), (3, .int 2), (0, .ref h0), (1, .int 0)]) F dX10_balance_48 rfl (by decide) rfl rfl ?_
          refine k_iinc (n := 52) (j := 1) (v := 3) (lv' := [(3, .int 3), (2, .int 1), (0, .ref h0), (1, .int 0)]) F dX10_balance_49 rfl rfl (by decide) rfl rfl ?_
          refine k_goto (tgt := 22) F dX10_balance_52 (by decide) ?_
          refine k_iload_n (n := 23) F dX10_balance_22 rfl 0 rfl rfl ?_
          refine k_iconst (n := 24) (v := 4) F dX10_balance_23 rfl rfl ?_
          refine k_icmp_ge (n := 27) (tgt := 55) F dX10_balance_24 (by decide) rfl (fun h9 => absurd h9 (by decide)) (fun _ => ?_)
          refine k_iload_n (n := 28) F dX10_balance_27 rfl 1 rfl rfl ?_
          refine k_iload_n (n := 29) F dX10_balance_28 rfl 0 rfl rfl ?_
          refine k_iload_n (n := 30) F dX10_balance_29 rfl 3 rfl rfl ?_
          refine k_icmp_eq (n := 33) (tgt := 46) F dX10_balance_30 (by decide) rfl (fun h9 => absurd h9 (by decide)) (fun _ => ?_)
          refine k_aload_n (n := 34) F dX10_balance_33 rfl 2 rfl rfl ?_
          refine k_rget_33 (n := 37) F dX10_balance_34 rfl ?_
          refine k_iload_n (n := 38) F dX10_balance_37 rfl 0 rfl rfl ?_
          refine k_rald_33 (n := 39) (N := 3) (f := a 33) F rfl (kIx_nI (j := 3) (by decide) (by decide)) dX10_balance_38 rfl ?_
          refine k_if_eq (n := 42) (tgt := 46) F dX10_balance_39 (by decide) rfl (fun hc7 => ?_) (fun hc7 => ?_)
          · refine k_iconst (n := 47) (v := 0) F dX10_balance_46 rfl rfl ?_
            refine k_iadd (n := 48) F dX10_balance_47 rfl ?_
            refine k_valI (y := 1) rfl ?_
            refine k_istore_n (n := 49) (lv' := [(2, .int 1), (3, .int 3), (0, .ref h0), (1, .int 0)]) F dX10_balance_48 rfl (by decide) rfl rfl ?_
            refine k_iinc (n := 52) (j := 1) (v := 4) (lv' := [(3, .int 4), (2, .int 1), (0, .ref h0), (1, .int 0)]) F dX10_balance_49 rfl rfl (by decide) rfl rfl ?_
            refine k_goto (tgt := 22) F dX10_balance_52 (by decide) ?_
            refine k_iload_n (n := 23) F dX10_balance_22 rfl 0 rfl rfl ?_
            refine k_iconst (n := 24) (v := 4) F dX10_balance_23 rfl rfl ?_
            refine k_icmp_ge (n := 27) (tgt := 55) F dX10_balance_24 (by decide) rfl (fun _ => ?_) (fun h9 => absurd h9 (by decide))
            refine k_aload_n (n := 56) F dX10_balance_55 rfl 2 rfl rfl ?_
            refine k_rget_33 (n := 59) F dX10_balance_56 rfl ?_
            refine k_iload_n (n := 60) F dX10_balance_59 rfl 3 rfl rfl ?_
            refine k_rald_33 (n := 61) (N := 0) (f := a 33) F rfl (kIx_nI (j := 0) (by decide) (by decide)) dX10_balance_60 rfl ?_
            refine k_if_ne (n := 64) (tgt := 70) F dX10_balance_61 (by decide) rfl (fun hc8 => ?_) (fun hc8 => ?_)
            · refine k_iload_n (n := 71) F dX10_balance_70 rfl 1 rfl rfl ?_
              refine k_if_le (n := 74) (tgt := 78) F dX10_balance_71 (by decide) rfl (fun h9 => absurd h9 (by decide)) (fun _ => ?_)
              refine k_ldc2 (n := 77) (v := -9) F mw_805 dX10_balance_74 rfl ?_
              exact k_lret F (by rw [f_bal_0]; simp [lostN, zb, rdM, rdR, h17, i64a, i64b, hc2, hc3, hc7, hc8]) rfl dX10_balance_77
            · refine k_aload_n (n := 65) F dX10_balance_64 rfl 2 rfl rfl ?_
              refine k_iload_n (n := 66) F dX10_balance_65 rfl 3 rfl rfl ?_
              refine k_clR (n := 69) F (k_rV (k := 1) (b := h0) (As := [.int 0]) (rest := []) F (r_reads l g h0 ad i l_ a h 0) [0, 1, 2, 3, 4, 5, 6, 7, 8, 9, 10, 11, 12, 13, 14] rfl rfl 0 rfl rfl mw_809 mw_806 mw_808 mw_s27 mw_9 (by decide) ⟨by decide, by decide⟩ rfl (Nat.le_of_ble_eq_true rfl) ⟨by decide, by decide⟩ dX10_balance_66) [0, 1, 2, 3, 4, 5, 6, 7, 8, 9, 10, 11, 12, 13, 14] rfl rfl ?_
              exact k_lret F (by rw [f_bal_0]; simp [lostN, zb, rdM, rdR, h17, i64a, i64b, hc2, hc3, hc7, hc8]) rfl dX10_balance_69
          · refine k_iconst (n := 43) (v := 1) F dX10_balance_42 rfl rfl ?_
            refine k_goto (tgt := 47) F dX10_balance_43 (by decide) ?_
            refine k_iadd (n := 48) F dX10_balance_47 rfl ?_
            refine k_valI (y := 2) rfl ?_
            refine k_istore_n (n := 49) (lv' := [(2, .int 2), (3, .int 3), (0, .ref h0), (1, .int 0)]) F dX10_balance_48 rfl (by decide) rfl rfl ?_
            refine k_iinc (n := 52) (j := 1) (v := 4) (lv' := [(3, .int 4), (2, .int 2), (0, .ref h0), (1, .int 0)]) F dX10_balance_49 rfl rfl (by decide) rfl rfl ?_
            refine k_goto (tgt := 22) F dX10_balance_52 (by decide) ?_
            refine k_iload_n (n := 23) F dX10_balance_22 rfl 0 rfl rfl ?_
            refine k_iconst (n := 24) (v := 4) F dX10_balance_23 rfl rfl ?_
            refine k_icmp_ge (n := 27) (tgt := 55) F dX10_balance_24 (by decide) rfl (fun _ => ?_) (fun h9 => absurd h9 (by decide))
            refine k_aload_n (n := 56) F dX10_balance_55 rfl 2 rfl rfl ?_
            refine k_rget_33 (n := 59) F dX10_balance_56 rfl ?_
            refine k_iload_n (n := 60) F dX10_balance_59 rfl 3 rfl rfl ?_
            refine k_rald_33 (n := 61) (N := 0) (f := a 33) F rfl (kIx_nI (j := 0) (by decide) (by decide)) dX10_balance_60 rfl ?_
            refine k_if_ne (n := 64) (tgt := 70) F dX10_balance_61 (by decide) rfl (fun hc9 => ?_) (fun hc9 => ?_)
            · refine k_iload_n (n := 71) F dX10_balance_70 rfl 1 rfl rfl ?_
              refine k_if_le (n := 74) (tgt := 78) F dX10_balance_71 (by decide) rfl (fun h9 => absurd h9 (by decide)) (fun _ => ?_)
              refine k_ldc2 (n := 77) (v := -9) F mw_805 dX10_balance_74 rfl ?_
              exact k_lret F (by rw [f_bal_0]; simp [lostN, zb, rdM, rdR, h17, i64a, i64b, hc2, hc3, hc7, hc9]) rfl dX10_balance_77
            · refine k_aload_n (n := 65) F dX10_balance_64 rfl 2 rfl rfl ?_
              refine k_iload_n (n := 66) F dX10_balance_65 rfl 3 rfl rfl ?_
              refine k_clR (n := 69) F (k_rV (k := 1) (b := h0) (As := [.int 0]) (rest := []) F (r_reads l g h0 ad i l_ a h 0) [0, 1, 2, 3, 4, 5, 6, 7, 8, 9, 10, 11, 12, 13, 14] rfl rfl 0 rfl rfl mw_809 mw_806 mw_808 mw_s27 mw_9 (by decide) ⟨by decide, by decide⟩ rfl (Nat.le_of_ble_eq_true rfl) ⟨by decide, by decide⟩ dX10_balance_66) [0, 1, 2, 3, 4, 5, 6, 7, 8, 9, 10, 11, 12, 13, 14] rfl rfl ?_
              exact k_lret F (by rw [f_bal_0]; simp [lostN, zb, rdM, rdR, h17, i64a, i64b, hc2, hc3, hc7, hc9]) rfl dX10_balance_69
      · refine k_iconst (n := 43) (v := 1) F dX10_balance_42 rfl rfl ?_
        refine k_goto (tgt := 47) F dX10_balance_43 (by decide) ?_
        refine k_iadd (n := 48) F dX10_balance_47 rfl ?_
        refine k_valI (y := 1) rfl ?_
        refine k_istore_n (n := 49) (lv' := [(2, .int 1), (3, .int 1), (0, .ref h0), (1, .int 0)]) F dX10_balance_48 rfl (by decide) rfl rfl ?_
        refine k_iinc (n := 52) (j := 1) (v := 2) (lv' := [(3, .int 2), (2, .int 1), (0, .ref h0), (1, .int 0)]) F dX10_balance_49 rfl rfl (by decide) rfl rfl ?_
        refine k_goto (tgt := 22) F dX10_balance_52 (by decide) ?_
        refine k_iload_n (n := 23) F dX10_balance_22 rfl 0 rfl rfl ?_
        refine k_iconst (n := 24) (v := 4) F dX10_balance_23 rfl rfl ?_
        refine k_icmp_ge (n := 27) (tgt := 55) F dX10_balance_24 (by decide) rfl (fun h9 => absurd h9 (by decide)) (fun _ => ?_)
        refine k_iload_n (n := 28) F dX10_balance_27 rfl 1 rfl rfl ?_
        refine k_iload_n (n := 29) F dX10_balance_28 rfl 0 rfl rfl ?_
        refine k_iload_n (n := 30) F dX10_balance_29 rfl 3 rfl rfl ?_
        refine k_icmp_eq (n := 33) (tgt := 46) F dX10_balance_30 (by decide) rfl (fun h9 => absurd h9 (by decide)) (fun _ => ?_)
        refine k_aload_n (n := 34) F dX10_balance_33 rfl 2 rfl rfl ?_
        refine k_rget_33 (n := 37) F dX10_balance_34 rfl ?_
        refine k_iload_n (n := 38) F dX10_balance_37 rfl 0 rfl rfl ?_
        refine k_rald_33 (n := 39) (N := 2) (f := a 33) F rfl (kIx_nI (j := 2) (by decide) (by decide)) dX10_balance_38 rfl ?_
        refine k_if_eq (n := 42) (tgt := 46) F dX10_balance_39 (by decide) rfl (fun hc10 => ?_) (fun hc10 => ?_)
        · refine k_iconst (n := 47) (v := 0) F dX10_balance_46 rfl rfl ?_
          refine k_iadd (n := 48) F dX10_balance_47 rfl ?_
          refine k_valI (y := 1) rfl ?_
          refine k_istore_n (n := 49) (lv' := [(2, .int 1), (3, .int 2), (0, .ref h0), (1, .int 0)]) F dX10_balance_48 rfl (by decide) rfl rfl ?_
          refine k_iinc (n := 52) (j := 1) (v := 3) (lv' := [(3, .int 3), (2, .int 1), (0, .ref h0), (1, .int 0)]) F dX10_balance_49 rfl rfl (by decide) rfl rfl ?_
          refine k_goto (tgt := 22) F dX10_balance_52 (by decide) ?_
          refine k_iload_n (n := 23) F dX10_balance_22 rfl 0 rfl rfl ?_
          refine k_iconst (n := 24) (v := 4) F dX10_balance_23 rfl rfl ?_
          refine k_icmp_ge (n := 27) (tgt := 55) F dX10_balance_24 (by decide) rfl (fun h9 => absurd h9 (by decide)) (fun _ => ?_)
          refine k_iload_n (n := 28) F dX10_balance_27 rfl 1 rfl rfl ?_
          refine k_iload_n (n := 29) F dX10_balance_28 rfl 0 rfl rfl ?_
          refine k_iload_n (n := 30) F dX10_balance_29 rfl 3 rfl rfl ?_
          refine k_icmp_eq (n := 33) (tgt := 46) F dX10_balance_30 (by decide) rfl (fun h9 => absurd h9 (by decide)) (fun _ => ?_)
          refine k_aload_n (n := 34) F dX10_balance_33 rfl 2 rfl rfl ?_
          refine k_rget_33 (n := 37) F dX10_balance_34 rfl ?_
          refine k_iload_n (n := 38) F dX10_balance_37 rfl 0 rfl rfl ?_
          refine k_rald_33 (n := 39) (N := 3) (f := a 33) F rfl (kIx_nI (j := 3) (by decide) (by decide)) dX10_balance_38 rfl ?_
          refine k_if_eq (n := 42) (tgt := 46) F dX10_balance_39 (by decide) rfl (fun hc11 => ?_) (fun hc11 => ?_)
          · refine k_iconst (n := 47) (v := 0) F dX10_balance_46 rfl rfl ?_
            refine k_iadd (n := 48) F dX10_balance_47 rfl ?_
            refine k_valI (y := 1) rfl ?_
            refine k_istore_n (n := 49) (lv' := [(2, .int 1), (3, .int 3), (0, .ref h0), (1, .int 0)]) F dX10_balance_48 rfl (by decide) rfl rfl ?_
            refine k_iinc (n := 52) (j := 1) (v := 4) (lv' := [(3, .int 4), (2, .int 1), (0, .ref h0), (1, .int 0)]) F dX10_balance_49 rfl rfl (by decide) rfl rfl ?_
            refine k_goto (tgt := 22) F dX10_balance_52 (by decide) ?_
            refine k_iload_n (n := 23) F dX10_balance_22 rfl 0 rfl rfl ?_
            refine k_iconst (n := 24) (v := 4) F dX10_balance_23 rfl rfl ?_
            refine k_icmp_ge (n := 27) (tgt := 55) F dX10_balance_24 (by decide) rfl (fun _ => ?_) (fun h9 => absurd h9 (by decide))
            refine k_aload_n (n := 56) F dX10_balance_55 rfl 2 rfl rfl ?_
            refine k_rget_33 (n := 59) F dX10_balance_56 rfl ?_
            refine k_iload_n (n := 60) F dX10_balance_59 rfl 3 rfl rfl ?_
            refine k_rald_33 (n := 61) (N := 0) (f := a 33) F rfl (kIx_nI (j := 0) (by decide) (by decide)) dX10_balance_60 rfl ?_
            refine k_if_ne (n := 64) (tgt := 70) F dX10_balance_61 (by decide) rfl (fun hc12 => ?_) (fun hc12 => ?_)
            · refine k_iload_n (n := 71) F dX10_balance_70 rfl 1 rfl rfl ?_
              refine k_if_le (n := 74) (tgt := 78) F dX10_balance_71 (by decide) rfl (fun h9 => absurd h9 (by decide)) (fun _ => ?_)
              refine k_ldc2 (n := 77) (v := -9) F mw_805 dX10_balance_74 rfl ?_
              exact k_lret F (by rw [f_bal_0]; simp [lostN, zb, rdM, rdR, h17, i64a, i64b, hc2, hc10, hc11, hc12]) rfl dX10_balance_77
            · refine k_aload_n (n := 65) F dX10_balance_64 rfl 2 rfl rfl ?_
              refine k_iload_n (n := 66) F dX10_balance_65 rfl 3 rfl rfl ?_
              refine k_clR (n := 69) F (k_rV (k := 1) (b := h0) (As := [.int 0]) (rest := []) F (r_reads l g h0 ad i l_ a h 0) [0, 1, 2, 3, 4, 5, 6, 7, 8, 9, 10, 11, 12, 13, 14] rfl rfl 0 rfl rfl mw_809 mw_806 mw_808 mw_s27 mw_9 (by decide) ⟨by decide, by decide⟩ rfl (Nat.le_of_ble_eq_true rfl) ⟨by decide, by decide⟩ dX10_balance_66) [0, 1, 2, 3, 4, 5, 6, 7, 8, 9, 10, 11, 12, 13, 14] rfl rfl ?_
              exact k_lret F (by rw [f_bal_0]; simp [lostN, zb, rdM, rdR, h17, i64a, i64b, hc2, hc10, hc11, hc12]) rfl dX10_balance_69
          · refine k_iconst (n := 43) (v := 1) F dX10_balance_42 rfl rfl ?_
            refine k_goto (tgt := 47) F dX10_balance_43 (by decide) ?_
            refine k_iadd (n := 48) F dX10_balance_47 rfl ?_
            refine k_valI (y := 2) rfl ?_
            refine k_istore_n (n := 49) (lv' := [(2, .int 2), (3, .int 3), (0, .ref h0), (1, .int 0)]) F dX10_balance_48 rfl (by decide) rfl rfl ?_
            refine k_iinc (n := 52) (j := 1) (v := 4) (lv' := [(3, .int 4), (2, .int 2), (0, .ref h0), (1, .int 0)]) F dX10_balance_49 rfl rfl (by decide) rfl rfl ?_
            refine k_goto (tgt := 22) F dX10_balance_52 (by decide) ?_
            refine k_iload_n (n := 23) F dX10_balance_22 rfl 0 rfl rfl ?_
            refine k_iconst (n := 24) (v := 4) F dX10_balance_23 rfl rfl ?_
            refine k_icmp_ge (n := 27) (tgt := 55) F dX10_balance_24 (by decide) rfl (fun _ => ?_) (fun h9 => absurd h9 (by decide))
            refine k_aload_n (n := 56) F dX10_balance_55 rfl 2 rfl rfl ?_
            refine k_rget_33 (n := 59) F dX10_balance_56 rfl ?_
            refine k_iload_n (n := 60) F dX10_balance_59 rfl 3 rfl rfl ?_
            refine k_rald_33 (n := 61) (N := 0) (f := a 33) F rfl (kIx_nI (j := 0) (by decide) (by decide)) dX10_balance_60 rfl ?_
            refine k_if_ne (n := 64) (tgt := 70) F dX10_balance_61 (by decide) rfl (fun hc13 => ?_) (fun hc13 => ?_)
            · refine k_iload_n (n := 71) F dX10_balance_70 rfl 1 rfl rfl ?_
              refine k_if_le (n := 74) (tgt := 78) F dX10_balance_71 (by decide) rfl (fun h9 => absurd h9 (by decide)) (fun _ => ?_)
              refine k_ldc2 (n := 77) (v := -9) F mw_805 dX10_balance_74 rfl ?_
              exact k_lret F (by rw [f_bal_0]; simp [lostN, zb, rdM, rdR, h17, i64a, i64b, hc2, hc10, hc11, hc13]) rfl dX10_balance_77
            · refine k_aload_n (n := 65) F dX10_balance_64 rfl 2 rfl rfl ?_
              refine k_iload_n (n := 66) F dX10_balance_65 rfl 3 rfl rfl ?_
              refine k_clR (n := 69) F (k_rV (k := 1) (b := h0) (As := [.int 0]) (rest := []) F (r_reads l g h0 ad i l_ a h 0) [0, 1, 2, 3, 4, 5, 6, 7, 8, 9, 10, 11, 12, 13, 14] rfl rfl 0 rfl rfl mw_809 mw_806 mw_808 mw_s27 mw_9 (by decide) ⟨by decide, by decide⟩ rfl (Nat.le_of_ble_eq_true rfl) ⟨by decide, by decide⟩ dX10_balance_66) [0, 1, 2, 3, 4, 5, 6, 7, 8, 9, 10, 11, 12, 13, 14] rfl rfl ?_
              exact k_lret F (by rw [f_bal_0]; simp [lostN, zb, rdM, rdR, h17, i64a, i64b, hc2, hc10, hc11, hc13]) rfl dX10_balance_69
        · refine k_iconst (n := 43) (v := 1) F dX10_balance_42 rfl rfl ?_
          refine k_goto (tgt := 47) F dX10_balance_43 (by decide) ?_
          refine k_iadd (n := 48) F dX10_balance_47 rfl ?_
          refine k_valI (y := 2) rfl ?_
          refine k_istore_n (n := 49) (lv' := [(2, .int 2), (3, .int 2), (0, .ref h0), (1, .int 0)]) F dX10_balance_48 rfl (by decide) rfl rfl ?_
          refine k_iinc (n := 52) (j := 1) (v := 3) (lv' := [(3, .int 3), (2, .int 2), (0, .ref h0), (1, .int 0)]) F dX10_balance_49 rfl rfl (by decide) rfl rfl ?_
          refine k_goto (tgt := 22) F dX10_balance_52 (by decide) ?_
          refine k_iload_n (n := 23) F dX10_balance_22 rfl 0 rfl rfl ?_
          refine k_iconst (n := 24) (v := 4) F dX10_balance_23 rfl rfl ?_
          refine k_icmp_ge (n := 27) (tgt := 55) F dX10_balance_24 (by decide) rfl (fun h9 => absurd h9 (by decide)) (fun _ => ?_)
          refine k_iload_n (n := 28) F dX10_balance_27 rfl 1 rfl rfl ?_
          refine k_iload_n (n := 29) F dX10_balance_28 rfl 0 rfl rfl ?_
          refine k_iload_n (n := 30) F dX10_balance_29 rfl 3 rfl rfl ?_
          refine k_icmp_eq (n := 33) (tgt := 46) F dX10_balance_30 (by decide) rfl (fun h9 => absurd h9 (by decide)) (fun _ => ?_)
          refine k_aload_n (n := 34) F dX10_balance_33 rfl 2 rfl rfl ?_
          refine k_rget_33 (n := 37) F dX10_balance_34 rfl ?_
          refine k_iload_n (n := 38) F dX10_balance_37 rfl 0 rfl rfl ?_
          refine k_rald_33 (n := 39) (N := 3) (f := a 33) F rfl (kIx_nI (j := 3) (by decide) (by decide)) dX10_balance_38 rfl ?_
          refine k_if_eq (n := 42) (tgt := 46) F dX10_balance_39 (by decide) rfl (fun hc14 => ?_) (fun hc14 => ?_)
          · refine k_iconst (n := 47) (v := 0) F dX10_balance_46 rfl rfl ?_
            refine k_iadd (n := 48) F dX10_balance_47 rfl ?_
            refine k_valI (y := 2) rfl ?_
            refine k_istore_n (n := 49) (lv' := [(2, .int 2), (3, .int 3), (0, .ref h0), (1, .int 0)]) F dX10_balance_48 rfl (by decide) rfl rfl ?_
            refine k_iinc (n := 52) (j := 1) (v := 4) (lv' := [(3, .int 4), (2, .int 2), (0, .ref h0), (1, .int 0)]) F dX10_balance_49 rfl rfl (by decide) rfl rfl ?_
            refine k_goto (tgt := 22) F dX10_balance_52 (by decide) ?_
            refine k_iload_n (n := 23) F dX10_balance_22 rfl 0 rfl rfl ?_
            refine k_iconst (n := 24) (v := 4) F dX10_balance_23 rfl rfl ?_
            refine k_icmp_ge (n := 27) (tgt := 55) F dX10_balance_24 (by decide) rfl (fun _ => ?_) (fun h9 => absurd h9 (by decide))
            refine k_aload_n (n := 56) F dX10_balance_55 rfl 2 rfl rfl ?_
            refine k_rget_33 (n := 59) F dX10_balance_56 rfl ?_
            refine k_iload_n (n := 60) F dX10_balance_59 rfl 3 rfl rfl ?_
            refine k_rald_33 (n := 61) (N := 0) (f := a 33) F rfl (kIx_nI (j := 0) (by decide) (by decide)) dX10_balance_60 rfl ?_
            refine k_if_ne (n := 64) (tgt := 70) F dX10_balance_61 (by decide) rfl (fun hc15 => ?_) (fun hc15 => ?_)
            · refine k_iload_n (n := 71) F dX10_balance_70 rfl 1 rfl rfl ?_
              refine k_if_le (n := 74) (tgt := 78) F dX10_balance_71 (by decide) rfl (fun h9 => absurd h9 (by decide)) (fun _ => ?_)
              refine k_ldc2 (n := 77) (v := -9) F mw_805 dX10_balance_74 rfl ?_
              exact k_lret F (by rw [f_bal_0]; simp [lostN, zb, rdM, rdR, h17, i64a, i64b, hc2, hc10, hc14, hc15]) rfl dX10_balance_77
            · refine k_aload_n (n := 65) F dX10_balance_64 rfl 2 rfl rfl ?_
              refine k_iload_n (n := 66) F dX10_balance_65 rfl 3 rfl rfl ?_
              refine k_clR (n := 69) F (k_rV (k := 1) (b := h0) (As := [.int 0]) (rest := []) F (r_reads l g h0 ad i l_ a h 0) [0, 1, 2, 3, 4, 5, 6, 7, 8, 9, 10, 11, 12, 13, 14] rfl rfl 0 rfl rfl mw_809 mw_806 mw_808 mw_s27 mw_9 (by decide) ⟨by decide, by decide⟩ rfl (Nat.le_of_ble_eq_true rfl) ⟨by decide, by decide⟩ dX10_balance_66) [0, 1, 2, 3, 4, 5, 6, 7, 8, 9, 10, 11, 12, 13, 14] rfl rfl ?_
              exact k_lret F (by rw [f_bal_0]; simp [lostN, zb, rdM, rdR, h17, i64a, i64b, hc2, hc10, hc14, hc15]) rfl dX10_balance_69
          · refine k_iconst (n := 43) (v := 1) F dX10_balance_42 rfl rfl ?_
            refine k_goto (tgt := 47) F dX10_balance_43 (by decide) ?_
            refine k_iadd (n := 48) F dX10_balance_47 rfl ?_
            refine k_valI (y := 3) rfl ?_
            refine k_istore_n (n := 49) (lv' := [(2, .int 3), (3, .int 3), (0, .ref h0), (1, .int 0)]) F dX10_balance_48 rfl (by decide) rfl rfl ?_
            refine k_iinc (n := 52) (j := 1) (v := 4) (lv' := [(3, .int 4), (2, .int 3), (0, .ref h0), (1, .int 0)]) F dX10_balance_49 rfl rfl (by decide) rfl rfl ?_
            refine k_goto (tgt := 22) F dX10_balance_52 (by decide) ?_
            refine k_iload_n (n := 23) F dX10_balance_22 rfl 0 rfl rfl ?_
            refine k_iconst (n := 24) (v := 4) F dX10_balance_23 rfl rfl ?_
            refine k_icmp_ge (n := 27) (tgt := 55) F dX10_balance_24 (by decide) rfl (fun _ => ?_) (fun h9 => absurd h9 (by decide))
            refine k_aload_n (n := 56) F dX10_balance_55 rfl 2 rfl rfl ?_
            refine k_rget_33 (n := 59) F dX10_balance_56 rfl ?_
            refine k_iload_n (n := 60) F dX10_balance_59 rfl 3 rfl rfl ?_
            refine k_rald_33 (n := 61) (N := 0) (f := a 33) F rfl (kIx_nI (j := 0) (by decide) (by decide)) dX10_balance_60 rfl ?_
            refine k_if_ne (n := 64) (tgt := 70) F dX10_balance_61 (by decide) rfl (fun hc16 => ?_) (fun hc16 => ?_)
            · refine k_iload_n (n := 71) F dX10_balance_70 rfl 1 rfl rfl ?_
              refine k_if_le (n := 74) (tgt := 78) F dX10_balance_71 (by decide) rfl (fun h9 => absurd h9 (by decide)) (fun _ => ?_)
              refine k_ldc2 (n := 77) (v := -9) F mw_805 dX10_balance_74 rfl ?_
              exact k_lret F (by rw [f_bal_0]; simp [lostN, zb, rdM, rdR, h17, i64a, i64b, hc2, hc10, hc14, hc16]) rfl dX10_balance_77
            · refine k_aload_n (n := 65) F dX10_balance_64 rfl 2 rfl rfl ?_
              refine k_iload_n (n := 66) F dX10_balance_65 rfl 3 rfl rfl ?_
              refine k_clR (n := 69) F (k_rV (k := 1) (b := h0) (As := [.int 0]) (rest := []) F (r_reads l g h0 ad i l_ a h 0) [0, 1, 2, 3, 4, 5, 6, 7, 8, 9, 10, 11, 12, 13, 14] rfl rfl 0 rfl rfl mw_809 mw_806 mw_808 mw_s27 mw_9 (by decide) ⟨by decide, by decide⟩ rfl (Nat.le_of_ble_eq_true rfl) ⟨by decide, by decide⟩ dX10_balance_66) [0, 1, 2, 3, 4, 5, 6, 7, 8, 9, 10, 11, 12, 13, 14] rfl rfl ?_
              exact k_lret F (by rw [f_bal_0]; simp [lostN, zb, rdM, rdR, h17, i64a, i64b, hc2, hc10, hc14, hc16]) rfl dX10_balance_69
    · refine k_iconst (n := 19) (v := 0) F dX10_balance_18 rfl rfl ?_
      refine k_istore_n (n := 20) (lv' := [(2, .int 0), (0, .ref h0), (1, .int 1)]) F dX10_balance_19 rfl (by decide) rfl rfl ?_
      refine k_iconst (n := 21) (v := 0) F dX10_balance_20 rfl rfl ?_
      refine k_istore_n (n := 22) (lv' := [(3, .int 0), (2, .int 0), (0, .ref h0), (1, .int 1)]) F dX10_balance_21 rfl (by decide) rfl rfl ?_
      refine k_iload_n (n := 23) F dX10_balance_22 rfl 0 rfl rfl ?_
      refine k_iconst (n := 24) (v := 4) F dX10_balance_23 rfl rfl ?_
      refine k_icmp_ge (n := 27) (tgt := 55) F dX10_balance_24 (by decide) rfl (fun h9 => absurd h9 (by decide)) (fun _ => ?_)
      refine k_iload_n (n := 28) F dX10_balance_27 rfl 1 rfl rfl ?_
      refine k_iload_n (n := 29) F dX10_balance_28 rfl 0 rfl rfl ?_
      refine k_iload_n (n := 30) F dX10_balance_29 rfl 3 rfl rfl ?_
      refine k_icmp_eq (n := 33) (tgt := 46) F dX10_balance_30 (by decide) rfl (fun h9 => absurd h9 (by decide)) (fun _ => ?_)
      refine k_aload_n (n := 34) F dX10_balance_33 rfl 2 rfl rfl ?_
      refine k_rget_33 (n := 37) F dX10_balance_34 rfl ?_
      refine k_iload_n (n := 38) F dX10_balance_37 rfl 0 rfl rfl ?_
      refine k_rald_33 (n := 39) (N := 0) (f := a 33) F rfl (kIx_nI (j := 0) (by decide) (by decide)) dX10_balance_38 rfl ?_
      refine k_if_eq (n := 42) (tgt := 46) F dX10_balance_39 (by decide) rfl (fun hc17 => ?_) (fun hc17 => ?_)
      · refine k_iconst (n := 47) (v := 0) F dX10_balance_46 rfl rfl ?_
        refine k_iadd (n := 48) F dX10_balance_47 rfl ?_
        refine k_valI (y := 0) rfl ?_
        refine k_istore_n (n := 49) (lv' := [(2, .int 0), (3, .int 0), (0, .ref h0), (1, .int 1)]) F dX10_balance_48 rfl (by decide) rfl rfl ?_
        refine k_iinc (n := 52) (j := 1) (v := 1) (lv' := [(3, .int 1), (2, .int 0), (0, .ref h0), (1, .int 1)]) F dX10_balance_49 rfl rfl (by decide) rfl rfl ?_
        refine k_goto (tgt := 22) F dX10_balance_52 (by decide) ?_
        refine k_iload_n (n := 23) F dX10_balance_22 rfl 0 rfl rfl ?_
        refine k_iconst (n := 24) (v := 4) F dX10_balance_23 rfl rfl ?_
        refine k_icmp_ge (n := 27) (tgt := 55) F dX10_balance_24 (by decide) rfl (fun h9 => absurd h9 (by decide)) (fun _ => ?_)
        refine k_iload_n (n := 28) F dX10_balance_27 rfl 1 rfl rfl ?_
        refine k_iload_n (n := 29) F dX10_balance_28 rfl 0 rfl rfl ?_
        refine k_iload_n (n := 30) F dX10_balance_29 rfl 3 rfl rfl ?_
        refine k_icmp_eq (n := 33) (tgt := 46) F dX10_balance_30 (by decide) rfl (fun _ => ?_) (fun h9 => absurd h9 (by decide))
        refine k_iconst (n := 47) (v := 0) F dX10_balance_46 rfl rfl ?_
        refine k_iadd (n := 48) F dX10_balance_47 rfl ?_
        refine k_valI (y := 0) rfl ?_
        refine k_istore_n (n := 49) (lv' := [(2, .int 0), (3, .int 1), (0, .ref h0), (1, .int 1)]) F dX10_balance_48 rfl (by decide) rfl rfl ?_
        refine k_iinc (n := 52) (j := 1) (v := 2) (lv' := [(3, .int 2), (2, .int 0), (0, .ref h0), (1, .int 1)]) F dX10_balance_49 rfl rfl (by decide) rfl rfl ?_
        refine k_goto (tgt := 22) F dX10_balance_52 (by decide) ?_
        refine k_iload_n (n := 23) F dX10_balance_22 rfl 0 rfl rfl ?_
        refine k_iconst (n := 24) (v := 4) F dX10_balance_23 rfl rfl ?_
        refine k_icmp_ge (n := 27) (tgt := 55) F dX10_balance_24 (by decide) rfl (fun h9 => absurd h9 (by decide)) (fun _ => ?_)
        refine k_iload_n (n := 28) F dX10_balance_27 rfl 1 rfl rfl ?_
        refine k_iload_n (n := 29) F dX10_balance_28 rfl 0 rfl rfl ?_
        refine k_iload_n (n := 30) F dX10_balance_29 rfl 3 rfl rfl ?_
        refine k_icmp_eq (n := 33) (tgt := 46) F dX10_balance_30 (by decide) rfl (fun h9 => absurd h9 (by decide)) (fun _ => ?_)
        refine k_aload_n (n := 34) F dX10_balance_33 rfl 2 rfl rfl ?_
        refine k_rget_33 (n := 37) F dX10_balance_34 rfl ?_
        refine k_iload_n (n := 38) F dX10_balance_37 rfl 0 rfl rfl ?_
        refine k_rald_33 (n := 39) (N := 2) (f := a 33) F rfl (kIx_nI (j := 2) (by decide) (by decide)) dX10_balance_38 rfl ?_
        refine k_if_eq (n := 42) (tgt := 46) F dX10_balance_39 (by decide) rfl (fun hc18 => ?_) (fun hc18 => ?_)
        · refine k_iconst (n := 47) (v := 0) F dX10_balance_46 rfl rfl ?_
          refine k_iadd (n := 48) F dX10_balance_47 rfl ?_
          refine k_valI (y := 0) rfl ?_
          refine k_istore_n (n := 49) (lv' := [(2, .int 0), (3, .int 2), (0, .ref h0), (1, .int 1)]) F dX10_balance_48 rfl (by decide) rfl rfl ?_
          refine k_iinc (n := 52) (j := 1) (v := 3) (lv' := [(3, .int 3), (2, .int 0), (0, .ref h0), (1, .int 1)]) F dX10_balance_49 rfl rfl (by decide) rfl rfl ?_
          refine k_goto (tgt := 22) F dX10_balance_52 (by decide) ?_
          refine k_iload_n (n := 23) F dX10_balance_22 rfl 0 rfl rfl ?_
          refine k_iconst (n := 24) (v := 4) F dX10_balance_23 rfl rfl ?_
          refine k_icmp_ge (n := 27) (tgt := 55) F dX10_balance_24 (by decide) rfl (fun h9 => absurd h9 (by decide)) (fun _ => ?_)
          refine k_iload_n (n := 28) F dX10_balance_27 rfl 1 rfl rfl ?_
          refine k_iload_n (n := 29) F dX10_balance_28 rfl 0 rfl rfl ?_
          refine k_iload_n (n := 30) F dX10_balance_29 rfl 3 rfl rfl ?_
          refine k_icmp_eq (n := 33) (tgt := 46) F dX10_balance_30 (by decide) rfl (fun h9 => absurd h9 (by decide)) (fun _ => ?_)
          refine k_aload_n (n := 34) F dX10_balance_33 rfl 2 rfl rfl ?_
          refine k_rget_33 (n := 37) F dX10_balance_34 rfl ?_
          refine k_iload_n (n := 38) F dX10_balance_37 rfl 0 rfl rfl ?_
          refine k_rald_33 (n := 39) (N := 3) (f := a 33) F rfl (kIx_nI (j := 3) (by decide) (by decide)) dX10_balance_38 rfl ?_
          refine k_if_eq (n := 42) (tgt := 46) F dX10_balance_39 (by decide) rfl (fun hc19 => ?_) (fun hc19 => ?_)
          · refine k_iconst (n := 47) (v := 0) F dX10_balance_46 rfl rfl ?_
            refine k_iadd (n := 48) F dX10_balance_47 rfl ?_
            refine k_valI (y := 0) rfl ?_
            refine k_istore_n (n := 49) (lv' := [(2, .int 0), (3, .int 3), (0, .ref h0), (1, .int 1)]) F dX10_balance_48 rfl (by decide) rfl rfl ?_
            refine k_iinc (n := 52) (j := 1) (v := 4) (lv' := [(3, .int 4), (2, .int 0), (0, .ref h0), (1, .int 1)]) F dX10_balance_49 rfl rfl (by decide) rfl rfl ?_
            refine k_goto (tgt := 22) F dX10_balance_52 (by decide) ?_
            refine k_iload_n (n := 23) F dX10_balance_22 rfl 0 rfl rfl ?_
            refine k_iconst (n := 24) (v := 4) F dX10_balance_23 rfl rfl ?_
            refine k_icmp_ge (n := 27) (tgt := 55) F dX10_balance_24 (by decide) rfl (fun _ => ?_) (fun h9 => absurd h9 (by decide))
            refine k_aload_n (n := 56) F dX10_balance_55 rfl 2 rfl rfl ?_
            refine k_rget_33 (n := 59) F dX10_balance_56 rfl ?_
            refine k_iload_n (n := 60) F dX10_balance_59 rfl 3 rfl rfl ?_
            refine k_rald_33 (n := 61) (N := 1) (f := a 33) F rfl (kIx_nI (j := 1) (by decide) (by decide)) dX10_balance_60 rfl ?_
            refine k_if_ne (n := 64) (tgt := 70) F dX10_balance_61 (by decide) rfl (fun hc20 => ?_) (fun hc20 => ?_)
            · refine k_iload_n (n := 71) F dX10_balance_70 rfl 1 rfl rfl ?_
              refine k_if_le (n := 74) (tgt := 78) F dX10_balance_71 (by decide) rfl (fun _ => ?_) (fun h9 => absurd h9 (by decide))
              refine k_iload_n (n := 79) F dX10_balance_78 rfl 3 rfl rfl ?_
              refine k_if_ne (n := 82) (tgt := 102) F dX10_balance_79 (by decide) rfl (fun _ => ?_) (fun h9 => absurd h9 (by decide))
              refine k_aload_n (n := 103) F dX10_balance_102 rfl 2 rfl rfl ?_
              refine k_iconst (n := 104) (v := 0) F dX10_balance_103 rfl rfl ?_
              refine k_clR (n := 107) F (k_rV (k := 1) (b := h0) (As := [.int 0]) (rest := []) F (r_reads l g h0 ad i l_ a h 0) [0, 1, 2, 3, 4, 5, 6, 7, 8, 9, 10, 11, 12, 13, 14] rfl rfl 0 rfl rfl mw_809 mw_806 mw_808 mw_s27 mw_9 (by decide) ⟨by decide, by decide⟩ rfl (Nat.le_of_ble_eq_true rfl) ⟨by decide, by decide⟩ dX10_balance_104) [0, 1, 2, 3, 4, 5, 6, 7, 8, 9, 10, 11, 12, 13, 14] rfl rfl ?_
              refine k_aload_n (n := 108) F dX10_balance_107 rfl 2 rfl rfl ?_
              refine k_iconst (n := 109) (v := 1) F dX10_balance_108 rfl rfl ?_
              refine k_clR (n := 112) F (k_rV (k := 1) (b := h0) (As := [.int 1]) (rest := [.long (rdR (i, l_, a, h) 0)]) F (r_reads l g h0 ad i l_ a h 1) [0, 1, 2, 3, 4, 5, 6, 7, 8, 9, 10, 11, 12, 13, 14] rfl rfl 0 rfl rfl mw_809 mw_806 mw_808 mw_s27 mw_9 (by decide) ⟨by decide, by decide⟩ rfl (Nat.le_of_ble_eq_true rfl) ⟨by decide, by decide⟩ dX10_balance_109) [0, 1, 2, 3, 4, 5, 6, 7, 8, 9, 10, 11, 12, 13, 14] rfl rfl ?_
              refine k_aload_n (n := 113) F dX10_balance_112 rfl 2 rfl rfl ?_
              refine k_iconst (n := 114) (v := 2) F dX10_balance_113 rfl rfl ?_
              refine k_clR (n := 117) F (k_rV (k := 1) (b := h0) (As := [.int 2]) (rest := [.long (rdR (i, l_, a, h) 1), .long (rdR (i, l_, a, h) 0)]) F (r_reads l g h0 ad i l_ a h 2) [0, 1, 2, 3, 4, 5, 6, 7, 8, 9, 10, 11, 12, 13, 14] rfl rfl 0 rfl rfl mw_809 mw_806 mw_808 mw_s27 mw_9 (by decide) ⟨by decide, by decide⟩ rfl (Nat.le_of_ble_eq_true rfl) ⟨by decide, by decide⟩ dX10_balance_114) [0, 1, 2, 3, 4, 5, 6, 7, 8, 9, 10, 11, 12, 13, 14] rfl rfl ?_
              refine k_ladd (n := 118) F dX10_balance_117 rfl ?_
              refine k_aload_n (n := 119) F dX10_balance_118 rfl 2 rfl rfl ?_
              refine k_iconst (n := 120) (v := 3) F dX10_balance_119 rfl rfl ?_
              refine k_clR (n := 123) F (k_rV (k := 1) (b := h0) (As := [.int 3]) (rest := [.long ((rdR (i, l_, a, h) 1) + (rdR (i, l_, a, h) 2)), .long (rdR (i, l_, a, h) 0)]) F (r_reads l g h0 ad i l_ a h 3) [0, 1, 2, 3, 4, 5, 6, 7, 8, 9, 10, 11, 12, 13, 14] rfl rfl 0 rfl rfl mw_809 mw_806 mw_808 mw_s27 mw_9 (by decide) ⟨by decide, by decide⟩ rfl (Nat.le_of_ble_eq_true rfl) ⟨by decide, by decide⟩ dX10_balance_120) [0, 1, 2, 3, 4, 5, 6, 7, 8, 9, 10, 11, 12, 13, 14] rfl rfl ?_
              refine k_ladd (n := 124) F dX10_balance_123 rfl ?_
              refine k_aload_n (n := 125) F dX10_balance_124 rfl 2 rfl rfl ?_
              refine k_iload_n (n := 126) F dX10_balance_125 rfl 3 rfl rfl ?_
              refine k_clR (n := 129) F (k_rV (k := 1) (b := h0) (As := [.int 1]) (rest := [.long (((rdR (i, l_, a, h) 1) + (rdR (i, l_, a, h) 2)) + (rdR (i, l_, a, h) 3)), .long (rdR (i, l_, a, h) 0)]) F (r_reads l g h0 ad i l_ a h 1) [0, 1, 2, 3, 4, 5, 6, 7, 8, 9, 10, 11, 12, 13, 14] rfl rfl 0 rfl rfl mw_809 mw_806 mw_808 mw_s27 mw_9 (by decide) ⟨by decide, by decide⟩ rfl (Nat.le_of_ble_eq_true rfl) ⟨by decide, by decide⟩ dX10_balance_126) [0, 1, 2, 3, 4, 5, 6, 7, 8, 9, 10, 11, 12, 13, 14] rfl rfl ?_
              refine k_lsub (n := 130) F dX10_balance_129 rfl ?_
              refine k_lsub (n := 131) F dX10_balance_130 rfl ?_
              exact k_lret F (by rw [f_bal_1]; simp [lostN, zb, rdM, rdR, h17, i64a, i64b, hc17, hc18, hc19, hc20]) rfl dX10_balance_131
            · refine k_aload_n (n := 65) F dX10_balance_64 rfl 2 rfl rfl ?_
              refine k_iload_n (n := 66) F dX10_balance_65 rfl 3 rfl rfl ?_
              refine k_clR (n := 69) F (k_rV (k := 1) (b := h0) (As := [.int 1]) (rest := []) F (r_reads l g h0 ad i l_ a h 1) [0, 1, 2, 3, 4, 5, 6, 7, 8, 9, 10, 11, 12, 13, 14] rfl rfl 0 rfl rfl mw_809 mw_806 mw_808 mw_s27 mw_9 (by decide) ⟨by decide, by decide⟩ rfl (Nat.le_of_ble_eq_true rfl) ⟨by decide, by decide⟩ dX10_balance_66) [0, 1, 2, 3, 4, 5, 6, 7, 8, 9, 10, 11, 12, 13, 14] rfl rfl ?_
              exact k_lret F (by rw [f_bal_1]; simp [lostN, zb, rdM, rdR, h17, i64a, i64b, hc17, hc18, hc19, hc20]) rfl dX10_balance_69
          · refine k_iconst (n := 43) (v := 1) F dX10_balance_42 rfl rfl ?_
            refine k_goto (tgt := 47) F dX10_balance_43 (by decide) ?_
            refine k_iadd (n := 48) F dX10_balance_47 rfl ?_
            refine k_valI (y := 1) rfl ?_
            refine k_istore_n (n := 49) (lv' := [(2, .int 1), (3, .int 3), (0, .ref h0), (1, .int 1)]) F dX10_balance_48 rfl (by decide) rfl rfl ?_
            refine k_iinc (n := 52) (j := 1) (v := 4) (lv' := [(3, .int 4), (2, .int 1), (0, .ref h0), (1, .int 1)]) F dX10_balance_49 rfl rfl (by decide) rfl rfl ?_
            refine k_goto (tgt := 22) F dX10_balance_52 (by decide) ?_
            refine k_iload_n (n := 23) F dX10_balance_22 rfl 0 rfl rfl ?_
            refine k_iconst (n := 24) (v := 4) F dX10_balance_23 rfl rfl ?_
            refine k_icmp_ge (n := 27) (tgt := 55) F dX10_balance_24 (by decide) rfl (fun _ => ?_) (fun h9 => absurd h9 (by decide))
            refine k_aload_n (n := 56) F dX10_balance_55 rfl 2 rfl rfl ?_
            refine k_rget_33 (n := 59) F dX10_balance_56 rfl ?_
            refine k_iload_n (n := 60) F dX10_balance_59 rfl 3 rfl rfl ?_
            refine k_rald_33 (n := 61) (N := 1) (f := a 33) F rfl (kIx_nI (j := 1) (by decide) (by decide)) dX10_balance_60 rfl ?_
            refine k_if_ne (n := 64) (tgt := 70) F dX10_balance_61 (by decide) rfl (fun hc21 => ?_) (fun hc21 => ?_)
            · refine k_iload_n (n := 71) F dX10_balance_70 rfl 1 rfl rfl ?_
              refine k_if_le (n := 74) (tgt := 78) F dX10_balance_71 (by decide) rfl (fun h9 => absurd h9 (by decide)) (fun _ => ?_)
              refine k_ldc2 (n := 77) (v := -9) F mw_805 dX10_balance_74 rfl ?_
              exact k_lret F (by rw [f_bal_1]; simp [lostN, zb, rdM, rdR, h17, i64a, i64b, hc17, hc18, hc19, hc21]) rfl dX10_balance_77
            · refine k_aload_n (n := 65) F dX10_balance_64 rfl 2 rfl rfl ?_
              refine k_iload_n (n := 66) F dX10_balance_65 rfl 3 rfl rfl ?_
              refine k_clR (n := 69) F (k_rV (k := 1) (b := h0) (As := [.int 1]) (rest := []) F (r_reads l g h0 ad i l_ a h 1) [0, 1, 2, 3, 4, 5, 6, 7, 8, 9, 10, 11, 12, 13, 14] rfl rfl 0 rfl rfl mw_809 mw_806 mw_808 mw_s27 mw_9 (by decide) ⟨by decide, by decide⟩ rfl (Nat.le_of_ble_eq_true rfl) ⟨by decide, by decide⟩ dX10_balance_66) [0, 1, 2, 3, 4, 5, 6, 7, 8, 9, 10, 11, 12, 13, 14] rfl rfl ?_
              exact k_lret F (by rw [f_bal_1]; simp [lostN, zb, rdM, rdR, h17, i64a, i64b, hc17, hc18, hc19, hc21]) rfl dX10_balance_69
        · refine k_iconst (n := 43) (v := 1) F dX10_balance_42 rfl rfl ?_
          refine k_goto (tgt := 47) F dX10_balance_43 (by decide) ?_
          refine k_iadd (n := 48) F dX10_balance_47 rfl ?_
          refine k_valI (y := 1) rfl ?_
          refine k_istore_n (n := 49) (lv' := [(2, .int 1), (3, .int 2), (0, .ref h0), (1, .int 1)]) F dX10_balance_48 rfl (by decide) rfl rfl ?_
          refine k_iinc (n := 52) (j := 1) (v := 3) (lv' := [(3, .int 3), (2, .int 1), (0, .ref h0), (1, .int 1)]) F dX10_balance_49 rfl rfl (by decide) rfl rfl ?_
          refine k_goto (tgt := 22) F dX10_balance_52 (by decide) ?_
          refine k_iload_n (n := 23) F dX10_balance_22 rfl 0 rfl rfl ?_
          refine k_iconst (n := 24) (v := 4) F dX10_balance_23 rfl rfl ?_
          refine k_icmp_ge (n := 27) (tgt := 55) F dX10_balance_24 (by decide) rfl (fun h9 => absurd h9 (by decide)) (fun _ => ?_)
          refine k_iload_n (n := 28) F dX10_balance_27 rfl 1 rfl rfl ?_
          refine k_iload_n (n := 29) F dX10_balance_28 rfl 0 rfl rfl ?_
          refine k_iload_n (n := 30) F dX10_balance_29 rfl 3 rfl rfl ?_
          refine k_icmp_eq (n := 33) (tgt := 46) F dX10_balance_30 (by decide) rfl (fun h9 => absurd h9 (by decide)) (fun _ => ?_)
          refine k_aload_n (n := 34) F dX10_balance_33 rfl 2 rfl rfl ?_
          refine k_rget_33 (n := 37) F dX10_balance_34 rfl ?_
          refine k_iload_n (n := 38) F dX10_balance_37 rfl 0 rfl rfl ?_
          refine k_rald_33 (n := 39) (N := 3) (f := a 33) F rfl (kIx_nI (j := 3) (by decide) (by decide)) dX10_balance_38 rfl ?_
          refine k_if_eq (n := 42) (tgt := 46) F dX10_balance_39 (by decide) rfl (fun hc22 => ?_) (fun hc22 => ?_)
          · refine k_iconst (n := 47) (v := 0) F dX10_balance_46 rfl rfl ?_
            refine k_iadd (n := 48) F dX10_balance_47 rfl ?_
            refine k_valI (y := 1) rfl ?_
            refine k_istore_n (n := 49) (lv' := [(2, .int 1), (3, .int 3), (0, .ref h0), (1, .int 1)]) F dX10_balance_48 rfl (by decide) rfl rfl ?_
            refine k_iinc (n := 52) (j := 1) (v := 4) (lv' := [(3, .int 4), (2, .int 1), (0, .ref h0), (1, .int 1)]) F dX10_balance_49 rfl rfl (by decide) rfl rfl ?_
            refine k_goto (tgt := 22) F dX10_balance_52 (by decide) ?_
            refine k_iload_n (n := 23) F dX10_balance_22 rfl 0 rfl rfl ?_
            refine k_iconst (n := 24) (v := 4) F dX10_balance_23 rfl rfl ?_
            refine k_icmp_ge (n := 27) (tgt := 55) F dX10_balance_24 (by decide) rfl (fun _ => ?_) (fun h9 => absurd h9 (by decide))
            refine k_aload_n (n := 56) F dX10_balance_55 rfl 2 rfl rfl ?_
            refine k_rget_33 (n := 59) F dX10_balance_56 rfl ?_
            refine k_iload_n (n := 60) F dX10_balance_59 rfl 3 rfl rfl ?_
            refine k_rald_33 (n := 61) (N := 1) (f := a 33) F rfl (kIx_nI (j := 1) (by decide) (by decide)) dX10_balance_60 rfl ?_
            refine k_if_ne (n := 64) (tgt := 70) F dX10_balance_61 (by decide) rfl (fun hc23 => ?_) (fun hc23 => ?_)
            · refine k_iload_n (n := 71) F dX10_balance_70 rfl 1 rfl rfl ?_
              refine k_if_le (n := 74) (tgt := 78) F dX10_balance_71 (by decide) rfl (fun h9 => absurd h9 (by decide)) (fun _ => ?_)
              refine k_ldc2 (n := 77) (v := -9) F mw_805 dX10_balance_74 rfl ?_
              exact k_lret F (by rw [f_bal_1]; simp [lostN, zb, rdM, rdR, h17, i64a, i64b, hc17, hc18, hc22, hc23]) rfl dX10_balance_77
            · refine k_aload_n (n := 65) F dX10_balance_64 rfl 2 rfl rfl ?_
              refine k_iload_n (n := 66) F dX10_balance_65 rfl 3 rfl rfl ?_
              refine k_clR (n := 69) F (k_rV (k := 1) (b := h0) (As := [.int 1]) (rest := []) F (r_reads l g h0 ad i l_ a h 1) [0, 1, 2, 3, 4, 5, 6, 7, 8, 9, 10, 11, 12, 13, 14] rfl rfl 0 rfl rfl mw_809 mw_806 mw_808 mw_s27 mw_9 (by decide) ⟨by decide, by decide⟩ rfl (Nat.le_of_ble_eq_true rfl) ⟨by decide, by decide⟩ dX10_balance_66) [0, 1, 2, 3, 4, 5, 6, 7, 8, 9, 10, 11, 12, 13, 14] rfl rfl ?_
              exact k_lret F (by rw [f_bal_1]; simp [lostN, zb, rdM, rdR, h17, i64a, i64b, hc17, hc18, hc22, hc23]) rfl dX10_balance_69
          · refine k_iconst (n := 43) (v := 1) F dX10_balance_42 rfl rfl ?_
            refine k_goto (tgt := 47) F dX10_balance_43 (by decide) ?_
            refine k_iadd (n := 48) F dX10_balance_47 rfl ?_
            refine k_valI (y := 2) rfl ?_
            refine k_istore_n (n := 49) (lv' := [(2, .int 2), (3, .int 3), (0, .ref h0), (1, .int 1)]) F dX10_balance_48 rfl (by decide) rfl rfl ?_
            refine k_iinc (n := 52) (j := 1) (v := 4) (lv' := [(3, .int 4), (2, .int 2), (0, .ref h0), (1, .int 1)]) F dX10_balance_49 rfl rfl (by decide) rfl rfl ?_
            refine k_goto (tgt := 22) F dX10_balance_52 (by decide) ?_
            refine k_iload_n (n := 23) F dX10_balance_22 rfl 0 rfl rfl ?_
            refine k_iconst (n := 24) (v := 4) F dX10_balance_23 rfl rfl ?_
            refine k_icmp_ge (n := 27) (tgt := 55) F dX10_balance_24 (by decide) rfl (fun _ => ?_) (fun h9 => absurd h9 (by decide))
            refine k_aload_n (n := 56) F dX10_balance_55 rfl 2 rfl rfl ?_
            refine k_rget_33 (n := 59) F dX10_balance_56 rfl ?_
            refine k_iload_n (n := 60) F dX10_balance_59 rfl 3 rfl rfl ?_
            refine k_rald_33 (n := 61) (N := 1) (f := a 33) F rfl (kIx_nI (j := 1) (by decide) (by decide)) dX10_balance_60 rfl ?_
            refine k_if_ne (n := 64) (tgt := 70) F dX10_balance_61 (by decide) rfl (fun hc24 => ?_) (fun hc24 => ?_)
            · refine k_iload_n (n := 71) F dX10_balance_70 rfl 1 rfl rfl ?_
              refine k_if_le (n := 74) (tgt := 78) F dX10_balance_71 (by decide) rfl (fun h9 => absurd h9 (by decide)) (fun _ => ?_)
              refine k_ldc2 (n := 77) (v := -9) F mw_805 dX10_balance_74 rfl ?_
              exact k_lret F (by rw [f_bal_1]; simp [lostN, zb, rdM, rdR, h17, i64a, i64b, hc17, hc18, hc22, hc24]) rfl dX10_balance_77
            · refine k_aload_n (n := 65) F dX10_balance_64 rfl 2 rfl rfl ?_
              refine k_iload_n (n := 66) F dX10_balance_65 rfl 3 rfl rfl ?_
              refine k_clR (n := 69) F (k_rV (k := 1) (b := h0) (As := [.int 1]) (rest := []) F (r_reads l g h0 ad i l_ a h 1) [0, 1, 2, 3, 4, 5, 6, 7, 8, 9, 10, 11, 12, 13, 14] rfl rfl 0 rfl rfl mw_809 mw_806 mw_808 mw_s27 mw_9 (by decide) ⟨by decide, by decide⟩ rfl (Nat.le_of_ble_eq_true rfl) ⟨by decide, by decide⟩ dX10_balance_66) [0, 1, 2, 3, 4, 5, 6, 7, 8, 9, 10, 11, 12, 13, 14] rfl rfl ?_
              exact k_lret F (by rw [f_bal_1]; simp [lostN, zb, rdM, rdR, h17, i64a, i64b, hc17, hc18, hc22, hc24]) rfl dX10_balance_69
      · refine k_iconst (n := 43) (v := 1) F dX10_balance_42 rfl rfl ?_
        refine k_goto (tgt := 47) F dX10_balance_43 (by decide) ?_
        refine k_iadd (n := 48) F dX10_balance_47 rfl ?_
        refine k_valI (y := 1) rfl ?_
        refine k_istore_n (n := 49) (lv' := [(2, .int 1), (3, .int 0), (0, .ref h0), (1, .int 1)]) F dX10_balance_48 rfl (by decide) rfl rfl ?_
        refine k_iinc (n := 52) (j := 1) (v := 1) (lv' := [(3, .int 1), (2, .int 1), (0, .ref h0), (1, .int 1)]) F dX10_balance_49 rfl rfl (by decide) rfl rfl ?_
        refine k_goto (tgt := 22) F dX10_balance_52 (by decide) ?_
        refine k_iload_n (n := 23) F dX10_balance_22 rfl 0 rfl rfl ?_
        refine k_iconst (n := 24) (v := 4) F dX10_balance_23 rfl rfl ?_
        refine k_icmp_ge (n := 27) (tgt := 55) F dX10_balance_24 (by decide) rfl (fun h9 => absurd h9 (by decide)) (fun _ => ?_)
        refine k_iload_n (n := 28) F dX10_balance_27 rfl 1 rfl rfl ?_
        refine k_iload_n (n := 29) F dX10_balance_28 rfl 0 rfl rfl ?_
        refine k_iload_n (n := 30) F dX10_balance_29 rfl 3 rfl rfl ?_
        refine k_icmp_eq (n := 33) (tgt := 46) F dX10_balance_30 (by decide) rfl (fun _ => ?_) (fun h9 => absurd h9 (by decide))
        refine k_iconst (n := 47) (v := 0) F dX10_balance_46 rfl rfl ?_
        refine k_iadd (n := 48) F dX10_balance_47 rfl ?_
        refine k_valI (y := 1) rfl ?_
        refine k_istore_n (n := 49) (lv' := [(2, .int 1), (3, .int 1), (0, .ref h0), (1, .int 1)]) F dX10_balance_48 rfl (by decide) rfl rfl ?_
        refine k_iinc (n := 52) (j := 1) (v := 2) (lv' := [(3, .int 2), (2, .int 1), (0, .ref h0), (1, .int 1)]) F dX10_balance_49 rfl rfl (by decide) rfl rfl ?_
        refine k_goto (tgt := 22) F dX10_balance_52 (by decide) ?_
        refine k_iload_n (n := 23) F dX10_balance_22 rfl 0 rfl rfl ?_
        refine k_iconst (n := 24) (v := 4) F dX10_balance_23 rfl rfl ?_
        refine k_icmp_ge (n := 27) (tgt := 55) F dX10_balance_24 (by decide) rfl (fun h9 => absurd h9 (by decide)) (fun _ => ?_)
        refine k_iload_n (n := 28) F dX10_balance_27 rfl 1 rfl rfl ?_
        refine k_iload_n (n := 29) F dX10_balance_28 rfl 0 rfl rfl ?_
        refine k_iload_n (n := 30) F dX10_balance_29 rfl 3 rfl rfl ?_
        refine k_icmp_eq (n := 33) (tgt := 46) F dX10_balance_30 (by decide) rfl (fun h9 => absurd h9 (by decide)) (fun _ => ?_)
        refine k_aload_n (n := 34) F dX10_balance_33 rfl 2 rfl rfl ?_
        refine k_rget_33 (n := 37) F dX10_balance_34 rfl ?_
        refine k_iload_n (n := 38) F dX10_balance_37 rfl 0 rfl rfl ?_
        refine k_rald_33 (n := 39) (N := 2) (f := a 33) F rfl (kIx_nI (j := 2) (by decide) (by decide)) dX10_balance_38 rfl ?_
        refine k_if_eq (n := 42) (tgt := 46) F dX10_balance_39 (by decide) rfl (fun hc25 => ?_) (fun hc25 => ?_)
        · refine k_iconst (n := 47) (v := 0) F dX10_balance_46 rfl rfl ?_
          refine k_iadd (n := 48) F dX10_balance_47 rfl ?_
          refine k_valI (y := 1) rfl ?_
          refine k_istore_n (n := 49) (lv' := [(2, .int 1), (3, .int 2), (0, .ref h0), (1, .int 1)]) F dX10_balance_48 rfl (by decide) rfl rfl ?_
          refine k_iinc (n := 52) (j := 1) (v := 3) (lv' := [(3, .int 3), (2, .int 1), (0, .ref h0), (1, .int 1)]) F dX10_balance_49 rfl rfl (by decide) rfl rfl ?_
          refine k_goto (tgt := 22) F dX10_balance_52 (by decide) ?_
          refine k_iload_n (n := 23) F dX10_balance_22 rfl 0 rfl rfl ?_
          refine k_iconst (n := 24) (v := 4) F dX10_balance_23 rfl rfl ?_
          refine k_icmp_ge (n := 27) (tgt := 55) F dX10_balance_24 (by decide) rfl (fun h9 => absurd h9 (by decide)) (fun _ => ?_)
          refine k_iload_n (n := 28) F dX10_balance_27 rfl 1 rfl rfl ?_
          refine k_iload_n (n := 29) F dX10_balance_28 rfl 0 rfl rfl ?_
          refine k_iload_n (n := 30) F dX10_balance_29 rfl 3 rfl rfl ?_
          refine k_icmp_eq (n := 33) (tgt := 46) F dX10_balance_30 (by decide) rfl (fun h9 => absurd h9 (by decide)) (fun _ => ?_)
          refine k_aload_n (n := 34) F dX10_balance_33 rfl 2 rfl rfl ?_
          refine k_rget_33 (n := 37) F dX10_balance_34 rfl ?_
          refine k_iload_n (n := 38) F dX10_balance_37 rfl 0 rfl rfl ?_
          refine k_rald_33 (n := 39) (N := 3) (f := a 33) F rfl (kIx_nI (j := 3) (by decide) (by decide)) dX10_balance_38 rfl ?_
          refine k_if_eq (n := 42) (tgt := 46) F dX10_balance_39 (by decide) rfl (fun hc26 => ?_) (fun hc26 => ?_)
          · refine k_iconst (n := 47) (v := 0) F dX10_balance_46 rfl rfl ?_
            refine k_iadd (n := 48) F dX10_balance_47 rfl ?_
            refine k_valI (y := 1) rfl ?_
            refine k_istore_n (n := 49) (lv' := [(2, .int 1), (3, .int 3), (0, .ref h0), (1, .int 1)]) F dX10_balance_48 rfl (by decide) rfl rfl ?_
            refine k_iinc (n := 52) (j := 1) (v := 4) (lv' := [(3, .int 4), (2, .int 1), (0, .ref h0), (1, .int 1)]) F dX10_balance_49 rfl rfl (by decide) rfl rfl ?_
            refine k_goto (tgt := 22) F dX10_balance_52 (by decide) ?_
            refine k_iload_n (n := 23) F dX10_balance_22 rfl 0 rfl rfl ?_
            refine k_iconst (n := 24) (v := 4) F dX10_balance_23 rfl rfl ?_
            refine k_icmp_ge (n := 27) (tgt := 55) F dX10_balance_24 (by decide) rfl (fun _ => ?_) (fun h9 => absurd h9 (by decide))
            refine k_aload_n (n := 56) F dX10_balance_55 rfl 2 rfl rfl ?_
            refine k_rget_33 (n := 59) F dX10_balance_56 rfl ?_
            refine k_iload_n (n := 60) F dX10_balance_59 rfl 3 rfl rfl ?_
            refine k_rald_33 (n := 61) (N := 1) (f := a 33) F rfl (kIx_nI (j := 1) (by decide) (by decide)) dX10_balance_60 rfl ?_
            refine k_if_ne (n := 64) (tgt := 70) F dX10_balance_61 (by decide) rfl (fun hc27 => ?_) (fun hc27 => ?_)
            · refine k_iload_n (n := 71) F dX10_balance_70 rfl 1 rfl rfl ?_
              refine k_if_le (n := 74) (tgt := 78) F dX10_balance_71 (by decide) rfl (fun h9 => absurd h9 (by decide)) (fun _ => ?_)
              refine k_ldc2 (n := 77) (v := -9) F mw_805 dX10_balance_74 rfl ?_
              exact k_lret F (by rw [f_bal_1]; simp [lostN, zb, rdM, rdR, h17, i64a, i64b, hc17, hc25, hc26, hc27]) rfl dX10_balance_77
            · refine k_aload_n (n := 65) F dX10_balance_64 rfl 2 rfl rfl ?_
              refine k_iload_n (n := 66) F dX10_balance_65 rfl 3 rfl rfl ?_
              refine k_clR (n := 69) F (k_rV (k := 1) (b := h0) (As := [.int 1]) (rest := []) F (r_reads l g h0 ad i l_ a h 1) [0, 1, 2, 3, 4, 5, 6, 7, 8, 9, 10, 11, 12, 13, 14] rfl rfl 0 rfl rfl mw_809 mw_806 mw_808 mw_s27 mw_9 (by decide) ⟨by decide, by decide⟩ rfl (Nat.le_of_ble_eq_true rfl) ⟨by decide, by decide⟩ dX10_balance_66) [0, 1, 2, 3, 4, 5, 6, 7, 8, 9, 10, 11, 12, 13, 14] rfl rfl ?_
              exact k_lret F (by rw [f_bal_1]; simp [lostN, zb, rdM, rdR, h17, i64a, i64b, hc17, hc25, hc26, hc27]) rfl dX10_balance_69
          · refine k_iconst (n := 43) (v := 1) F dX10_balance_42 rfl rfl ?_
            refine k_goto (tgt := 47) F dX10_balance_43 (by decide) ?_
            refine k_iadd (n := 48) F dX10_balance_47 rfl ?_
            refine k_valI (y := 2) rfl ?_
            refine k_istore_n (n := 49) (lv' := [(2, .int 2), (3, .int 3), (0, .ref h0), (1, .int 1)]) F dX10_balance_48 rfl (by decide) rfl rfl ?_
            refine k_iinc (n := 52) (j := 1) (v := 4) (lv' := [(3, .int 4), (2, .int 2), (0, .ref h0), (1, .int 1)]) F dX10_balance_49 rfl rfl (by decide) rfl rfl ?_
            refine k_goto (tgt := 22) F dX10_balance_52 (by decide) ?_
            refine k_iload_n (n := 23) F dX10_balance_22 rfl 0 rfl rfl ?_
            refine k_iconst (n := 24) (v := 4) F dX10_balance_23 rfl rfl ?_
            refine k_icmp_ge (n := 27) (tgt := 55) F dX10_balance_24 (by decide) rfl (fun _ => ?_) (fun h9 => absurd h9 (by decide))
            refine k_aload_n (n := 56) F dX10_balance_55 rfl 2 rfl rfl ?_
            refine k_rget_33 (n := 59) F dX10_balance_56 rfl ?_
            refine k_iload_n (n := 60) F dX10_balance_59 rfl 3 rfl rfl ?_
            refine k_rald_33 (n := 61) (N := 1) (f := a 33) F rfl (kIx_nI (j := 1) (by decide) (by decide)) dX10_balance_60 rfl ?_
            refine k_if_ne (n := 64) (tgt := 70) F dX10_balance_61 (by decide) rfl (fun hc28 => ?_) (fun hc28 => ?_)
            · refine k_iload_n (n := 71) F dX10_balance_70 rfl 1 rfl rfl ?_
              refine k_if_le (n := 74) (tgt := 78) F dX10_balance_71 (by decide) rfl (fun h9 => absurd h9 (by decide)) (fun _ => ?_)
              refine k_ldc2 (n := 77) (v := -9) F mw_805 dX10_balance_74 rfl ?_
              exact k_lret F (by rw [f_bal_1]; simp [lostN, zb, rdM, rdR, h17, i64a, i64b, hc17, hc25, hc26, hc28]) rfl dX10_balance_77
            · refine k_aload_n (n := 65) F dX10_balance_64 rfl 2 rfl rfl ?_
              refine k_iload_n (n := 66) F dX10_balance_65 rfl 3 rfl rfl ?_
              refine k_clR (n := 69) F (k_rV (k := 1) (b := h0) (As := [.int 1]) (rest := []) F (r_reads l g h0 ad i l_ a h 1) [0, 1, 2, 3, 4, 5, 6, 7, 8, 9, 10, 11, 12, 13, 14] rfl rfl 0 rfl rfl mw_809 mw_806 mw_808 mw_s27 mw_9 (by decide) ⟨by decide, by decide⟩ rfl (Nat.le_of_ble_eq_true rfl) ⟨by decide, by decide⟩ dX10_balance_66) [0, 1, 2, 3, 4, 5, 6, 7, 8, 9, 10, 11, 12, 13, 14] rfl rfl ?_
              exact k_lret F (by rw [f_bal_1]; simp [lostN, zb, rdM, rdR, h17, i64a, i64b, hc17, hc25, hc26, hc28]) rfl dX10_balance_69
        · refine k_iconst (n := 43) (v := 1) F dX10_balance_42 rfl rfl ?_
          refine k_goto (tgt := 47) F dX10_balance_43 (by decide) ?_
          refine k_iadd (n := 48) F dX10_balance_47 rfl ?_
          refine k_valI (y := 2) rfl ?_
          refine k_istore_n (n := 49) (lv' := [(2, .int 2), (3, .int 2), (0, .ref h0), (1, .int 1)]) F dX10_balance_48 rfl (by decide) rfl rfl ?_
          refine k_iinc (n := 52) (j := 1) (v := 3) (lv' := [(3, .int 3), (2, .int 2), (0, .ref h0), (1, .int 1)]) F dX10_balance_49 rfl rfl (by decide) rfl rfl ?_
          refine k_goto (tgt := 22) F dX10_balance_52 (by decide) ?_
          refine k_iload_n (n := 23) F dX10_balance_22 rfl 0 rfl rfl ?_
          refine k_iconst (n := 24) (v := 4) F dX10_balance_23 rfl rfl ?_
          refine k_icmp_ge (n := 27) (tgt := 55) F dX10_balance_24 (by decide) rfl (fun h9 => absurd h9 (by decide)) (fun _ => ?_)
          refine k_iload_n (n := 28) F dX10_balance_27 rfl 1 rfl rfl ?_
          refine k_iload_n (n := 29) F dX10_balance_28 rfl 0 rfl rfl ?_
          refine k_iload_n (n := 30) F dX10_balance_29 rfl 3 rfl rfl ?_
          refine k_icmp_eq (n := 33) (tgt := 46) F dX10_balance_30 (by decide) rfl (fun h9 => absurd h9 (by decide)) (fun _ => ?_)
          refine k_aload_n (n := 34) F dX10_balance_33 rfl 2 rfl rfl ?_
          refine k_rget_33 (n := 37) F dX10_balance_34 rfl ?_
          refine k_iload_n (n := 38) F dX10_balance_37 rfl 0 rfl rfl ?_
          refine k_rald_33 (n := 39) (N := 3) (f := a 33) F rfl (kIx_nI (j := 3) (by decide) (by decide)) dX10_balance_38 rfl ?_
          refine k_if_eq (n := 42) (tgt := 46) F dX10_balance_39 (by decide) rfl (fun hc29 => ?_) (fun hc29 => ?_)
          · refine k_iconst (n := 47) (v := 0) F dX10_balance_46 rfl rfl ?_
            refine k_iadd (n := 48) F dX10_balance_47 rfl ?_
            refine k_valI (y := 2) rfl ?_
            refine k_istore_n (n := 49) (lv' := [(2, .int 2), (3, .int 3), (0, .ref h0), (1, .int 1)]) F dX10_balance_48 rfl (by decide) rfl rfl ?_
            refine k_iinc (n := 52) (j := 1) (v := 4) (lv' := [(3, .int 4), (2, .int 2), (0, .ref h0), (1, .int 1)]) F dX10_balance_49 rfl rfl (by decide) rfl rfl ?_
            refine k_goto (tgt := 22) F dX10_balance_52 (by decide) ?_
            refine k_iload_n (n := 23) F dX10_balance_22 rfl 0 rfl rfl ?_
            refine k_iconst (n := 24) (v := 4) F dX10_balance_23 rfl rfl ?_
            refine k_icmp_ge (n := 27) (tgt := 55) F dX10_balance_24 (by decide) rfl (fun _ => ?_) (fun h9 => absurd h9 (by decide))
            refine k_aload_n (n := 56) F dX10_balance_55 rfl 2 rfl rfl ?_
            refine k_rget_33 (n := 59) F dX10_balance_56 rfl ?_
            refine k_iload_n (n := 60) F dX10_balance_59 rfl 3 rfl rfl ?_
            refine k_rald_33 (n := 61) (N := 1) (f := a 33) F rfl (kIx_nI (j := 1) (by decide) (by decide)) dX10_balance_60 rfl ?_
            refine k_if_ne (n := 64) (tgt := 70) F dX10_balance_61 (by decide) rfl (fun hc30 => ?_) (fun hc30 => ?_)
            · refine k_iload_n (n := 71) F dX10_balance_70 rfl 1 rfl rfl ?_
              refine k_if_le (n := 74) (tgt := 78) F dX10_balance_71 (by decide) rfl (fun h9 => absurd h9 (by decide)) (fun _ => ?_)
              refine k_ldc2 (n := 77) (v := -9) F mw_805 dX10_balance_74 rfl ?_
              exact k_lret F (by rw [f_bal_1]; simp [lostN, zb, rdM, rdR, h17, i64a, i64b, hc17, hc25, hc29, hc30]) rfl dX10_balance_77
            · refine k_aload_n (n := 65) F dX10_balance_64 rfl 2 rfl rfl ?_
              refine k_iload_n (n := 66) F dX10_balance_65 rfl 3 rfl rfl ?_
              refine k_clR (n := 69) F (k_rV (k := 1) (b := h0) (As := [.int 1]) (rest := []) F (r_reads l g h0 ad i l_ a h 1) [0, 1, 2, 3, 4, 5, 6, 7, 8, 9, 10, 11, 12, 13, 14] rfl rfl 0 rfl rfl mw_809 mw_806 mw_808 mw_s27 mw_9 (by decide) ⟨by decide, by decide⟩ rfl (Nat.le_of_ble_eq_true rfl) ⟨by decide, by decide⟩ dX10_balance_66) [0, 1, 2, 3, 4, 5, 6, 7, 8, 9, 10, 11, 12, 13, 14] rfl rfl ?_
              exact k_lret F (by rw [f_bal_1]; simp [lostN, zb, rdM, rdR, h17, i64a, i64b, hc17, hc25, hc29, hc30]) rfl dX10_balance_69
          · refine k_iconst (n := 43) (v := 1) F dX10_balance_42 rfl rfl ?_
            refine k_goto (tgt := 47) F dX10_balance_43 (by decide) ?_
            refine k_iadd (n := 48) F dX10_balance_47 rfl ?_
            refine k_valI (y := 3) rfl ?_
            refine k_istore_n (n := 49) (lv' := [(2, .int 3), (3, .int 3), (0, .ref h0), (1, .int 1)]) F dX10_balance_48 rfl (by decide) rfl rfl ?_
            refine k_iinc (n := 52) (j := 1) (v := 4) (lv' := [(3, .int 4), (2, .int 3), (0, .ref h0), (1, .int 1)]) F dX10_balance_49 rfl rfl (by decide) rfl rfl ?_
            refine k_goto (tgt := 22) F dX10_balance_52 (by decide) ?_
            refine k_iload_n (n := 23) F dX10_balance_22 rfl 0 rfl rfl ?_
            refine k_iconst (n := 24) (v := 4) F dX10_balance_23 rfl rfl ?_
            refine k_icmp_ge (n := 27) (tgt := 55) F dX10_balance_24 (by decide) rfl (fun _ => ?_) (fun h9 => absurd h9 (by decide))
            refine k_aload_n (n := 56) F dX10_balance_55 rfl 2 rfl rfl ?_
            refine k_rget_33 (n := 59) F dX10_balance_56 rfl ?_
            refine k_iload_n (n := 60) F dX10_balance_59 rfl 3 rfl rfl ?_
            refine k_rald_33 (n := 61) (N := 1) (f := a 33) F rfl (kIx_nI (j := 1) (by decide) (by decide)) dX10_balance_60 rfl ?_
            refine k_if_ne (n := 64) (tgt := 70) F dX10_balance_61 (by decide) rfl (fun hc31 => ?_) (fun hc31 => ?_)
            · refine k_iload_n (n := 71) F dX10_balance_70 rfl 1 rfl rfl ?_
              refine k_if_le (n := 74) (tgt := 78) F dX10_balance_71 (by decide) rfl (fun h9 => absurd h9 (by decide)) (fun _ => ?_)
              refine k_ldc2 (n := 77) (v := -9) F mw_805 dX10_balance_74 rfl ?_
              exact k_lret F (by rw [f_bal_1]; simp [lostN, zb, rdM, rdR, h17, i64a, i64b, hc17, hc25, hc29, hc31]) rfl dX10_balance_77
            · refine k_aload_n (n := 65) F dX10_balance_64 rfl 2 rfl rfl ?_
              refine k_iload_n (n := 66) F dX10_balance_65 rfl 3 rfl rfl ?_
              refine k_clR (n := 69) F (k_rV (k := 1) (b := h0) (As := [.int 1]) (rest := []) F (r_reads l g h0 ad i l_ a h 1) [0, 1, 2, 3, 4, 5, 6, 7, 8, 9, 10, 11, 12, 13, 14] rfl rfl 0 rfl rfl mw_809 mw_806 mw_808 mw_s27 mw_9 (by decide) ⟨by decide, by decide⟩ rfl (Nat.le_of_ble_eq_true rfl) ⟨by decide, by decide⟩ dX10_balance_66) [0, 1, 2, 3, 4, 5, 6, 7, 8, 9, 10, 11, 12, 13, 14] rfl rfl ?_
              exact k_lret F (by rw [f_bal_1]; simp [lostN, zb, rdM, rdR, h17, i64a, i64b, hc17, hc25, hc29, hc31]) rfl dX10_balance_69
    · refine k_iconst (n := 19) (v := 0) F dX10_balance_18 rfl rfl ?_
      refine k_istore_n (n := 20) (lv' := [(2, .int 0), (0, .ref h0), (1, .int 2)]) F dX10_balance_19 rfl (by decide) rfl rfl ?_
      refine k_iconst (n := 21) (v := 0) F dX10_balance_20 rfl rfl ?_
      refine k_istore_n (n := 22) (lv' := [(3, .int 0), (2, .int 0), (0, .ref h0), (1, .int 2)]) F dX10_balance_21 rfl (by decide) rfl rfl ?_
      refine k_iload_n (n := 23) F dX10_balance_22 rfl 0 rfl rfl ?_
      refine k_iconst (n := 24) (v := 4) F dX10_balance_23 rfl rfl ?_
      refine k_icmp_ge (n := 27) (tgt := 55) F dX10_balance_24 (by decide) rfl (fun h9 => absurd h9 (by decide)) (fun _ => ?_)
      refine k_iload_n (n := 28) F dX10_balance_27 rfl 1 rfl rfl ?_
      refine k_iload_n (n := 29) F dX10_balance_28 rfl 0 rfl rfl ?_
      refine k_iload_n (n := 30) F dX10_balance_29 rfl 3 rfl rfl ?_
      refine k_icmp_eq (n := 33) (tgt := 46) F dX10_balance_30 (by decide) rfl (fun h9 => absurd h9 (by decide)) (fun _ => ?_)
      refine k_aload_n (n := 34) F dX10_balance_33 rfl 2 rfl rfl ?_
      refine k_rget_33 (n := 37) F dX10_balance_34 rfl ?_
      refine k_iload_n (n := 38) F dX10_balance_37 rfl 0 rfl rfl ?_
      refine k_rald_33 (n := 39) (N := 0) (f := a 33) F rfl (kIx_nI (j := 0) (by decide) (by decide)) dX10_balance_38 rfl ?_
      refine k_if_eq (n := 42) (tgt := 46) F dX10_balance_39 (by decide) rfl (fun hc32 => ?_) (fun hc32 => ?_)
      · refine k_iconst (n := 47) (v := 0) F dX10_balance_46 rfl rfl ?_
        refine k_iadd (n := 48) F dX10_balance_47 rfl ?_
        refine k_valI (y := 0) rfl ?_
        refine k_istore_n (n := 49) (lv' := [(2, .int 0), (3, .int 0), (0, .ref h0), (1, .int 2)]) F dX10_balance_48 rfl (by decide) rfl rfl ?_
        refine k_iinc (n := 52) (j := 1) (v := 1) (lv' := [(3, .int 1), (2, .int 0), (0, .ref h0), (1, .int 2)]) F dX10_balance_49 rfl rfl (by decide) rfl rfl ?_
        refine k_goto (tgt := 22) F dX10_balance_52 (by decide) ?_
        refine k_iload_n (n := 23) F dX10_balance_22 rfl 0 rfl rfl ?_
        refine k_iconst (n := 24) (v := 4) F dX10_balance_23 rfl rfl ?_
        refine k_icmp_ge (n := 27) (tgt := 55) F dX10_balance_24 (by decide) rfl (fun h9 => absurd h9 (by decide)) (fun _ => ?_)
        refine k_iload_n (n := 28) F dX10_balance_27 rfl 1 rfl rfl ?_
        refine k_iload_n (n := 29) F dX10_balance_28 rfl 0 rfl rfl ?_
        refine k_iload_n (n := 30) F dX10_balance_29 rfl 3 rfl rfl ?_
        refine k_icmp_eq (n := 33) (tgt := 46) F dX10_balance_30 (by decide) rfl (fun h9 => absurd h9 (by decide)) (fun _ => ?_)
        refine k_aload_n (n := 34) F dX10_balance_33 rfl 2 rfl rfl ?_
        refine k_rget_33 (n := 37) F dX10_balance_34 rfl ?_
        refine k_iload_n (n := 38) F dX10_balance_37 rfl 0 rfl rfl ?_
        refine k_rald_33 (n := 39) (N := 1) (f := a 33) F rfl (kIx_nI (j := 1) (by decide) (by decide)) dX10_balance_38 rfl ?_
        refine k_if_eq (n := 42) (tgt := 46) F dX10_balance_39 (by decide) rfl (fun hc33 => ?_) (fun hc33 => ?_)
        · refine k_iconst (n := 47) (v := 0) F dX10_balance_46 rfl rfl ?_
          refine k_iadd (n := 48) F dX10_balance_47 rfl ?_
          refine k_valI (y := 0) rfl ?_
          refine k_istore_n (n := 49) (lv' := [(2, .int 0), (3, .int 1), (0, .ref h0), (1, .int 2)]) F dX10_balance_48 rfl (by decide) rfl rfl ?_
          refine k_iinc (n := 52) (j := 1) (v := 2) (lv' := [(3, .int 2), (2, .int 0), (0, .ref h0), (1, .int 2)]) F dX10_balance_49 rfl rfl (by decide) rfl rfl ?_
          refine k_goto (tgt := 22) F dX10_balance_52 (by decide) ?_
          refine k_iload_n (n := 23) F dX10_balance_22 rfl 0 rfl rfl ?_
          refine k_iconst (n := 24) (v := 4) F dX10_balance_23 rfl rfl ?_
          refine k_icmp_ge (n := 27) (tgt := 55) F dX10_balance_24 (by decide) rfl (fun h9 => absurd h9 (by decide)) (fun _ => ?_)
          refine k_iload_n (n := 28) F dX10_balance_27 rfl 1 rfl rfl ?_
          refine k_iload_n (n := 29) F dX10_balance_28 rfl 0 rfl rfl ?_
          refine k_iload_n (n := 30) F dX10_balance_29 rfl 3 rfl rfl ?_
          refine k_icmp_eq (n := 33) (tgt := 46) F dX10_balance_30 (by decide) rfl (fun _ => ?_) (fun h9 => absurd h9 (by decide))
          refine k_iconst (n := 47) (v := 0) F dX10_balance_46 rfl rfl ?_
          refine k_iadd (n := 48) F dX10_balance_47 rfl ?_
          refine k_valI (y := 0) rfl ?_
          refine k_istore_n (n := 49) (lv' := [(2, .int 0), (3, .int 2), (0, .ref h0), (1, .int 2)]) F dX10_balance_48 rfl (by decide) rfl rfl ?_
          refine k_iinc (n := 52) (j := 1) (v := 3) (lv' := [(3, .int 3), (2, .int 0), (0, .ref h0), (1, .int 2)]) F dX10_balance_49 rfl rfl (by decide) rfl rfl ?_
          refine k_goto (tgt := 22) F dX10_balance_52 (by decide) ?_
          refine k_iload_n (n := 23) F dX10_balance_22 rfl 0 rfl rfl ?_
          refine k_iconst (n := 24) (v := 4) F dX10_balance_23 rfl rfl ?_
          refine k_icmp_ge (n := 27) (tgt := 55) F dX10_balance_24 (by decide) rfl (fun h9 => absurd h9 (by decide)) (fun _ => ?_)
          refine k_iload_n (n := 28) F dX10_balance_27 rfl 1 rfl rfl ?_
          refine k_iload_n (n := 29) F dX10_balance_28 rfl 0 rfl rfl ?_
          refine k_iload_n (n := 30) F dX10_balance_29 rfl 3 rfl rfl ?_
          refine k_icmp_eq (n := 33) (tgt := 46) F dX10_balance_30 (by decide) rfl (fun h9 => absurd h9 (by decide)) (fun _ => ?_)
          refine k_aload_n (n := 34) F dX10_balance_33 rfl 2 rfl rfl ?_
          refine k_rget_33 (n := 37) F dX10_balance_34 rfl ?_
          refine k_iload_n (n := 38) F dX10_balance_37 rfl 0 rfl rfl ?_
          refine k_rald_33 (n := 39) (N := 3) (f := a 33) F rfl (kIx_nI (j := 3) (by decide) (by decide)) dX10_balance_38 rfl ?_
          refine k_if_eq (n := 42) (tgt := 46) F dX10_balance_39 (by decide) rfl (fun hc34 => ?_) (fun hc34 => ?_)
          · refine k_iconst (n := 47) (v := 0) F dX10_balance_46 rfl rfl ?_
            refine k_iadd (n := 48) F dX10_balance_47 rfl ?_
            refine k_valI (y := 0) rfl ?_
            refine k_istore_n (n := 49) (lv' := [(2, .int 0), (3, .int 3), (0, .ref h0), (1, .int 2)]) F dX10_balance_48 rfl (by decide) rfl rfl ?_
            refine k_iinc (n := 52) (j := 1) (v := 4) (lv' := [(3, .int 4), (2, .int 0), (0, .ref h0), (1, .int 2)]) F dX10_balance_49 rfl rfl (by decide) rfl rfl ?_
            refine k_goto (tgt := 22) F dX10_balance_52 (by decide) ?_
            refine k_iload_n (n := 23) F dX10_balance_22 rfl 0 rfl rfl ?_
            refine k_iconst (n := 24) (v := 4) F dX10_balance_23 rfl rfl ?_
            refine k_icmp_ge (n := 27) (tgt := 55) F dX10_balance_24 (by decide) rfl (fun _ => ?_) (fun h9 => absurd h9 (by decide))
            refine k_aload_n (n := 56) F dX10_balance_55 rfl 2 rfl rfl ?_
            refine k_rget_33 (n := 59) F dX10_balance_56 rfl ?_
            refine k_iload_n (n := 60) F dX10_balance_59 rfl 3 rfl rfl ?_
            refine k_rald_33 (n := 61) (N := 2) (f := a 33) F rfl (kIx_nI (j := 2) (by decide) (by decide)) dX10_balance_60 rfl ?_
            refine k_if_ne (n := 64) (tgt := 70) F dX10_balance_61 (by decide) rfl (fun hc35 => ?_) (fun hc35 => ?_)
            · refine k_iload_n (n := 71) F dX10_balance_70 rfl 1 rfl rfl ?_
              refine k_if_le (n := 74) (tgt := 78) F dX10_balance_71 (by decide) rfl (fun _ => ?_) (fun h9 => absurd h9 (by decide))
              refine k_iload_n (n := 79) F dX10_balance_78 rfl 3 rfl rfl ?_
              refine k_if_ne (n := 82) (tgt := 102) F dX10_balance_79 (by decide) rfl (fun _ => ?_) (fun h9 => absurd h9 (by decide))
              refine k_aload_n (n := 103) F dX10_balance_102 rfl 2 rfl rfl ?_
              refine k_iconst (n := 104) (v := 0) F dX10_balance_103 rfl rfl ?_
              refine k_clR (n := 107) F (k_rV (k := 1) (b := h0) (As := [.int 0]) (rest := []) F (r_reads l g h0 ad i l_ a h 0) [0, 1, 2, 3, 4, 5, 6, 7, 8, 9, 10, 11, 12, 13, 14] rfl rfl 0 rfl rfl mw_809 mw_806 mw_808 mw_s27 mw_9 (by decide) ⟨by decide, by decide⟩ rfl (Nat.le_of_ble_eq_true rfl) ⟨by decide, by decide⟩ dX10_balance_104) [0, 1, 2, 3, 4, 5, 6, 7, 8, 9, 10, 11, 12, 13, 14] rfl rfl ?_
              refine k_aload_n (n := 108) F dX10_balance_107 rfl 2 rfl rfl ?_
              refine k_iconst (n := 109) (v := 1) F dX10_balance_108 rfl rfl ?_
              refine k_clR (n := 112) F (k_rV (k := 1) (b := h0) (As := [.int 1]) (rest := [.long (rdR (i, l_, a, h) 0)]) F (r_reads l g h0 ad i l_ a h 1) [0, 1, 2, 3, 4, 5, 6, 7, 8, 9, 10, 11, 12, 13, 14] rfl rfl 0 rfl rfl mw_809 mw_806 mw_808 mw_s27 mw_9 (by decide) ⟨by decide, by decide⟩ rfl (Nat.le_of_ble_eq_true rfl) ⟨by decide, by decide⟩ dX10_balance_109) [0, 1, 2, 3, 4, 5, 6, 7, 8, 9, 10, 11, 12, 13, 14] rfl rfl ?_
              refine k_aload_n (n := 113) F dX10_balance_112 rfl 2 rfl rfl ?_
              refine k_iconst (n := 114) (v := 2) F dX10_balance_113 rfl rfl ?_
              refine k_clR (n := 117) F (k_rV (k := 1) (b := h0) (As := [.int 2]) (rest := [.long (rdR (i, l_, a, h) 1), .long (rdR (i, l_, a, h) 0)]) F (r_reads l g h0 ad i l_ a h 2) [0, 1, 2, 3, 4, 5, 6, 7, 8, 9, 10, 11, 12, 13, 14] rfl rfl 0 rfl rfl mw_809 mw_806 mw_808 mw_s27 mw_9 (by decide) ⟨by decide, by decide⟩ rfl (Nat.le_of_ble_eq_true rfl) ⟨by decide, by decide⟩ dX10_balance_114) [0, 1, 2, 3, 4, 5, 6, 7, 8, 9, 10, 11, 12, 13, 14] rfl rfl ?_
              refine k_ladd (n := 118) F dX10_balance_117 rfl ?_
              refine k_aload_n (n := 119) F dX10_balance_118 rfl 2 rfl rfl ?_
              refine k_iconst (n := 120) (v := 3) F dX10_balance_119 rfl rfl ?_
              refine k_clR (n := 123) F (k_rV (k := 1) (b := h0) (As := [.int 3]) (rest := [.long ((rdR (i, l_, a, h) 1) + (rdR (i, l_, a, h) 2)), .long (rdR (i, l_, a, h) 0)]) F (r_reads l g h0 ad i l_ a h 3) [0, 1, 2, 3, 4, 5, 6, 7, 8, 9, 10, 11, 12, 13, 14] rfl rfl 0 rfl rfl mw_809 mw_806 mw_808 mw_s27 mw_9 (by decide) ⟨by decide, by decide⟩ rfl (Nat.le_of_ble_eq_true rfl) ⟨by decide, by decide⟩ dX10_balance_120) [0, 1, 2, 3, 4, 5, 6, 7, 8, 9, 10, 11, 12, 13, 14] rfl rfl ?_
              refine k_ladd (n := 124) F dX10_balance_123 rfl ?_
              refine k_aload_n (n := 125) F dX10_balance_124 rfl 2 rfl rfl ?_
              refine k_iload_n (n := 126) F dX10_balance_125 rfl 3 rfl rfl ?_
              refine k_clR (n := 129) F (k_rV (k := 1) (b := h0) (As := [.int 2]) (rest := [.long (((rdR (i, l_, a, h) 1) + (rdR (i, l_, a, h) 2)) + (rdR (i, l_, a, h) 3)), .long (rdR (i, l_, a, h) 0)]) F (r_reads l g h0 ad i l_ a h 2) [0, 1, 2, 3, 4, 5, 6, 7, 8, 9, 10, 11, 12, 13, 14] rfl rfl 0 rfl rfl mw_809 mw_806 mw_808 mw_s27 mw_9 (by decide) ⟨by decide, by decide⟩ rfl (Nat.le_of_ble_eq_true rfl) ⟨by decide, by decide⟩ dX10_balance_126) [0, 1, 2, 3, 4, 5, 6, 7, 8, 9, 10, 11, 12, 13, 14] rfl rfl ?_
              refine k_lsub (n := 130) F dX10_balance_129 rfl ?_
              refine k_lsub (n := 131) F dX10_balance_130 rfl ?_
              exact k_lret F (by rw [f_bal_2]; simp [lostN, zb, rdM, rdR, h17, i64a, i64b, hc32, hc33, hc34, hc35]) rfl dX10_balance_131
            · refine k_aload_n (n := 65) F dX10_balance_64 rfl 2 rfl rfl ?_
              refine k_iload_n (n := 66) F dX10_balance_65 rfl 3 rfl rfl ?_
              refine k_clR (n := 69) F (k_rV (k := 1) (b := h0) (As := [.int 2]) (rest := []) F (r_reads l g h0 ad i l_ a h 2) [0, 1, 2, 3, 4, 5, 6, 7, 8, 9, 10, 11, 12, 13, 14] rfl rfl 0 rfl rfl mw_809 mw_806 mw_808 mw_s27 mw_9 (by decide) ⟨by decide, by decide⟩ rfl (Nat.le_of_ble_eq_true rfl) ⟨by decide, by decide⟩ dX10_balance_66) [0, 1, 2, 3, 4, 5, 6, 7, 8, 9, 10, 11, 12, 13, 14] rfl rfl ?_
              exact k_lret F (by rw [f_bal_2]; simp [lostN, zb, rdM, rdR, h17, i64a, i64b, hc32, hc33, hc34, hc35]) rfl dX10_balance_69
          · refine k_iconst (n := 43) (v := 1) F dX10_balance_42 rfl rfl ?_
            refine k_goto (tgt := 47) F dX10_balance_43 (by decide) ?_
            refine k_iadd (n := 48) F dX10_balance_47 rfl ?_
            refine k_valI (y := 1) rfl ?_
            refine k_istore_n (n := 49) (lv' := [(2, .int 1), (3, .int 3), (0, .ref h0), (1, .int 2)]) F dX10_balance_48 rfl (by decide) rfl rfl ?_
            refine k_iinc (n := 52) (j := 1) (v := 4) (lv' := [(3, .int 4), (2, .int 1), (0, .ref h0), (1, .int 2)]) F dX10_balance_49 rfl rfl (by decide) rfl rfl ?_
            refine k_goto (tgt := 22) F dX10_balance_52 (by decide) ?_
            refine k_iload_n (n := 23) F dX10_balance_22 rfl 0 rfl rfl ?_
            refine k_iconst (n := 24) (v := 4) F dX10_balance_23 rfl rfl ?_
            refine k_icmp_ge (n := 27) (tgt := 55) F dX10_balance_24 (by decide) rfl (fun _ => ?_) (fun h9 => absurd h9 (by decide))
            refine k_aload_n (n := 56) F dX10_balance_55 rfl 2 rfl rfl ?_
            refine k_rget_33 (n := 59) F dX10_balance_56 rfl ?_
            refine k_iload_n (n := 60) F dX10_balance_59 rfl 3 rfl rfl ?_
            refine k_rald_33 (n := 61) (N := 2) (f := a 33) F rfl (kIx_nI (j := 2) (by decide) (by decide)) dX10_balance_60 rfl ?_
            refine k_if_ne (n := 64) (tgt := 70) F dX10_balance_61 (by decide) rfl (fun hc36 => ?_) (fun hc36 => ?_)
            · refine k_iload_n (n := 71) F dX10_balance_70 rfl 1 rfl rfl ?_
              refine k_if_le (n := 74) (tgt := 78) F dX10_balance_71 (by decide) rfl (fun h9 => absurd h9 (by decide)) (fun _ => ?_)
              refine k_ldc2 (n := 77) (v := -9) F mw_805 dX10_balance_74 rfl ?_
              exact k_lret F (by rw [f_bal_2]; simp [lostN, zb, rdM, rdR, h17, i64a, i64b, hc32, hc33, hc34, hc36]) rfl dX10_balance_77
            · refine k_aload_n (n := 65) F dX10_balance_64 rfl 2 rfl rfl ?_
              refine k_iload_n (n := 66) F dX10_balance_65 rfl 3 rfl rfl ?_
              refine k_clR (n := 69) F (k_rV (k := 1) (b := h0) (As := [.int 2]) (rest := []) F (r_reads l g h0 ad i l_ a h 2) [0, 1, 2, 3, 4, 5, 6, 7, 8, 9, 10, 11, 12, 13, 14] rfl rfl 0 rfl rfl mw_809 mw_806 mw_808 mw_s27 mw_9 (by decide) ⟨by decide, by decide⟩ rfl (Nat.le_of_ble_eq_true rfl) ⟨by decide, by decide⟩ dX10_balance_66) [0, 1, 2, 3, 4, 5, 6, 7, 8, 9, 10, 11, 12, 13, 14] rfl rfl ?_
              exact k_lret F (by rw [f_bal_2]; simp [lostN, zb, rdM, rdR, h17, i64a, i64b, hc32, hc33, hc34, hc36]) rfl dX10_balance_69
        · refine k_iconst (n := 43) (v := 1) F dX10_balance_42 rfl rfl ?_
          refine k_goto (tgt := 47) F dX10_balance_43 (by decide) ?_
          refine k_iadd (n := 48) F dX10_balance_47 rfl ?_
          refine k_valI (y := 1) rfl ?_
          refine k_istore_n (n := 49) (lv' := [(2, .int 1), (3, .int 1), (0, .ref h0), (1, .int 2)]) F dX10_balance_48 rfl (by decide) rfl rfl ?_
          refine k_iinc (n := 52) (j := 1) (v := 2) (lv' := [(3, .int 2), (2, .int 1), (0, .ref h0), (1, .int 2)]) F dX10_balance_49 rfl rfl (by decide) rfl rfl ?_
          refine k_goto (tgt := 22) F dX10_balance_52 (by decide) ?_
          refine k_iload_n (n := 23) F dX10_balance_22 rfl 0 rfl rfl ?_
          refine k_iconst (n := 24) (v := 4) F dX10_balance_23 rfl rfl ?_
          refine k_icmp_ge (n := 27) (tgt := 55) F dX10_balance_24 (by decide) rfl (fun h9 => absurd h9 (by decide)) (fun _ => ?_)
          refine k_iload_n (n := 28) F dX10_balance_27 rfl 1 rfl rfl ?_
          refine k_iload_n (n := 29) F dX10_balance_28 rfl 0 rfl rfl ?_
          refine k_iload_n (n := 30) F dX10_balance_29 rfl 3 rfl rfl ?_
          refine k_icmp_eq (n := 33) (tgt := 46) F dX10_balance_30 (by decide) rfl (fun _ => ?_) (fun h9 => absurd h9 (by decide))
          refine k_iconst (n := 47) (v := 0) F dX10_balance_46 rfl rfl ?_
          refine k_iadd (n := 48) F dX10_balance_47 rfl ?_
          refine k_valI (y := 1) rfl ?_
          refine k_istore_n (n := 49) (lv' := [(2, .int 1), (3, .int 2), (0, .ref h0), (1, .int 2)]) F dX10_balance_48 rfl (by decide) rfl rfl ?_
          refine k_iinc (n := 52) (j := 1) (v := 3) (lv' := [(3, .int 3), (2, .int 1), (0, .ref h0), (1, .int 2)]) F dX10_balance_49 rfl rfl (by decide) rfl rfl ?_
          refine k_goto (tgt := 22) F dX10_balance_52 (by decide) ?_
          refine k_iload_n (n := 23) F dX10_balance_22 rfl 0 rfl rfl ?_
          refine k_iconst (n := 24) (v := 4) F dX10_balance_23 rfl rfl ?_
          refine k_icmp_ge (n := 27) (tgt := 55) F dX10_balance_24 (by decide) rfl (fun h9 => absurd h9 (by decide)) (fun _ => ?_)
          refine k_iload_n (n := 28) F dX10_balance_27 rfl 1 rfl rfl ?_
          refine k_iload_n (n := 29) F dX10_balance_28 rfl 0 rfl rfl ?_
          refine k_iload_n (n := 30) F dX10_balance_29 rfl 3 rfl rfl ?_
          refine k_icmp_eq (n := 33) (tgt := 46) F dX10_balance_30 (by decide) rfl (fun h9 => absurd h9 (by decide)) (fun _ => ?_)
          refine k_aload_n (n := 34) F dX10_balance_33 rfl 2 rfl rfl ?_
          refine k_rget_33 (n := 37) F dX10_balance_34 rfl ?_
          refine k_iload_n (n := 38) F dX10_balance_37 rfl 0 rfl rfl ?_
          refine k_rald_33 (n := 39) (N := 3) (f := a 33) F rfl (kIx_nI (j := 3) (by decide) (by decide)) dX10_balance_38 rfl ?_
          refine k_if_eq (n := 42) (tgt := 46) F dX10_balance_39 (by decide) rfl (fun hc37 => ?_) (fun hc37 => ?_)
          · refine k_iconst (n := 47) (v := 0) F dX10_balance_46 rfl rfl ?_
            refine k_iadd (n := 48) F dX10_balance_47 rfl ?_
            refine k_valI (y := 1) rfl ?_
            refine k_istore_n (n := 49) (lv' := [(2, .int 1), (3, .int 3), (0, .ref h0), (1, .int 2)]) F dX10_balance_48 rfl (by decide) rfl rfl ?_
            refine k_iinc (n := 52) (j := 1) (v := 4) (lv' := [(3, .int 4), (2, .int 1), (0, .ref h0), (1, .int 2)]) F dX10_balance_49 rfl rfl (by decide) rfl rfl ?_
            refine k_goto (tgt := 22) F dX10_balance_52 (by decide) ?_
            refine k_iload_n (n := 23) F dX10_balance_22 rfl 0 rfl rfl ?_
            refine k_iconst (n := 24) (v := 4) F dX10_balance_23 rfl rfl ?_
            refine k_icmp_ge (n := 27) (tgt := 55) F dX10_balance_24 (by decide) rfl (fun _ => ?_) (fun h9 => absurd h9 (by decide))
            refine k_aload_n (n := 56) F dX10_balance_55 rfl 2 rfl rfl ?_
            refine k_rget_33 (n := 59) F dX10_balance_56 rfl ?_
            refine k_iload_n (n := 60) F dX10_balance_59 rfl 3 rfl rfl ?_
            refine k_rald_33 (n := 61) (N := 2) (f := a 33) F rfl (kIx_nI (j := 2) (by decide) (by decide)) dX10_balance_60 rfl ?_
            refine k_if_ne (n := 64) (tgt := 70) F dX10_balance_61 (by decide) rfl (fun hc38 => ?_) (fun hc38 => ?_)
            · refine k_iload_n (n := 71) F dX10_balance_70 rfl 1 rfl rfl ?_
              refine k_if_le (n := 74) (tgt := 78) F dX10_balance_71 (by decide) rfl (fun h9 => absurd h9 (by decide)) (fun _ => ?_)
              refine k_ldc2 (n := 77) (v := -9) F mw_805 dX10_balance_74 rfl ?_
              exact k_lret F (by rw [f_bal_2]; simp [lostN, zb, rdM, rdR, h17, i64a, i64b, hc32, hc33, hc37, hc38]) rfl dX10_balance_77
            · refine k_aload_n (n := 65) F dX10_balance_64 rfl 2 rfl rfl ?_
              refine k_iload_n (n := 66) F dX10_balance_65 rfl 3 rfl rfl ?_
              refine k_clR (n := 69) F (k_rV (k := 1) (b := h0) (As := [.int 2]) (rest := []) F (r_reads l g h0 ad i l_ a h 2) [0, 1, 2, 3, 4, 5, 6, 7, 8, 9, 10, 11, 12, 13, 14] rfl rfl 0 rfl rfl mw_809 mw_806 mw_808 mw_s27 mw_9 (by decide) ⟨by decide, by decide⟩ rfl (Nat.le_of_ble_eq_true rfl) ⟨by decide, by decide⟩ dX10_balance_66) [0, 1, 2, 3, 4, 5, 6, 7, 8, 9, 10, 11, 12, 13, 14] rfl rfl ?_
              exact k_lret F (by rw [f_bal_2]; simp [lostN, zb, rdM, rdR, h17, i64a, i64b, hc32, hc33, hc37, hc38]) rfl dX10_balance_69
          · refine k_iconst (n := 43) (v := 1) F dX10_balance_42 rfl rfl ?_
            refine k_goto (tgt := 47) F dX10_balance_43 (by decide) ?_
            refine k_iadd (n := 48) F dX10_balance_47 rfl ?_
            refine k_valI (y := 2) rfl ?_
            refine k_istore_n (n := 49) (lv' := [(2, .int 2), (3, .int 3), (0, .ref h0), (1, .int 2)]) F dX10_balance_48 rfl (by decide) rfl rfl ?_
            refine k_iinc (n := 52) (j := 1) (v := 4) (lv' := [(3, .int 4), (2, .int 2), (0, .ref h0), (1, .int 2)]) F dX10_balance_49 rfl rfl (by decide) rfl rfl ?_
            refine k_goto (tgt := 22) F dX10_balance_52 (by decide) ?_
            refine k_iload_n (n := 23) F dX10_balance_22 rfl 0 rfl rfl ?_
            refine k_iconst (n := 24) (v := 4) F dX10_balance_23 rfl rfl ?_
            refine k_icmp_ge (n := 27) (tgt := 55) F dX10_balance_24 (by decide) rfl (fun _ => ?_) (fun h9 => absurd h9 (by decide))
            refine k_aload_n (n := 56) F dX10_balance_55 rfl 2 rfl rfl ?_
            refine k_rget_33 (n := 59) F dX10_balance_56 rfl ?_
            refine k_iload_n (n := 60) F dX10_balance_59 rfl 3 rfl rfl ?_
            refine k_rald_33 (n := 61) (N := 2) (f := a 33) F rfl (kIx_nI (j := 2) (by decide) (by decide)) dX10_balance_60 rfl ?_
            refine k_if_ne (n := 64) (tgt := 70) F dX10_balance_61 (by decide) rfl (fun hc39 => ?_) (fun hc39 => ?_)
            · refine k_iload_n (n := 71) F dX10_balance_70 rfl 1 rfl rfl ?_
              refine k_if_le (n := 74) (tgt := 78) F dX10_balance_71 (by decide) rfl (fun h9 => absurd h9 (by decide)) (fun _ => ?_)
              refine k_ldc2 (n := 77) (v := -9) F mw_805 dX10_balance_74 rfl ?_
              exact k_lret F (by rw [f_bal_2]; simp [lostN, zb, rdM, rdR, h17, i64a, i64b, hc32, hc33, hc37, hc39]) rfl dX10_balance_77
            · refine k_aload_n (n := 65) F dX10_balance_64 rfl 2 rfl rfl ?_
              refine k_iload_n (n := 66) F dX10_balance_65 rfl 3 rfl rfl ?_
              refine k_clR (n := 69) F (k_rV (k := 1) (b := h0) (As := [.int 2]) (rest := []) F (r_reads l g h0 ad i l_ a h 2) [0, 1, 2, 3, 4, 5, 6, 7, 8, 9, 10, 11, 12, 13, 14] rfl rfl 0 rfl rfl mw_809 mw_806 mw_808 mw_s27 mw_9 (by decide) ⟨by decide, by decide⟩ rfl (Nat.le_of_ble_eq_true rfl) ⟨by decide, by decide⟩ dX10_balance_66) [0, 1, 2, 3, 4, 5, 6, 7, 8, 9, 10, 11, 12, 13, 14] rfl rfl ?_
              exact k_lret F (by rw [f_bal_2]; simp [lostN, zb, rdM, rdR, h17, i64a, i64b, hc32, hc33, hc37, hc39]) rfl dX10_balance_69
      · refine k_iconst (n := 43) (v := 1) F dX10_balance_42 rfl rfl ?_
        refine k_goto (tgt := 47) F dX10_balance_43 (by decide) ?_
        refine k_iadd (n := 48) F dX10_balance_47 rfl ?_
        refine k_valI (y := 1) rfl ?_
        refine k_istore_n (n := 49) (lv' := [(2, .int 1), (3, .int 0), (0, .ref h0), (1, .int 2)]) F dX10_balance_48 rfl (by decide) rfl rfl ?_
        refine k_iinc (n := 52) (j := 1) (v := 1) (lv' := [(3, .int 1), (2, .int 1), (0, .ref h0), (1, .int 2)]) F dX10_balance_49 rfl rfl (by decide) rfl rfl ?_
        refine k_goto (tgt := 22) F dX10_balance_52 (by decide) ?_
        refine k_iload_n (n := 23) F dX10_balance_22 rfl 0 rfl rfl ?_
        refine k_iconst (n := 24) (v := 4) F dX10_balance_23 rfl rfl ?_
        refine k_icmp_ge (n := 27) (tgt := 55) F dX10_balance_24 (by decide) rfl (fun h9 => absurd h9 (by decide)) (fun _ => ?_)
        refine k_iload_n (n := 28) F dX10_balance_27 rfl 1 rfl rfl ?_
        refine k_iload_n (n := 29) F dX10_balance_28 rfl 0 rfl rfl ?_
        refine k_iload_n (n := 30) F dX10_balance_29 rfl 3 rfl rfl ?_
        refine k_icmp_eq (n := 33) (tgt := 46) F dX10_balance_30 (by decide) rfl (fun h9 => absurd h9 (by decide)) (fun _ => ?_)
        refine k_aload_n (n := 34) F dX10_balance_33 rfl 2 rfl rfl ?_
        refine k_rget_33 (n := 37) F dX10_balance_34 rfl ?_
        refine k_iload_n (n := 38) F dX10_balance_37 rfl 0 rfl rfl ?_
        refine k_rald_33 (n := 39) (N := 1) (f := a 33) F rfl (kIx_nI (j := 1) (by decide) (by decide)) dX10_balance_38 rfl ?_
        refine k_if_eq (n := 42) (tgt := 46) F dX10_balance_39 (by decide) rfl (fun hc40 => ?_) (fun hc40 => ?_)
        · refine k_iconst (n := 47) (v := 0) F dX10_balance_46 rfl rfl ?_
          refine k_iadd (n := 48) F dX10_balance_47 rfl ?_
          refine k_valI (y := 1) rfl ?_
          refine k_istore_n (n := 49) (lv' := [(2, .int 1), (3, .int 1), (0, .ref h0), (1, .int 2)]) F dX10_balance_48 rfl (by decide) rfl rfl ?_
          refine k_iinc (n := 52) (j := 1) (v := 2) (lv' := [(3, .int 2), (2, .int 1), (0, .ref h0), (1, .int 2)]) F dX10_balance_49 rfl rfl (by decide) rfl rfl ?_
          refine k_goto (tgt := 22) F dX10_balance_52 (by decide) ?_
          refine k_iload_n (n := 23) F dX10_balance_22 rfl 0 rfl rfl ?_
          refine k_iconst (n := 24) (v := 4) F dX10_balance_23 rfl rfl ?_
          refine k_icmp_ge (n := 27) (tgt := 55) F dX10_balance_24 (by decide) rfl (fun h9 => absurd h9 (by decide)) (fun _ => ?_)
          refine k_iload_n (n := 28) F dX10_balance_27 rfl 1 rfl rfl ?_
          refine k_iload_n (n := 29) F dX10_balance_28 rfl 0 rfl rfl ?_
          refine k_iload_n (n := 30) F dX10_balance_29 rfl 3 rfl rfl ?_
          refine k_icmp_eq (n := 33) (tgt := 46) F dX10_balance_30 (by decide) rfl (fun _ => ?_) (fun h9 => absurd h9 (by decide))
          refine k_iconst (n := 47) (v := 0) F dX10_balance_46 rfl rfl ?_
          refine k_iadd (n := 48) F dX10_balance_47 rfl ?_
          refine k_valI (y := 1) rfl ?_
          refine k_istore_n (n := 49) (lv' := [(2, .int 1), (3, .int 2), (0, .ref h0), (1, .int 2)]) F dX10_balance_48 rfl (by decide) rfl rfl ?_
          refine k_iinc (n := 52) (j := 1) (v := 3) (lv' := [(3, .int 3), (2, .int 1), (0, .ref h0), (1, .int 2)]) F dX10_balance_49 rfl rfl (by decide) rfl rfl ?_
          refine k_goto (tgt := 22) F dX10_balance_52 (by decide) ?_
          refine k_iload_n (n := 23) F dX10_balance_22 rfl 0 rfl rfl ?_
          refine k_iconst (n := 24) (v := 4) F dX10_balance_23 rfl rfl ?_
          refine k_icmp_ge (n := 27) (tgt := 55) F dX10_balance_24 (by decide) rfl (fun h9 => absurd h9 (by decide)) (fun _ => ?_)
          refine k_iload_n (n := 28) F dX10_balance_27 rfl 1 rfl rfl ?_
          refine k_iload_n (n := 29) F dX10_balance_28 rfl 0 rfl rfl ?_
          refine k_iload_n (n := 30) F dX10_balance_29 rfl 3 rfl rfl ?_
          refine k_icmp_eq (n := 33) (tgt := 46) F dX10_balance_30 (by decide) rfl (fun h9 => absurd h9 (by decide)) (fun _ => ?_)
          refine k_aload_n (n := 34) F dX10_balance_33 rfl 2 rfl rfl ?_
          refine k_rget_33 (n := 37) F dX10_balance_34 rfl ?_
          refine k_iload_n (n := 38) F dX10_balance_37 rfl 0 rfl rfl ?_
          refine k_rald_33 (n := 39) (N := 3) (f := a 33) F rfl (kIx_nI (j := 3) (by decide) (by decide)) dX10_balance_38 rfl ?_
          refine k_if_eq (n := 42) (tgt := 46) F dX10_balance_39 (by decide) rfl (fun hc41 => ?_) (fun hc41 => ?_)
          · refine k_iconst (n := 47) (v := 0) F dX10_balance_46 rfl rfl ?_
            refine k_iadd (n := 48) F dX10_balance_47 rfl ?_
            refine k_valI (y := 1) rfl ?_
            refine k_istore_n (n := 49) (lv' := [(2, .int 1), (3, .int 3), (0, .ref h0), (1, .int 2)]) F dX10_balance_48 rfl (by decide) rfl rfl ?_
            refine k_iinc (n := 52) (j := 1) (v := 4) (lv' := [(3, .int 4), (2, .int 1), (0, .ref h0), (1, .int 2)]) F dX10_balance_49 rfl rfl (by decide) rfl rfl ?_
            refine k_goto (tgt := 22) F dX10_balance_52 (by decide) ?_
            refine k_iload_n (n := 23) F dX10_balance_22 rfl 0 rfl rfl ?_
            refine k_iconst (n := 24) (v := 4) F dX10_balance_23 rfl rfl ?_
            refine k_icmp_ge (n := 27) (tgt := 55) F dX10_balance_24 (by decide) rfl (fun _ => ?_) (fun h9 => absurd h9 (by decide))
            refine k_aload_n (n := 56) F dX10_balance_55 rfl 2 rfl rfl ?_
            refine k_rget_33 (n := 59) F dX10_balance_56 rfl ?_
            refine k_iload_n (n := 60) F dX10_balance_59 rfl 3 rfl rfl ?_
            refine k_rald_33 (n := 61) (N := 2) (f := a 33) F rfl (kIx_nI (j := 2) (by decide) (by decide)) dX10_balance_60 rfl ?_
            refine k_if_ne (n := 64) (tgt := 70) F dX10_balance_61 (by decide) rfl (fun hc42 => ?_) (fun hc42 => ?_)
            · refine k_iload_n (n := 71) F dX10_balance_70 rfl 1 rfl rfl ?_
              refine k_if_le (n := 74) (tgt := 78) F dX10_balance_71 (by decide) rfl (fun h9 => absurd h9 (by decide)) (fun _ => ?_)
              refine k_ldc2 (n := 77) (v := -9) F mw_805 dX10_balance_74 rfl ?_
              exact k_lret F (by rw [f_bal_2]; simp [lostN, zb, rdM, rdR, h17, i64a, i64b, hc32, hc40, hc41, hc42]) rfl dX10_balance_77
            · refine k_aload_n (n := 65) F dX10_balance_64 rfl 2 rfl rfl ?_
              refine k_iload_n (n := 66) F dX10_balance_65 rfl 3 rfl rfl ?_
              refine k_clR (n := 69) F (k_rV (k := 1) (b := h0) (As := [.int 2]) (rest := []) F (r_reads l g h0 ad i l_ a h 2) [0, 1, 2, 3, 4, 5, 6, 7, 8, 9, 10, 11, 12, 13, 14] rfl rfl 0 rfl rfl mw_809 mw_806 mw_808 mw_s27 mw_9 (by decide) ⟨by decide, by decide⟩ rfl (Nat.le_of_ble_eq_true rfl) ⟨by decide, by decide⟩ dX10_balance_66) [0, 1, 2, 3, 4, 5, 6, 7, 8, 9, 10, 11, 12, 13, 14] rfl rfl ?_
              exact k_lret F (by rw [f_bal_2]; simp [lostN, zb, rdM, rdR, h17, i64a, i64b, hc32, hc40, hc41, hc42]) rfl dX10_balance_69
          · refine k_iconst (n := 43) (v := 1) F dX10_balance_42 rfl rfl ?_
            refine k_goto (tgt := 47) F dX10_balance_43 (by decide) ?_
            refine k_iadd (n := 48) F dX10_balance_47 rfl ?_
            refine k_valI (y := 2) rfl ?_
            refine k_istore_n (n := 49) (lv' := [(2, .int 2), (3, .int 3), (0, .ref h0), (1, .int 2)]) F dX10_balance_48 rfl (by decide) rfl rfl ?_
            refine k_iinc (n := 52) (j := 1) (v := 4) (lv' := [(3, .int 4), (2, .int 2), (0, .ref h0), (1, .int 2)]) F dX10_balance_49 rfl rfl (by decide) rfl rfl ?_
            refine k_goto (tgt := 22) F dX10_balance_52 (by decide) ?_
            refine k_iload_n (n := 23) F dX10_balance_22 rfl 0 rfl rfl ?_
            refine k_iconst (n := 24) (v := 4) F dX10_balance_23 rfl rfl ?_
            refine k_icmp_ge (n := 27) (tgt := 55) F dX10_balance_24 (by decide) rfl (fun _ => ?_) (fun h9 => absurd h9 (by decide))
            refine k_aload_n (n := 56) F dX10_balance_55 rfl 2 rfl rfl ?_
            refine k_rget_33 (n := 59) F dX10_balance_56 rfl ?_
            refine k_iload_n (n := 60) F dX10_balance_59 rfl 3 rfl rfl ?_
            refine k_rald_33 (n := 61) (N := 2) (f := a 33) F rfl (kIx_nI (j := 2) (by decide) (by decide)) dX10_balance_60 rfl ?_
            refine k_if_ne (n := 64) (tgt := 70) F dX10_balance_61 (by decide) rfl (fun hc43 => ?_) (fun hc43 => ?_)
            · refine k_iload_n (n := 71) F dX10_balance_70 rfl 1 rfl rfl ?_
              refine k_if_le (n := 74) (tgt := 78) F dX10_balance_71 (by decide) rfl (fun h9 => absurd h9 (by decide)) (fun _ => ?_)
              refine k_ldc2 (n := 77) (v := -9) F mw_805 dX10_balance_74 rfl ?_
              exact k_lret F (by rw [f_bal_2]; simp [lostN, zb, rdM, rdR, h17, i64a, i64b, hc32, hc40, hc41, hc43]) rfl dX10_balance_77
            · refine k_aload_n (n := 65) F dX10_balance_64 rfl 2 rfl rfl ?_
              refine k_iload_n (n := 66) F dX10_balance_65 rfl 3 rfl rfl ?_
              refine k_clR (n := 69) F (k_rV (k := 1) (b := h0) (As := [.int 2]) (rest := []) F (r_reads l g h0 ad i l_ a h 2) [0, 1, 2, 3, 4, 5, 6, 7, 8, 9, 10, 11, 12, 13, 14] rfl rfl 0 rfl rfl mw_809 mw_806 mw_808 mw_s27 mw_9 (by decide) ⟨by decide, by decide⟩ rfl (Nat.le_of_ble_eq_true rfl) ⟨by decide, by decide⟩ dX10_balance_66) [0, 1, 2, 3, 4, 5, 6, 7, 8, 9, 10, 11, 12, 13, 14] rfl rfl ?_
              exact k_lret F (by rw [f_bal_2]; simp [lostN, zb, rdM, rdR, h17, i64a, i64b, hc32, hc40, hc41, hc43]) rfl dX10_balance_69
        · refine k_iconst (n := 43) (v := 1) F dX10_balance_42 rfl rfl ?_
          refine k_goto (tgt := 47) F dX10_balance_43 (by decide) ?_
          refine k_iadd (n := 48) F dX10_balance_47 rfl ?_
          refine k_valI (y := 2) rfl ?_
          refine k_istore_n (n := 49) (lv' := [(2, .int 2), (3, .int 1), (0, .ref h0), (1, .int 2)]) F dX10_balance_48 rfl (by decide) rfl rfl ?_
          refine k_iinc (n := 52) (j := 1) (v := 2) (lv' := [(3, .int 2), (2, .int 2), (0, .ref h0), (1, .int 2)]) F dX10_balance_49 rfl rfl (by decide) rfl rfl ?_
          refine k_goto (tgt := 22) F dX10_balance_52 (by decide) ?_
          refine k_iload_n (n := 23) F dX10_balance_22 rfl 0 rfl rfl ?_
          refine k_iconst (n := 24) (v := 4) F dX10_balance_23 rfl rfl ?_
          refine k_icmp_ge (n := 27) (tgt := 55) F dX10_balance_24 (by decide) rfl (fun h9 => absurd h9 (by decide)) (fun _ => ?_)
          refine k_iload_n (n := 28) F dX10_balance_27 rfl 1 rfl rfl ?_
          refine k_iload_n (n := 29) F dX10_balance_28 rfl 0 rfl rfl ?_
          refine k_iload_n (n := 30) F dX10_balance_29 rfl 3 rfl rfl ?_
          refine k_icmp_eq (n := 33) (tgt := 46) F dX10_balance_30 (by decide) rfl (fun _ => ?_) (fun h9 => absurd h9 (by decide))
          refine k_iconst (n := 47) (v := 0) F dX10_balance_46 rfl rfl ?_
          refine k_iadd (n := 48) F dX10_balance_47 rfl ?_
          refine k_valI (y := 2) rfl ?_
          refine k_istore_n (n := 49) (lv' := [(2, .int 2), (3, .int 2), (0, .ref h0), (1, .int 2)]) F dX10_balance_48 rfl (by decide) rfl rfl ?_
          refine k_iinc (n := 52) (j := 1) (v := 3) (lv' := [(3, .int 3), (2, .int 2), (0, .ref h0), (1, .int 2)]) F dX10_balance_49 rfl rfl (by decide) rfl rfl ?_
          refine k_goto (tgt := 22) F dX10_balance_52 (by decide) ?_
          refine k_iload_n (n := 23) F dX10_balance_22 rfl 0 rfl rfl ?_
          refine k_iconst (n := 24) (v := 4) F dX10_balance_23 rfl rfl ?_
          refine k_icmp_ge (n := 27) (tgt := 55) F dX10_balance_24 (by decide) rfl (fun h9 => absurd h9 (by decide)) (fun _ => ?_)
          refine k_iload_n (n := 28) F dX10_balance_27 rfl 1 rfl rfl ?_
          refine k_iload_n (n := 29) F dX10_balance_28 rfl 0 rfl rfl ?_
          refine k_iload_n (n := 30) F dX10_balance_29 rfl 3 rfl rfl ?_
          refine k_icmp_eq (n := 33) (tgt := 46) F dX10_balance_30 (by decide) rfl (fun h9 => absurd h9 (by decide)) (fun _ => ?_)
          refine k_aload_n (n := 34) F dX10_balance_33 rfl 2 rfl rfl ?_
          refine k_rget_33 (n := 37) F dX10_balance_34 rfl ?_
          refine k_iload_n (n := 38) F dX10_balance_37 rfl 0 rfl rfl ?_
          refine k_rald_33 (n := 39) (N := 3) (f := a 33) F rfl (kIx_nI (j := 3) (by decide) (by decide)) dX10_balance_38 rfl ?_
          refine k_if_eq (n := 42) (tgt := 46) F dX10_balance_39 (by decide) rfl (fun hc44 => ?_) (fun hc44 => ?_)
          · refine k_iconst (n := 47) (v := 0) F dX10_balance_46 rfl rfl ?_
            refine k_iadd (n := 48) F dX10_balance_47 rfl ?_
            refine k_valI (y := 2) rfl ?_
            refine k_istore_n (n := 49) (lv' := [(2, .int 2), (3, .int 3), (0, .ref h0), (1, .int 2)]) F dX10_balance_48 rfl (by decide) rfl rfl ?_
            refine k_iinc (n := 52) (j := 1) (v := 4) (lv' := [(3, .int 4), (2, .int 2), (0, .ref h0), (1, .int 2)]) F dX10_balance_49 rfl rfl (by decide) rfl rfl ?_
            refine k_goto (tgt := 22) F dX10_balance_52 (by decide) ?_
            refine k_iload_n (n := 23) F dX10_balance_22 rfl 0 rfl rfl ?_
            refine k_iconst (n := 24) (v := 4) F dX10_balance_23 rfl rfl ?_
            refine k_icmp_ge (n := 27) (tgt := 55) F dX10_balance_24 (by decide) rfl (fun _ => ?_) (fun h9 => absurd h9 (by decide))
            refine k_aload_n (n := 56) F dX10_balance_55 rfl 2 rfl rfl ?_
            refine k_rget_33 (n := 59) F dX10_balance_56 rfl ?_
            refine k_iload_n (n := 60) F dX10_balance_59 rfl 3 rfl rfl ?_
            refine k_rald_33 (n := 61) (N := 2) (f := a 33) F rfl (kIx_nI (j := 2) (by decide) (by decide)) dX10_balance_60 rfl ?_
            refine k_if_ne (n := 64) (tgt := 70) F dX10_balance_61 (by decide) rfl (fun hc45 => ?_) (fun hc45 => ?_)
            · refine k_iload_n (n := 71) F dX10_balance_70 rfl 1 rfl rfl ?_
              refine k_if_le (n := 74) (tgt := 78) F dX10_balance_71 (by decide) rfl (fun h9 => absurd h9 (by decide)) (fun _ => ?_)
              refine k_ldc2 (n := 77) (v := -9) F mw_805 dX10_balance_74 rfl ?_
              exact k_lret F (by rw [f_bal_2]; simp [lostN, zb, rdM, rdR, h17, i64a, i64b, hc32, hc40, hc44, hc45]) rfl dX10_balance_77
            · refine k_aload_n (n := 65) F dX10_balance_64 rfl 2 rfl rfl ?_
              refine k_iload_n (n := 66) F dX10_balance_65 rfl 3 rfl rfl ?_
              refine k_clR (n := 69) F (k_rV (k := 1) (b := h0) (As := [.int 2]) (rest := []) F (r_reads l g h0 ad i l_ a h 2) [0, 1, 2, 3, 4, 5, 6, 7, 8, 9, 10, 11, 12, 13, 14] rfl rfl 0 rfl rfl mw_809 mw_806 mw_808 mw_s27 mw_9 (by decide) ⟨by decide, by decide⟩ rfl (Nat.le_of_ble_eq_true rfl) ⟨by decide, by decide⟩ dX10_balance_66) [0, 1, 2, 3, 4, 5, 6, 7, 8, 9, 10, 11, 12, 13, 14] rfl rfl ?_
              exact k_lret F (by rw [f_bal_2]; simp [lostN, zb, rdM, rdR, h17, i64a, i64b, hc32, hc40, hc44, hc45]) rfl dX10_balance_69
          · refine k_iconst (n := 43) (v := 1) F dX10_balance_42 rfl rfl ?_
            refine k_goto (tgt := 47) F dX10_balance_43 (by decide) ?_
            refine k_iadd (n := 48) F dX10_balance_47 rfl ?_
            refine k_valI (y := 3) rfl ?_
            refine k_istore_n (n := 49) (lv' := [(2, .int 3), (3, .int 3), (0, .ref h0), (1, .int 2)]) F dX10_balance_48 rfl (by decide) rfl rfl ?_
            refine k_iinc (n := 52) (j := 1) (v := 4) (lv' := [(3, .int 4), (2, .int 3), (0, .ref h0), (1, .int 2)]) F dX10_balance_49 rfl rfl (by decide) rfl rfl ?_
            refine k_goto (tgt := 22) F dX10_balance_52 (by decide) ?_
            refine k_iload_n (n := 23) F dX10_balance_22 rfl 0 rfl rfl ?_
            refine k_iconst (n := 24) (v := 4) F dX10_balance_23 rfl rfl ?_
            refine k_icmp_ge (n := 27) (tgt := 55) F dX10_balance_24 (by decide) rfl (fun _ => ?_) (fun h9 => absurd h9 (by decide))
            refine k_aload_n (n := 56) F dX10_balance_55 rfl 2 rfl rfl ?_
            refine k_rget_33 (n := 59) F dX10_balance_56 rfl ?_
            refine k_iload_n (n := 60) F dX10_balance_59 rfl 3 rfl rfl ?_
            refine k_rald_33 (n := 61) (N := 2) (f := a 33) F rfl (kIx_nI (j := 2) (by decide) (by decide)) dX10_balance_60 rfl ?_
            refine k_if_ne (n := 64) (tgt := 70) F dX10_balance_61 (by decide) rfl (fun hc46 => ?_) (fun hc46 => ?_)
            · refine k_iload_n (n := 71) F dX10_balance_70 rfl 1 rfl rfl ?_
              refine k_if_le (n := 74) (tgt := 78) F dX10_balance_71 (by decide) rfl (fun h9 => absurd h9 (by decide)) (fun _ => ?_)
              refine k_ldc2 (n := 77) (v := -9) F mw_805 dX10_balance_74 rfl ?_
              exact k_lret F (by rw [f_bal_2]; simp [lostN, zb, rdM, rdR, h17, i64a, i64b, hc32, hc40, hc44, hc46]) rfl dX10_balance_77
            · refine k_aload_n (n := 65) F dX10_balance_64 rfl 2 rfl rfl ?_
              refine k_iload_n (n := 66) F dX10_balance_65 rfl 3 rfl rfl ?_
              refine k_clR (n := 69) F (k_rV (k := 1) (b := h0) (As := [.int 2]) (rest := []) F (r_reads l g h0 ad i l_ a h 2) [0, 1, 2, 3, 4, 5, 6, 7, 8, 9, 10, 11, 12, 13, 14] rfl rfl 0 rfl rfl mw_809 mw_806 mw_808 mw_s27 mw_9 (by decide) ⟨by decide, by decide⟩ rfl (Nat.le_of_ble_eq_true rfl) ⟨by decide, by decide⟩ dX10_balance_66) [0, 1, 2, 3, 4, 5, 6, 7, 8, 9, 10, 11, 12, 13, 14] rfl rfl ?_
              exact k_lret F (by rw [f_bal_2]; simp [lostN, zb, rdM, rdR, h17, i64a, i64b, hc32, hc40, hc44, hc46]) rfl dX10_balance_69
    · refine k_iconst (n := 19) (v := 0) F dX10_balance_18 rfl rfl ?_
      refine k_istore_n (n := 20) (lv' := [(2, .int 0), (0, .ref h0), (1, .int 3)]) F dX10_balance_19 rfl (by decide) rfl rfl ?_
      refine k_iconst (n := 21) (v := 0) F dX10_balance_20 rfl rfl ?_
      refine k_istore_n (n := 22) (lv' := [(3, .int 0), (2, .int 0), (0, .ref h0), (1, .int 3)]) F dX10_balance_21 rfl (by decide) rfl rfl ?_
      refine k_iload_n (n := 23) F dX10_balance_22 rfl 0 rfl rfl ?_
      refine k_iconst (n := 24) (v := 4) F dX10_balance_23 rfl rfl ?_
      refine k_icmp_ge (n := 27) (tgt := 55) F dX10_balance_24 (by decide) rfl (fun h9 => absurd h9 (by decide)) (fun _ => ?_)
      refine k_iload_n (n := 28) F dX10_balance_27 rfl 1 rfl rfl ?_
      refine k_iload_n (n := 29) F dX10_balance_28 rfl 0 rfl rfl ?_
      refine k_iload_n (n := 30) F dX10_balance_29 rfl 3 rfl rfl ?_
      refine k_icmp_eq (n := 33) (tgt := 46) F dX10_balance_30 (by decide) rfl (fun h9 => absurd h9 (by decide)) (fun _ => ?_)
      refine k_aload_n (n := 34) F dX10_balance_33 rfl 2 rfl rfl ?_
      refine k_rget_33 (n := 37) F dX10_balance_34 rfl ?_
      refine k_iload_n (n := 38) F dX10_balance_37 rfl 0 rfl rfl ?_
      refine k_rald_33 (n := 39) (N := 0) (f := a 33) F rfl (kIx_nI (j := 0) (by decide) (by decide)) dX10_balance_38 rfl ?_
      refine k_if_eq (n := 42) (tgt := 46) F dX10_balance_39 (by decide) rfl (fun hc47 => ?_) (fun hc47 => ?_)
      · refine k_iconst (n := 47) (v := 0) F dX10_balance_46 rfl rfl ?_
        refine k_iadd (n := 48) F dX10_balance_47 rfl ?_
        refine k_valI (y := 0) rfl ?_
        refine k_istore_n (n := 49) (lv' := [(2, .int 0), (3, .int 0), (0, .ref h0), (1, .int 3)]) F dX10_balance_48 rfl (by decide) rfl rfl ?_
        refine k_iinc (n := 52) (j := 1) (v := 1) (lv' := [(3, .int 1), (2, .int 0), (0, .ref h0), (1, .int 3)]) F dX10_balance_49 rfl rfl (by decide) rfl rfl ?_
        refine k_goto (tgt := 22) F dX10_balance_52 (by decide) ?_
        refine k_iload_n (n := 23) F dX10_balance_22 rfl 0 rfl rfl ?_
        refine k_iconst (n := 24) (v := 4) F dX10_balance_23 rfl rfl ?_
        refine k_icmp_ge (n := 27) (tgt := 55) F dX10_balance_24 (by decide) rfl (fun h9 => absurd h9 (by decide)) (fun _ => ?_)
        refine k_iload_n (n := 28) F dX10_balance_27 rfl 1 rfl rfl ?_
        refine k_iload_n (n := 29) F dX10_balance_28 rfl 0 rfl rfl ?_
        refine k_iload_n (n := 30) F dX10_balance_29 rfl 3 rfl rfl ?_
        refine k_icmp_eq (n := 33) (tgt := 46) F dX10_balance_30 (by decide) rfl (fun h9 => absurd h9 (by decide)) (fun _ => ?_)
        refine k_aload_n (n := 34) F dX10_balance_33 rfl 2 rfl rfl ?_
        refine k_rget_33 (n := 37) F dX10_balance_34 rfl ?_
        refine k_iload_n (n := 38) F dX10_balance_37 rfl 0 rfl rfl ?_
        refine k_rald_33 (n := 39) (N := 1) (f := a 33) F rfl (kIx_nI (j := 1) (by decide) (by decide)) dX10_balance_38 rfl ?_
        refine k_if_eq (n := 42) (tgt := 46) F dX10_balance_39 (by decide) rfl (fun hc48 => ?_) (fun hc48 => ?_)
        · refine k_iconst (n := 47) (v := 0) F dX10_balance_46 rfl rfl ?_
          refine k_iadd (n := 48) F dX10_balance_47 rfl ?_
          refine k_valI (y := 0) rfl ?_
          refine k_istore_n (n := 49) (lv' := [(2, .int 0), (3, .int 1), (0, .ref h0), (1, .int 3)]) F dX10_balance_48 rfl (by decide) rfl rfl ?_
          refine k_iinc (n := 52) (j := 1) (v := 2) (lv' := [(3, .int 2), (2, .int 0), (0, .ref h0), (1, .int 3)]) F dX10_balance_49 rfl rfl (by decide) rfl rfl ?_
          refine k_goto (tgt := 22) F dX10_balance_52 (by decide) ?_
          refine k_iload_n (n := 23) F dX10_balance_22 rfl 0 rfl rfl ?_
          refine k_iconst (n := 24) (v := 4) F dX10_balance_23 rfl rfl ?_
          refine k_icmp_ge (n := 27) (tgt := 55) F dX10_balance_24 (by decide) rfl (fun h9 => absurd h9 (by decide)) (fun _ => ?_)
          refine k_iload_n (n := 28) F dX10_balance_27 rfl 1 rfl rfl ?_
          refine k_iload_n (n := 29) F dX10_balance_28 rfl 0 rfl rfl ?_
          refine k_iload_n (n := 30) F dX10_balance_29 rfl 3 rfl rfl ?_
          refine k_icmp_eq (n := 33) (tgt := 46) F dX10_balance_30 (by decide) rfl (fun h9 => absurd h9 (by decide)) (fun _ => ?_)
          refine k_aload_n (n := 34) F dX10_balance_33 rfl 2 rfl rfl ?_
          refine k_rget_33 (n := 37) F dX10_balance_34 rfl ?_
          refine k_iload_n (n := 38) F dX10_balance_37 rfl 0 rfl rfl ?_
          refine k_rald_33 (n := 39) (N := 2) (f := a 33) F rfl (kIx_nI (j := 2) (by decide) (by decide)) dX10_balance_38 rfl ?_
          refine k_if_eq (n := 42) (tgt := 46) F dX10_balance_39 (by decide) rfl (fun hc49 => ?_) (fun hc49 => ?_)
          · refine k_iconst (n := 47) (v := 0) F dX10_balance_46 rfl rfl ?_
            refine k_iadd (n := 48) F dX10_balance_47 rfl ?_
            refine k_valI (y := 0) rfl ?_
            refine k_istore_n (n := 49) (lv' := [(2, .int 0), (3, .int 2), (0, .ref h0), (1, .int 3)]) F dX10_balance_48 rfl (by decide) rfl rfl ?_
            refine k_iinc (n := 52) (j := 1) (v := 3) (lv' := [(3, .int 3), (2, .int 0), (0, .ref h0), (1, .int 3)]) F dX10_balance_49 rfl rfl (by decide) rfl rfl ?_
            refine k_goto (tgt := 22) F dX10_balance_52 (by decide) ?_
            refine k_iload_n (n := 23) F dX10_balance_22 rfl 0 rfl rfl ?_
            refine k_iconst (n := 24) (v := 4) F dX10_balance_23 rfl rfl ?_
            refine k_icmp_ge (n := 27) (tgt := 55) F dX10_balance_24 (by decide) rfl (fun h9 => absurd h9 (by decide)) (fun _ => ?_)
            refine k_iload_n (n := 28) F dX10_balance_27 rfl 1 rfl rfl ?_
            refine k_iload_n (n := 29) F dX10_balance_28 rfl 0 rfl rfl ?_
            refine k_iload_n (n := 30) F dX10_balance_29 rfl 3 rfl rfl ?_
            refine k_icmp_eq (n := 33) (tgt := 46) F dX10_balance_30 (by decide) rfl (fun _ => ?_) (fun h9 => absurd h9 (by decide))
            refine k_iconst (n := 47) (v := 0) F dX10_balance_46 rfl rfl ?_
            refine k_iadd (n := 48) F dX10_balance_47 rfl ?_
            refine k_valI (y := 0) rfl ?_
            refine k_istore_n (n := 49) (lv' := [(2, .int 0), (3, .int 3), (0, .ref h0), (1, .int 3)]) F dX10_balance_48 rfl (by decide) rfl rfl ?_
            refine k_iinc (n := 52) (j := 1) (v := 4) (lv' := [(3, .int 4), (2, .int 0), (0, .ref h0), (1, .int 3)]) F dX10_balance_49 rfl rfl (by decide) rfl rfl ?_
            refine k_goto (tgt := 22) F dX10_balance_52 (by decide) ?_
            refine k_iload_n (n := 23) F dX10_balance_22 rfl 0 rfl rfl ?_
            refine k_iconst (n := 24) (v := 4) F dX10_balance_23 rfl rfl ?_
            refine k_icmp_ge (n := 27) (tgt := 55) F dX10_balance_24 (by decide) rfl (fun _ => ?_) (fun h9 => absurd h9 (by decide))
            refine k_aload_n (n := 56) F dX10_balance_55 rfl 2 rfl rfl ?_
            refine k_rget_33 (n := 59) F dX10_balance_56 rfl ?_
            refine k_iload_n (n := 60) F dX10_balance_59 rfl 3 rfl rfl ?_
            refine k_rald_33 (n := 61) (N := 3) (f := a 33) F rfl (kIx_nI (j := 3) (by decide) (by decide)) dX10_balance_60 rfl ?_
            refine k_if_ne (n := 64) (tgt := 70) F dX10_balance_61 (by decide) rfl (fun hc50 => ?_) (fun hc50 => ?_)
            · refine k_iload_n (n := 71) F dX10_balance_70 rfl 1 rfl rfl ?_
              refine k_if_le (n := 74) (tgt := 78) F dX10_balance_71 (by decide) rfl (fun _ => ?_) (fun h9 => absurd h9 (by decide))
              refine k_iload_n (n := 79) F dX10_balance_78 rfl 3 rfl rfl ?_
              refine k_if_ne (n := 82) (tgt := 102) F dX10_balance_79 (by decide) rfl (fun _ => ?_) (fun h9 => absurd h9 (by decide))
              refine k_aload_n (n := 103) F dX10_balance_102 rfl 2 rfl rfl ?_
              refine k_iconst (n := 104) (v := 0) F dX10_balance_103 rfl rfl ?_
              refine k_clR (n := 107) F (k_rV (k := 1) (b := h0) (As := [.int 0]) (rest := []) F (r_reads l g h0 ad i l_ a h 0) [0, 1, 2, 3, 4, 5, 6, 7, 8, 9, 10, 11, 12, 13, 14] rfl rfl 0 rfl rfl mw_809 mw_806 mw_808 mw_s27 mw_9 (by decide) ⟨by decide, by decide⟩ rfl (Nat.le_of_ble_eq_true rfl) ⟨by decide, by decide⟩ dX10_balance_104) [0, 1, 2, 3, 4, 5, 6, 7, 8, 9, 10, 11, 12, 13, 14] rfl rfl ?_
              refine k_aload_n (n := 108) F dX10_balance_107 rfl 2 rfl rfl ?_
              refine k_iconst (n := 109) (v := 1) F dX10_balance_108 rfl rfl ?_
              refine k_clR (n := 112) F (k_rV (k := 1) (b := h0) (As := [.int 1]) (rest := [.long (rdR (i, l_, a, h) 0)]) F (r_reads l g h0 ad i l_ a h 1) [0, 1, 2, 3, 4, 5, 6, 7, 8, 9, 10, 11, 12, 13, 14] rfl rfl 0 rfl rfl mw_809 mw_806 mw_808 mw_s27 mw_9 (by decide) ⟨by decide, by decide⟩ rfl (Nat.le_of_ble_eq_true rfl) ⟨by decide, by decide⟩ dX10_balance_109) [0, 1, 2, 3, 4, 5, 6, 7, 8, 9, 10, 11, 12, 13, 14] rfl rfl ?_
              refine k_aload_n (n := 113) F dX10_balance_112 rfl 2 rfl rfl ?_
              refine k_iconst (n := 114) (v := 2) F dX10_balance_113 rfl rfl ?_
              refine k_clR (n := 117) F (k_rV (k := 1) (b := h0) (As := [.int 2]) (rest := [.long (rdR (i, l_, a, h) 1), .long (rdR (i, l_, a, h) 0)]) F (r_reads l g h0 ad i l_ a h 2) [0, 1, 2, 3, 4, 5, 6, 7, 8, 9, 10, 11, 12, 13, 14] rfl rfl 0 rfl rfl mw_809 mw_806 mw_808 mw_s27 mw_9 (by decide) ⟨by decide, by decide⟩ rfl (Nat.le_of_ble_eq_true rfl) ⟨by decide, by decide⟩ dX10_balance_114) [0, 1, 2, 3, 4, 5, 6, 7, 8, 9, 10, 11, 12, 13, 14] rfl rfl ?_
              refine k_ladd (n := 118) F dX10_balance_117 rfl ?_
              refine k_aload_n (n := 119) F dX10_balance_118 rfl 2 rfl rfl ?_
              refine k_iconst (n := 120) (v := 3) F dX10_balance_119 rfl rfl ?_
              refine k_clR (n := 123) F (k_rV (k := 1) (b := h0) (As := [.int 3]) (rest := [.long ((rdR (i, l_, a, h) 1) + (rdR (i, l_, a, h) 2)), .long (rdR (i, l_, a, h) 0)]) F (r_reads l g h0 ad i l_ a h 3) [0, 1, 2, 3, 4, 5, 6, 7, 8, 9, 10, 11, 12, 13, 14] rfl rfl 0 rfl rfl mw_809 mw_806 mw_808 mw_s27 mw_9 (by decide) ⟨by decide, by decide⟩ rfl (Nat.le_of_ble_eq_true rfl) ⟨by decide, by decide⟩ dX10_balance_120) [0, 1, 2, 3, 4, 5, 6, 7, 8, 9, 10, 11, 12, 13, 14] rfl rfl ?_
              refine k_ladd (n := 124) F dX10_balance_123 rfl ?_
              refine k_aload_n (n := 125) F dX10_balance_124 rfl 2 rfl rfl ?_
              refine k_iload_n (n := 126) F dX10_balance_125 rfl 3 rfl rfl ?_
              refine k_clR (n := 129) F (k_rV (k := 1) (b := h0) (As := [.int 3]) (rest := [.long (((rdR (i, l_, a, h) 1) + (rdR (i, l_, a, h) 2)) + (rdR (i, l_, a, h) 3)), .long (rdR (i, l_, a, h) 0)]) F (r_reads l g h0 ad i l_ a h 3) [0, 1, 2, 3, 4, 5, 6, 7, 8, 9, 10, 11, 12, 13, 14] rfl rfl 0 rfl rfl mw_809 mw_806 mw_808 mw_s27 mw_9 (by decide) ⟨by decide, by decide⟩ rfl (Nat.le_of_ble_eq_true rfl) ⟨by decide, by decide⟩ dX10_balance_126) [0, 1, 2, 3, 4, 5, 6, 7, 8, 9, 10, 11, 12, 13, 14] rfl rfl ?_
              refine k_lsub (n := 130) F dX10_balance_129 rfl ?_
              refine k_lsub (n := 131) F dX10_balance_130 rfl ?_
              exact k_lret F (by rw [f_bal_3]; simp [lostN, zb, rdM, rdR, h17, i64a, i64b, hc47, hc48, hc49, hc50]) rfl dX10_balance_131
            · refine k_aload_n (n := 65) F dX10_balance_64 rfl 2 rfl rfl ?_
              refine k_iload_n (n := 66) F dX10_balance_65 rfl 3 rfl rfl ?_
              refine k_clR (n := 69) F (k_rV (k := 1) (b := h0) (As := [.int 3]) (rest := []) F (r_reads l g h0 ad i l_ a h 3) [0, 1, 2, 3, 4, 5, 6, 7, 8, 9, 10, 11, 12, 13, 14] rfl rfl 0 rfl rfl mw_809 mw_806 mw_808 mw_s27 mw_9 (by decide) ⟨by decide, by decide⟩ rfl (Nat.le_of_ble_eq_true rfl) ⟨by decide, by decide⟩ dX10_balance_66) [0, 1, 2, 3, 4, 5, 6, 7, 8, 9, 10, 11, 12, 13, 14] rfl rfl ?_
              exact k_lret F (by rw [f_bal_3]; simp [lostN, zb, rdM, rdR, h17, i64a, i64b, hc47, hc48, hc49, hc50]) rfl dX10_balance_69
          · refine k_iconst (n := 43) (v := 1) F dX10_balance_42 rfl rfl ?_
            refine k_goto (tgt := 47) F dX10_balance_43 (by decide) ?_
            refine k_iadd (n := 48) F dX10_balance_47 rfl ?_
            refine k_valI (y := 1) rfl ?_
            refine k_istore_n (n := 49) (lv' := [(2, .int 1), (3, .int 2), (0, .ref h0), (1, .int 3)]) F dX10_balance_48 rfl (by decide) rfl rfl ?_
            refine k_iinc (n := 52) (j := 1) (v := 3) (lv' := [(3, .int 3), (2, .int 1), (0, .ref h0), (1, .int 3)]) F dX10_balance_49 rfl rfl (by decide) rfl rfl ?_
            refine k_goto (tgt := 22) F dX10_balance_52 (by decide) ?_
            refine k_iload_n (n := 23) F dX10_balance_22 rfl 0 rfl rfl ?_
            refine k_iconst (n := 24) (v := 4) F dX10_balance_23 rfl rfl ?_
            refine k_icmp_ge (n := 27) (tgt := 55) F dX10_balance_24 (by decide) rfl (fun h9 => absurd h9 (by decide)) (fun _ => ?_)
            refine k_iload_n (n := 28) F dX10_balance_27 rfl 1 rfl rfl ?_
            refine k_iload_n (n := 29) F dX10_balance_28 rfl 0 rfl rfl ?_
            refine k_iload_n (n := 30) F dX10_balance_29 rfl 3 rfl rfl ?_
            refine k_icmp_eq (n := 33) (tgt := 46) F dX10_balance_30 (by decide) rfl (fun _ => ?_) (fun h9 => absurd h9 (by decide))
            refine k_iconst (n := 47) (v := 0) F dX10_balance_46 rfl rfl ?_
            refine k_iadd (n := 48) F dX10_balance_47 rfl ?_
            refine k_valI (y := 1) rfl ?_
            refine k_istore_n (n := 49) (lv' := [(2, .int 1), (3, .int 3), (0, .ref h0), (1, .int 3)]) F dX10_balance_48 rfl (by decide) rfl rfl ?_
            refine k_iinc (n := 52) (j := 1) (v := 4) (lv' := [(3, .int 4), (2, .int 1), (0, .ref h0), (1, .int 3)]) F dX10_balance_49 rfl rfl (by decide) rfl rfl ?_
            refine k_goto (tgt := 22) F dX10_balance_52 (by decide) ?_
            refine k_iload_n (n := 23) F dX10_balance_22 rfl 0 rfl rfl ?_
            refine k_iconst (n := 24) (v := 4) F dX10_balance_23 rfl rfl ?_
            refine k_icmp_ge (n := 27) (tgt := 55) F dX10_balance_24 (by decide) rfl (fun _ => ?_) (fun h9 => absurd h9 (by decide))
            refine k_aload_n (n := 56) F dX10_balance_55 rfl 2 rfl rfl ?_
            refine k_rget_33 (n := 59) F dX10_balance_56 rfl ?_
            refine k_iload_n (n := 60) F dX10_balance_59 rfl 3 rfl rfl ?_
            refine k_rald_33 (n := 61) (N := 3) (f := a 33) F rfl (kIx_nI (j := 3) (by decide) (by decide)) dX10_balance_60 rfl ?_
            refine k_if_ne (n := 64) (tgt := 70) F dX10_balance_61 (by decide) rfl (fun hc51 => ?_) (fun hc51 => ?_)
            · refine k_iload_n (n := 71) F dX10_balance_70 rfl 1 rfl rfl ?_
              refine k_if_le (n := 74) (tgt := 78) F dX10_balance_71 (by decide) rfl (fun h9 => absurd h9 (by decide)) (fun _ => ?_)
              refine k_ldc2 (n := 77) (v := -9) F mw_805 dX10_balance_74 rfl ?_
              exact k_lret F (by rw [f_bal_3]; simp [lostN, zb, rdM, rdR, h17, i64a, i64b, hc47, hc48, hc49, hc51]) rfl dX10_balance_77
            · refine k_aload_n (n := 65) F dX10_balance_64 rfl 2 rfl rfl ?_
              refine k_iload_n (n := 66) F dX10_balance_65 rfl 3 rfl rfl ?_
              refine k_clR (n := 69) F (k_rV (k := 1) (b := h0) (As := [.int 3]) (rest := []) F (r_reads l g h0 ad i l_ a h 3) [0, 1, 2, 3, 4, 5, 6, 7, 8, 9, 10, 11, 12, 13, 14] rfl rfl 0 rfl rfl mw_809 mw_806 mw_808 mw_s27 mw_9 (by decide) ⟨by decide, by decide⟩ rfl (Nat.le_of_ble_eq_true rfl) ⟨by decide, by decide⟩ dX10_balance_66) [0, 1, 2, 3, 4, 5, 6, 7, 8, 9, 10, 11, 12, 13, 14] rfl rfl ?_
              exact k_lret F (by rw [f_bal_3]; simp [lostN, zb, rdM, rdR, h17, i64a, i64b, hc47, hc48, hc49, hc51]) rfl dX10_balance_69
        · refine k_iconst (n := 43) (v := 1) F dX10_balance_42 rfl rfl ?_
          refine k_goto (tgt := 47) F dX10_balance_43 (by decide) ?_
          refine k_iadd (n := 48) F dX10_balance_47 rfl ?_
          refine k_valI (y := 1) rfl ?_
          refine k_istore_n (n := 49) (lv' := [(2, .int 1), (3, .int 1), (0, .ref h0), (1, .int 3)]) F dX10_balance_48 rfl (by decide) rfl rfl ?_
          refine k_iinc (n := 52) (j := 1) (v := 2) (lv' := [(3, .int 2), (2, .int 1), (0, .ref h0), (1, .int 3)]) F dX10_balance_49 rfl rfl (by decide) rfl rfl ?_
          refine k_goto (tgt := 22) F dX10_balance_52 (by decide) ?_
          refine k_iload_n (n := 23) F dX10_balance_22 rfl 0 rfl rfl ?_
          refine k_iconst (n := 24) (v := 4) F dX10_balance_23 rfl rfl ?_
          refine k_icmp_ge (n := 27) (tgt := 55) F dX10_balance_24 (by decide) rfl (fun h9 => absurd h9 (by decide)) (fun _ => ?_)
          refine k_iload_n (n := 28) F dX10_balance_27 rfl 1 rfl rfl ?_
          refine k_iload_n (n := 29) F dX10_balance_28 rfl 0 rfl rfl ?_
          refine k_iload_n (n := 30) F dX10_balance_29 rfl 3 rfl rfl ?_
          refine k_icmp_eq (n := 33) (tgt := 46) F dX10_balance_30 (by decide) rfl (fun h9 => absurd h9 (by decide)) (fun _ => ?_)
          refine k_aload_n (n := 34) F dX10_balance_33 rfl 2 rfl rfl ?_
          refine k_rget_33 (n := 37) F dX10_balance_34 rfl ?_
          refine k_iload_n (n := 38) F dX10_balance_37 rfl 0 rfl rfl ?_
          refine k_rald_33 (n := 39) (N := 2) (f := a 33) F rfl (kIx_nI (j := 2) (by decide) (by decide)) dX10_balance_38 rfl ?_
          refine k_if_eq (n := 42) (tgt := 46) F dX10_balance_39 (by decide) rfl (fun hc52 => ?_) (fun hc52 => ?_)
          · refine k_iconst (n := 47) (v := 0) F dX10_balance_46 rfl rfl ?_
            refine k_iadd (n := 48) F dX10_balance_47 rfl ?_
            refine k_valI (y := 1) rfl ?_
            refine k_istore_n (n := 49) (lv' := [(2, .int 1), (3, .int 2), (0, .ref h0), (1, .int 3)]) F dX10_balance_48 rfl (by decide) rfl rfl ?_
            refine k_iinc (n := 52) (j := 1) (v := 3) (lv' := [(3, .int 3), (2, .int 1), (0, .ref h0), (1, .int 3)]) F dX10_balance_49 rfl rfl (by decide) rfl rfl ?_
            refine k_goto (tgt := 22) F dX10_balance_52 (by decide) ?_
            refine k_iload_n (n := 23) F dX10_balance_22 rfl 0 rfl rfl ?_
            refine k_iconst (n := 24) (v := 4) F dX10_balance_23 rfl rfl ?_
            refine k_icmp_ge (n := 27) (tgt := 55) F dX10_balance_24 (by decide) rfl (fun h9 => absurd h9 (by decide)) (fun _ => ?_)
            refine k_iload_n (n := 28) F dX10_balance_27 rfl 1 rfl rfl ?_
            refine k_iload_n (n := 29) F dX10_balance_28 rfl 0 rfl rfl ?_
            refine k_iload_n (n := 30) F dX10_balance_29 rfl 3 rfl rfl ?_
            refine k_icmp_eq (n := 33) (tgt := 46) F dX10_balance_30 (by decide) rfl (fun _ => ?_) (fun h9 => absurd h9 (by decide))
            refine k_iconst (n := 47) (v := 0) F dX10_balance_46 rfl rfl ?_
            refine k_iadd (n := 48) F dX10_balance_47 rfl ?_
            refine k_valI (y := 1) rfl ?_
            refine k_istore_n (n := 49) (lv' := [(2, .int 1), (3, .int 3), (0, .ref h0), (1, .int 3)]) F dX10_balance_48 rfl (by decide) rfl rfl ?_
            refine k_iinc (n := 52) (j := 1) (v := 4) (lv' := [(3, .int 4), (2, .int 1), (0, .ref h0), (1, .int 3)]) F dX10_balance_49 rfl rfl (by decide) rfl rfl ?_
            refine k_goto (tgt := 22) F dX10_balance_52 (by decide) ?_
            refine k_iload_n (n := 23) F dX10_balance_22 rfl 0 rfl rfl ?_
            refine k_iconst (n := 24) (v := 4) F dX10_balance_23 rfl rfl ?_
            refine k_icmp_ge (n := 27) (tgt := 55) F dX10_balance_24 (by decide) rfl (fun _ => ?_) (fun h9 => absurd h9 (by decide))
            refine k_aload_n (n := 56) F dX10_balance_55 rfl 2 rfl rfl ?_
            refine k_rget_33 (n := 59) F dX10_balance_56 rfl ?_
            refine k_iload_n (n := 60) F dX10_balance_59 rfl 3 rfl rfl ?_
            refine k_rald_33 (n := 61) (N := 3) (f := a 33) F rfl (kIx_nI (j := 3) (by decide) (by decide)) dX10_balance_60 rfl ?_
            refine k_if_ne (n := 64) (tgt := 70) F dX10_balance_61 (by decide) rfl (fun hc53 => ?_) (fun hc53 => ?_)
            · refine k_iload_n (n := 71) F dX10_balance_70 rfl 1 rfl rfl ?_
              refine k_if_le (n := 74) (tgt := 78) F dX10_balance_71 (by decide) rfl (fun h9 => absurd h9 (by decide)) (fun _ => ?_)
              refine k_ldc2 (n := 77) (v := -9) F mw_805 dX10_balance_74 rfl ?_
              exact k_lret F (by rw [f_bal_3]; simp [lostN, zb, rdM, rdR, h17, i64a, i64b, hc47, hc48, hc52, hc53]) rfl dX10_balance_77
            · refine k_aload_n (n := 65) F dX10_balance_64 rfl 2 rfl rfl ?_
              refine k_iload_n (n := 66) F dX10_balance_65 rfl 3 rfl rfl ?_
              refine k_clR (n := 69) F (k_rV (k := 1) (b := h0) (As := [.int 3]) (rest := []) F (r_reads l g h0 ad i l_ a h 3) [0, 1, 2, 3, 4, 5, 6, 7, 8, 9, 10, 11, 12, 13, 14] rfl rfl 0 rfl rfl mw_809 mw_806 mw_808 mw_s27 mw_9 (by decide) ⟨by decide, by decide⟩ rfl (Nat.le_of_ble_eq_true rfl) ⟨by decide, by decide⟩ dX10_balance_66) [0, 1, 2, 3, 4, 5, 6, 7, 8, 9, 10, 11, 12, 13, 14] rfl rfl ?_
              exact k_lret F (by rw [f_bal_3]; simp [lostN, zb, rdM, rdR, h17, i64a, i64b, hc47, hc48, hc52, hc53]) rfl dX10_balance_69
          · refine k_iconst (n := 43) (v := 1) F dX10_balance_42 rfl rfl ?_
            refine k_goto (tgt := 47) F dX10_balance_43 (by decide) ?_
            refine k_iadd (n := 48) F dX10_balance_47 rfl ?_
            refine k_valI (y := 2) rfl ?_
            refine k_istore_n (n := 49) (lv' := [(2, .int 2), (3, .int 2), (0, .ref h0), (1, .int 3)]) F dX10_balance_48 rfl (by decide) rfl rfl ?_
            refine k_iinc (n := 52) (j := 1) (v := 3) (lv' := [(3, .int 3), (2, .int 2), (0, .ref h0), (1, .int 3)]) F dX10_balance_49 rfl rfl (by decide) rfl rfl ?_
            refine k_goto (tgt := 22) F dX10_balance_52 (by decide) ?_
            refine k_iload_n (n := 23) F dX10_balance_22 rfl 0 rfl rfl ?_
            refine k_iconst (n := 24) (v := 4) F dX10_balance_23 rfl rfl ?_
            refine k_icmp_ge (n := 27) (tgt := 55) F dX10_balance_24 (by decide) rfl (fun h9 => absurd h9 (by decide)) (fun _ => ?_)
            refine k_iload_n (n := 28) F dX10_balance_27 rfl 1 rfl rfl ?_
            refine k_iload_n (n := 29) F dX10_balance_28 rfl 0 rfl rfl ?_
            refine k_iload_n (n := 30) F dX10_balance_29 rfl 3 rfl rfl ?_
            refine k_icmp_eq (n := 33) (tgt := 46) F dX10_balance_30 (by decide) rfl (fun _ => ?_) (fun h9 => absurd h9 (by decide))
            refine k_iconst (n := 47) (v := 0) F dX10_balance_46 rfl rfl ?_
            refine k_iadd (n := 48) F dX10_balance_47 rfl ?_
            refine k_valI (y := 2) rfl ?_
            refine k_istore_n (n := 49) (lv' := [(2, .int 2), (3, .int 3), (0, .ref h0), (1, .int 3)]) F dX10_balance_48 rfl (by decide) rfl rfl ?_
            refine k_iinc (n := 52) (j := 1) (v := 4) (lv' := [(3, .int 4), (2, .int 2), (0, .ref h0), (1, .int 3)]) F dX10_balance_49 rfl rfl (by decide) rfl rfl ?_
            refine k_goto (tgt := 22) F dX10_balance_52 (by decide) ?_
            refine k_iload_n (n := 23) F dX10_balance_22 rfl 0 rfl rfl ?_
            refine k_iconst (n := 24) (v := 4) F dX10_balance_23 rfl rfl ?_
            refine k_icmp_ge (n := 27) (tgt := 55) F dX10_balance_24 (by decide) rfl (fun _ => ?_) (fun h9 => absurd h9 (by decide))
            refine k_aload_n (n := 56) F dX10_balance_55 rfl 2 rfl rfl ?_
            refine k_rget_33 (n := 59) F dX10_balance_56 rfl ?_
            refine k_iload_n (n := 60) F dX10_balance_59 rfl 3 rfl rfl ?_
            refine k_rald_33 (n := 61) (N := 3) (f := a 33) F rfl (kIx_nI (j := 3) (by decide) (by decide)) dX10_balance_60 rfl ?_
            refine k_if_ne (n := 64) (tgt := 70) F dX10_balance_61 (by decide) rfl (fun hc54 => ?_) (fun hc54 => ?_)
            · refine k_iload_n (n := 71) F dX10_balance_70 rfl 1 rfl rfl ?_
              refine k_if_le (n := 74) (tgt := 78) F dX10_balance_71 (by decide) rfl (fun h9 => absurd h9 (by decide)) (fun _ => ?_)
              refine k_ldc2 (n := 77) (v := -9) F mw_805 dX10_balance_74 rfl ?_
              exact k_lret F (by rw [f_bal_3]; simp [lostN, zb, rdM, rdR, h17, i64a, i64b, hc47, hc48, hc52, hc54]) rfl dX10_balance_77
            · refine k_aload_n (n := 65) F dX10_balance_64 rfl 2 rfl rfl ?_
              refine k_iload_n (n := 66) F dX10_balance_65 rfl 3 rfl rfl ?_
              refine k_clR (n := 69) F (k_rV (k := 1) (b := h0) (As := [.int 3]) (rest := []) F (r_reads l g h0 ad i l_ a h 3) [0, 1, 2, 3, 4, 5, 6, 7, 8, 9, 10, 11, 12, 13, 14] rfl rfl 0 rfl rfl mw_809 mw_806 mw_808 mw_s27 mw_9 (by decide) ⟨by decide, by decide⟩ rfl (Nat.le_of_ble_eq_true rfl) ⟨by decide, by decide⟩ dX10_balance_66) [0, 1, 2, 3, 4, 5, 6, 7, 8, 9, 10, 11, 12, 13, 14] rfl rfl ?_
              exact k_lret F (by rw [f_bal_3]; simp [lostN, zb, rdM, rdR, h17, i64a, i64b, hc47, hc48, hc52, hc54]) rfl dX10_balance_69
      · refine k_iconst (n := 43) (v := 1) F dX10_balance_42 rfl rfl ?_
        refine k_goto (tgt := 47) F dX10_balance_43 (by decide) ?_
        refine k_iadd (n := 48) F dX10_balance_47 rfl ?_
        refine k_valI (y := 1) rfl ?_
        refine k_istore_n (n := 49) (lv' := [(2, .int 1), (3, .int 0), (0, .ref h0), (1, .int 3)]) F dX10_balance_48 rfl (by decide) rfl rfl ?_
        refine k_iinc (n := 52) (j := 1) (v := 1) (lv' := [(3, .int 1), (2, .int 1), (0, .ref h0), (1, .int 3)]) F dX10_balance_49 rfl rfl (by decide) rfl rfl ?_
        refine k_goto (tgt := 22) F dX10_balance_52 (by decide) ?_
        refine k_iload_n (n := 23) F dX10_balance_22 rfl 0 rfl rfl ?_
        refine k_iconst (n := 24) (v := 4) F dX10_balance_23 rfl rfl ?_
        refine k_icmp_ge (n := 27) (tgt := 55) F dX10_balance_24 (by decide) rfl (fun h9 => absurd h9 (by decide)) (fun _ => ?_)
        refine k_iload_n (n := 28) F dX10_balance_27 rfl 1 rfl rfl ?_
        refine k_iload_n (n := 29) F dX10_balance_28 rfl 0 rfl rfl ?_
        refine k_iload_n (n := 30) F dX10_balance_29 rfl 3 rfl rfl ?_
        refine k_icmp_eq (n := 33) (tgt := 46) F dX10_balance_30 (by decide) rfl (fun h9 => absurd h9 (by decide)) (fun _ => ?_)
        refine k_aload_n (n := 34) F dX10_balance_33 rfl 2 rfl rfl ?_
        refine k_rget_33 (n := 37) F dX10_balance_34 rfl ?_
        refine k_iload_n (n := 38) F dX10_balance_37 rfl 0 rfl rfl ?_
        refine k_rald_33 (n := 39) (N := 1) (f := a 33) F rfl (kIx_nI (j := 1) (by decide) (by decide)) dX10_balance_38 rfl ?_
        refine k_if_eq (n := 42) (tgt := 46) F dX10_balance_39 (by decide) rfl (fun hc55 => ?_) (fun hc55 => ?_)
        · refine k_iconst (n := 47) (v := 0) F dX10_balance_46 rfl rfl ?_
          refine k_iadd (n := 48) F dX10_balance_47 rfl ?_
          refine k_valI (y := 1) rfl ?_
          refine k_istore_n (n := 49) (lv' := [(2, .int 1), (3, .int 1), (0, .ref h0), (1, .int 3)]) F dX10_balance_48 rfl (by decide) rfl rfl ?_
          refine k_iinc (n := 52) (j := 1) (v := 2) (lv' := [(3, .int 2), (2, .int 1), (0, .ref h0), (1, .int 3)]) F dX10_balance_49 rfl rfl (by decide) rfl rfl ?_
          refine k_goto (tgt := 22) F dX10_balance_52 (by decide) ?_
          refine k_iload_n (n := 23) F dX10_balance_22 rfl 0 rfl rfl ?_
          refine k_iconst (n := 24) (v := 4) F dX10_balance_23 rfl rfl ?_
          refine k_icmp_ge (n := 27) (tgt := 55) F dX10_balance_24 (by decide) rfl (fun h9 => absurd h9 (by decide)) (fun _ => ?_)
          refine k_iload_n (n := 28) F dX10_balance_27 rfl 1 rfl rfl ?_
          refine k_iload_n (n := 29) F dX10_balance_28 rfl 0 rfl rfl ?_
          refine k_iload_n (n := 30) F dX10_balance_29 rfl 3 rfl rfl ?_
          refine k_icmp_eq (n := 33) (tgt := 46) F dX10_balance_30 (by decide) rfl (fun h9 => absurd h9 (by decide)) (fun _ => ?_)
          refine k_aload_n (n := 34) F dX10_balance_33 rfl 2 rfl rfl ?_
          refine k_rget_33 (n := 37) F dX10_balance_34 rfl ?_
          refine k_iload_n (n := 38) F dX10_balance_37 rfl 0 rfl rfl ?_
          refine k_rald_33 (n := 39) (N := 2) (f := a 33) F rfl (kIx_nI (j := 2) (by decide) (by decide)) dX10_balance_38 rfl ?_
          refine k_if_eq (n := 42) (tgt := 46) F dX10_balance_39 (by decide) rfl (fun hc56 => ?_) (fun hc56 => ?_)
          · refine k_iconst (n := 47) (v := 0) F dX10_balance_46 rfl rfl ?_
            refine k_iadd (n := 48) F dX10_balance_47 rfl ?_
            refine k_valI (y := 1) rfl ?_
            refine k_istore_n (n := 49) (lv' := [(2, .int 1), (3, .int 2), (0, .ref h0), (1, .int 3)]) F dX10_balance_48 rfl (by decide) rfl rfl ?_
            refine k_iinc (n := 52) (j := 1) (v := 3) (lv' := [(3, .int 3), (2, .int 1), (0, .ref h0), (1, .int 3)]) F dX10_balance_49 rfl rfl (by decide) rfl rfl ?_
            refine k_goto (tgt := 22) F dX10_balance_52 (by decide) ?_
            refine k_iload_n (n := 23) F dX10_balance_22 rfl 0 rfl rfl ?_
            refine k_iconst (n := 24) (v := 4) F dX10_balance_23 rfl rfl ?_
            refine k_icmp_ge (n := 27) (tgt := 55) F dX10_balance_24 (by decide) rfl (fun h9 => absurd h9 (by decide)) (fun _ => ?_)
            refine k_iload_n (n := 28) F dX10_balance_27 rfl 1 rfl rfl ?_
            refine k_iload_n (n := 29) F dX10_balance_28 rfl 0 rfl rfl ?_
            refine k_iload_n (n := 30) F dX10_balance_29 rfl 3 rfl rfl ?_
            refine k_icmp_eq (n := 33) (tgt := 46) F dX10_balance_30 (by decide) rfl (fun _ => ?_) (fun h9 => absurd h9 (by decide))
            refine k_iconst (n := 47) (v := 0) F dX10_balance_46 rfl rfl ?_
            refine k_iadd (n := 48) F dX10_balance_47 rfl ?_
            refine k_valI (y := 1) rfl ?_
            refine k_istore_n (n := 49) (lv' := [(2, .int 1), (3, .int 3), (0, .ref h0), (1, .int 3)]) F dX10_balance_48 rfl (by decide) rfl rfl ?_
            refine k_iinc (n := 52) (j := 1) (v := 4) (lv' := [(3, .int 4), (2, .int 1), (0, .ref h0), (1, .int 3)]) F dX10_balance_49 rfl rfl (by decide) rfl rfl ?_
            refine k_goto (tgt := 22) F dX10_balance_52 (by decide) ?_
            refine k_iload_n (n := 23) F dX10_balance_22 rfl 0 rfl rfl ?_
            refine k_iconst (n := 24) (v := 4) F dX10_balance_23 rfl rfl ?_
            refine k_icmp_ge (n := 27) (tgt := 55) F dX10_balance_24 (by decide) rfl (fun _ => ?_) (fun h9 => absurd h9 (by decide))
            refine k_aload_n (n := 56) F dX10_balance_55 rfl 2 rfl rfl ?_
            refine k_rget_33 (n := 59) F dX10_balance_56 rfl ?_
            refine k_iload_n (n := 60) F dX10_balance_59 rfl 3 rfl rfl ?_
            refine k_rald_33 (n := 61) (N := 3) (f := a 33) F rfl (kIx_nI (j := 3) (by decide) (by decide)) dX10_balance_60 rfl ?_
            refine k_if_ne (n := 64) (tgt := 70) F dX10_balance_61 (by decide) rfl (fun hc57 => ?_) (fun hc57 => ?_)
            · refine k_iload_n (n := 71) F dX10_balance_70 rfl 1 rfl rfl ?_
              refine k_if_le (n := 74) (tgt := 78) F dX10_balance_71 (by decide) rfl (fun h9 => absurd h9 (by decide)) (fun _ => ?_)
              refine k_ldc2 (n := 77) (v := -9) F mw_805 dX10_balance_74 rfl ?_
              exact k_lret F (by rw [f_bal_3]; simp [lostN, zb, rdM, rdR, h17, i64a, i64b, hc47, hc55, hc56, hc57]) rfl dX10_balance_77
            · refine k_aload_n (n := 65) F dX10_balance_64 rfl 2 rfl rfl ?_
              refine k_iload_n (n := 66) F dX10_balance_65 rfl 3 rfl rfl ?_
              refine k_clR (n := 69) F (k_rV (k := 1) (b := h0) (As := [.int 3]) (rest := []) F (r_reads l g h0 ad i l_ a h 3) [0, 1, 2, 3, 4, 5, 6, 7, 8, 9, 10, 11, 12, 13, 14] rfl rfl 0 rfl rfl mw_809 mw_806 mw_808 mw_s27 mw_9 (by decide) ⟨by decide, by decide⟩ rfl (Nat.le_of_ble_eq_true rfl) ⟨by decide, by decide⟩ dX10_balance_66) [0, 1, 2, 3, 4, 5, 6, 7, 8, 9, 10, 11, 12, 13, 14] rfl rfl ?_
              exact k_lret F (by rw [f_bal_3]; simp [lostN, zb, rdM, rdR, h17, i64a, i64b, hc47, hc55, hc56, hc57]) rfl dX10_balance_69
          · refine k_iconst (n := 43) (v := 1) F dX10_balance_42 rfl rfl ?_
            refine k_goto (tgt := 47) F dX10_balance_43 (by decide) ?_
            refine k_iadd (n := 48) F dX10_balance_47 rfl ?_
            refine k_valI (y := 2) rfl ?_
            refine k_istore_n (n := 49) (lv' := [(2, .int 2), (3, .int 2), (0, .ref h0), (1, .int 3)]) F dX10_balance_48 rfl (by decide) rfl rfl ?_
            refine k_iinc (n := 52) (j := 1) (v := 3) (lv' := [(3, .int 3), (2, .int 2), (0, .ref h0), (1, .int 3)]) F dX10_balance_49 rfl rfl (by decide) rfl rfl ?_
            refine k_goto (tgt := 22) F dX10_balance_52 (by decide) ?_
            refine k_iload_n (n := 23) F dX10_balance_22 rfl 0 rfl rfl ?_
            refine k_iconst (n := 24) (v := 4) F dX10_balance_23 rfl rfl ?_
            refine k_icmp_ge (n := 27) (tgt := 55) F dX10_balance_24 (by decide) rfl (fun h9 => absurd h9 (by decide)) (fun _ => ?_)
            refine k_iload_n (n := 28) F dX10_balance_27 rfl 1 rfl rfl ?_
            refine k_iload_n (n := 29) F dX10_balance_28 rfl 0 rfl rfl ?_
            refine k_iload_n (n := 30) F dX10_balance_29 rfl 3 rfl rfl ?_
            refine k_icmp_eq (n := 33) (tgt := 46) F dX10_balance_30 (by decide) rfl (fun _ => ?_) (fun h9 => absurd h9 (by decide))
            refine k_iconst (n := 47) (v := 0) F dX10_balance_46 rfl rfl ?_
            refine k_iadd (n := 48) F dX10_balance_47 rfl ?_
            refine k_valI (y := 2) rfl ?_
            refine k_istore_n (n := 49) (lv' := [(2, .int 2), (3, .int 3), (0, .ref h0), (1, .int 3)]) F dX10_balance_48 rfl (by decide) rfl rfl ?_
            refine k_iinc (n := 52) (j := 1) (v := 4) (lv' := [(3, .int 4), (2, .int 2), (0, .ref h0), (1, .int 3)]) F dX10_balance_49 rfl rfl (by decide) rfl rfl ?_
            refine k_goto (tgt := 22) F dX10_balance_52 (by decide) ?_
            refine k_iload_n (n := 23) F dX10_balance_22 rfl 0 rfl rfl ?_
            refine k_iconst (n := 24) (v := 4) F dX10_balance_23 rfl rfl ?_
            refine k_icmp_ge (n := 27) (tgt := 55) F dX10_balance_24 (by decide) rfl (fun _ => ?_) (fun h9 => absurd h9 (by decide))
            refine k_aload_n (n := 56) F dX10_balance_55 rfl 2 rfl rfl ?_
            refine k_rget_33 (n := 59) F dX10_balance_56 rfl ?_
            refine k_iload_n (n := 60) F dX10_balance_59 rfl 3 rfl rfl ?_
            refine k_rald_33 (n := 61) (N := 3) (f := a 33) F rfl (kIx_nI (j := 3) (by decide) (by decide)) dX10_balance_60 rfl ?_
            refine k_if_ne (n := 64) (tgt := 70) F dX10_balance_61 (by decide) rfl (fun hc58 => ?_) (fun hc58 => ?_)
            · refine k_iload_n (n := 71) F dX10_balance_70 rfl 1 rfl rfl ?_
              refine k_if_le (n := 74) (tgt := 78) F dX10_balance_71 (by decide) rfl (fun h9 => absurd h9 (by decide)) (fun _ => ?_)
              refine k_ldc2 (n := 77) (v := -9) F mw_805 dX10_balance_74 rfl ?_
              exact k_lret F (by rw [f_bal_3]; simp [lostN, zb, rdM, rdR, h17, i64a, i64b, hc47, hc55, hc56, hc58]) rfl dX10_balance_77
            · refine k_aload_n (n := 65) F dX10_balance_64 rfl 2 rfl rfl ?_
              refine k_iload_n (n := 66) F dX10_balance_65 rfl 3 rfl rfl ?_
              refine k_clR (n := 69) F (k_rV (k := 1) (b := h0) (As := [.int 3]) (rest := []) F (r_reads l g h0 ad i l_ a h 3) [0, 1, 2, 3, 4, 5, 6, 7, 8, 9, 10, 11, 12, 13, 14] rfl rfl 0 rfl rfl mw_809 mw_806 mw_808 mw_s27 mw_9 (by decide) ⟨by decide, by decide⟩ rfl (Nat.le_of_ble_eq_true rfl) ⟨by decide, by decide⟩ dX10_balance_66) [0, 1, 2, 3, 4, 5, 6, 7, 8, 9, 10, 11, 12, 13, 14] rfl rfl ?_
              exact k_lret F (by rw [f_bal_3]; simp [lostN, zb, rdM, rdR, h17, i64a, i64b, hc47, hc55, hc56, hc58]) rfl dX10_balance_69
        · refine k_iconst (n := 43) (v := 1) F dX10_balance_42 rfl rfl ?_
          refine k_goto (tgt := 47) F dX10_balance_43 (by decide) ?_
          refine k_iadd (n := 48) F dX10_balance_47 rfl ?_
          refine k_valI (y := 2) rfl ?_
          refine k_istore_n (n := 49) (lv' := [(2, .int 2), (3, .int 1), (0, .ref h0), (1, .int 3)]) F dX10_balance_48 rfl (by decide) rfl rfl ?_
          refine k_iinc (n := 52) (j := 1) (v := 2) (lv' := [(3, .int 2), (2, .int 2), (0, .ref h0), (1, .int 3)]) F dX10_balance_49 rfl rfl (by decide) rfl rfl ?_
          refine k_goto (tgt := 22) F dX10_balance_52 (by decide) ?_
          refine k_iload_n (n := 23) F dX10_balance_22 rfl 0 rfl rfl ?_
          refine k_iconst (n := 24) (v := 4) F dX10_balance_23 rfl rfl ?_
          refine k_icmp_ge (n := 27) (tgt := 55) F dX10_balance_24 (by decide) rfl (fun h9 => absurd h9 (by decide)) (fun _ => ?_)
          refine k_iload_n (n := 28) F dX10_balance_27 rfl 1 rfl rfl ?_
          refine k_iload_n (n := 29) F dX10_balance_28 rfl 0 rfl rfl ?_
          refine k_iload_n (n := 30) F dX10_balance_29 rfl 3 rfl rfl ?_
          refine k_icmp_eq (n := 33) (tgt := 46) F dX10_balance_30 (by decide) rfl (fun h9 => absurd h9 (by decide)) (fun _ => ?_)
          refine k_aload_n (n := 34) F dX10_balance_33 rfl 2 rfl rfl ?_
          refine k_rget_33 (n := 37) F dX10_balance_34 rfl ?_
          refine k_iload_n (n := 38) F dX10_balance_37 rfl 0 rfl rfl ?_
          refine k_rald_33 (n := 39) (N := 2) (f := a 33) F rfl (kIx_nI (j := 2) (by decide) (by decide)) dX10_balance_38 rfl ?_
          refine k_if_eq (n := 42) (tgt := 46) F dX10_balance_39 (by decide) rfl (fun hc59 => ?_) (fun hc59 => ?_)
          · refine k_iconst (n := 47) (v := 0) F dX10_balance_46 rfl rfl ?_
            refine k_iadd (n := 48) F dX10_balance_47 rfl ?_
            refine k_valI (y := 2) rfl ?_
            refine k_istore_n (n := 49) (lv' := [(2, .int 2), (3, .int 2), (0, .ref h0), (1, .int 3)]) F dX10_balance_48 rfl (by decide) rfl rfl ?_
            refine k_iinc (n := 52) (j := 1) (v := 3) (lv' := [(3, .int 3), (2, .int 2), (0, .ref h0), (1, .int 3)]) F dX10_balance_49 rfl rfl (by decide) rfl rfl ?_
            refine k_goto (tgt := 22) F dX10_balance_52 (by decide) ?_
            refine k_iload_n (n := 23) F dX10_balance_22 rfl 0 rfl rfl ?_
            refine k_iconst (n := 24) (v := 4) F dX10_balance_23 rfl rfl ?_
            refine k_icmp_ge (n := 27) (tgt := 55) F dX10_balance_24 (by decide) rfl (fun h9 => absurd h9 (by decide)) (fun _ => ?_)
            refine k_iload_n (n := 28) F dX10_balance_27 rfl 1 rfl rfl ?_
            refine k_iload_n (n := 29) F dX10_balance_28 rfl 0 rfl rfl ?_
            refine k_iload_n (n := 30) F dX10_balance_29 rfl 3 rfl rfl ?_
            refine k_icmp_eq (n := 33) (tgt := 46) F dX10_balance_30 (by decide) rfl (fun _ => ?_) (fun h9 => absurd h9 (by decide))
            refine k_iconst (n := 47) (v := 0) F dX10_balance_46 rfl rfl ?_
            refine k_iadd (n := 48) F dX10_balance_47 rfl ?_
            refine k_valI (y := 2) rfl ?_
            refine k_istore_n (n := 49) (lv' := [(2, .int 2), (3, .int 3), (0, .ref h0), (1, .int 3)]) F dX10_balance_48 rfl (by decide) rfl rfl ?_
            refine k_iinc (n := 52) (j := 1) (v := 4) (lv' := [(3, .int 4), (2, .int 2), (0, .ref h0), (1, .int 3)]) F dX10_balance_49 rfl rfl (by decide) rfl rfl ?_
            refine k_goto (tgt := 22) F dX10_balance_52 (by decide) ?_
            refine k_iload_n (n := 23) F dX10_balance_22 rfl 0 rfl rfl ?_
            refine k_iconst (n := 24) (v := 4) F dX10_balance_23 rfl rfl ?_
            refine k_icmp_ge (n := 27) (tgt := 55) F dX10_balance_24 (by decide) rfl (fun _ => ?_) (fun h9 => absurd h9 (by decide))
            refine k_aload_n (n := 56) F dX10_balance_55 rfl 2 rfl rfl ?_
            refine k_rget_33 (n := 59) F dX10_balance_56 rfl ?_
            refine k_iload_n (n := 60) F dX10_balance_59 rfl 3 rfl rfl ?_
            refine k_rald_33 (n := 61) (N := 3) (f := a 33) F rfl (kIx_nI (j := 3) (by decide) (by decide)) dX10_balance_60 rfl ?_
            refine k_if_ne (n := 64) (tgt := 70) F dX10_balance_61 (by decide) rfl (fun hc60 => ?_) (fun hc60 => ?_)
            · refine k_iload_n (n := 71) F dX10_balance_70 rfl 1 rfl rfl ?_
              refine k_if_le (n := 74) (tgt := 78) F dX10_balance_71 (by decide) rfl (fun h9 => absurd h9 (by decide)) (fun _ => ?_)
              refine k_ldc2 (n := 77) (v := -9) F mw_805 dX10_balance_74 rfl ?_
              exact k_lret F (by rw [f_bal_3]; simp [lostN, zb, rdM, rdR, h17, i64a, i64b, hc47, hc55, hc59, hc60]) rfl dX10_balance_77
            · refine k_aload_n (n := 65) F dX10_balance_64 rfl 2 rfl rfl ?_
              refine k_iload_n (n := 66) F dX10_balance_65 rfl 3 rfl rfl ?_
              refine k_clR (n := 69) F (k_rV (k := 1) (b := h0) (As := [.int 3]) (rest := []) F (r_reads l g h0 ad i l_ a h 3) [0, 1, 2, 3, 4, 5, 6, 7, 8, 9, 10, 11, 12, 13, 14] rfl rfl 0 rfl rfl mw_809 mw_806 mw_808 mw_s27 mw_9 (by decide) ⟨by decide, by decide⟩ rfl (Nat.le_of_ble_eq_true rfl) ⟨by decide, by decide⟩ dX10_balance_66) [0, 1, 2, 3, 4, 5, 6, 7, 8, 9, 10, 11, 12, 13, 14] rfl rfl ?_
              exact k_lret F (by rw [f_bal_3]; simp [lostN, zb, rdM, rdR, h17, i64a, i64b, hc47, hc55, hc59, hc60]) rfl dX10_balance_69
          · refine k_iconst (n := 43) (v := 1) F dX10_balance_42 rfl rfl ?_
            refine k_goto (tgt := 47) F dX10_balance_43 (by decide) ?_
            refine k_iadd (n := 48) F dX10_balance_47 rfl ?_
            refine k_valI (y := 3) rfl ?_
            refine k_istore_n (n := 49) (lv' := [(2, .int 3), (3, .int 2), (0, .ref h0), (1, .int 3)]) F dX10_balance_48 rfl (by decide) rfl rfl ?_
            refine k_iinc (n := 52) (j := 1) (v := 3) (lv' := [(3, .int 3), (2, .int 3), (0, .ref h0), (1, .int 3)]) F dX10_balance_49 rfl rfl (by decide) rfl rfl ?_
            refine k_goto (tgt := 22) F dX10_balance_52 (by decide) ?_
            refine k_iload_n (n := 23) F dX10_balance_22 rfl 0 rfl rfl ?_
            refine k_iconst (n := 24) (v := 4) F dX10_balance_23 rfl rfl ?_
            refine k_icmp_ge (n := 27) (tgt := 55) F dX10_balance_24 (by decide) rfl (fun h9 => absurd h9 (by decide)) (fun _ => ?_)
            refine k_iload_n (n := 28) F dX10_balance_27 rfl 1 rfl rfl ?_
            refine k_iload_n (n := 29) F dX10_balance_28 rfl 0 rfl rfl ?_
            refine k_iload_n (n := 30) F dX10_balance_29 rfl 3 rfl rfl ?_
            refine k_icmp_eq (n := 33) (tgt := 46) F dX10_balance_30 (by decide) rfl (fun _ => ?_) (fun h9 => absurd h9 (by decide))
            refine k_iconst (n := 47) (v := 0) F dX10_balance_46 rfl rfl ?_
            refine k_iadd (n := 48) F dX10_balance_47 rfl ?_
            refine k_valI (y := 3) rfl ?_
            refine k_istore_n (n := 49) (lv' := [(2, .int 3), (3, .int 3), (0, .ref h0), (1, .int 3)]) F dX10_balance_48 rfl (by decide) rfl rfl ?_
            refine k_iinc (n := 52) (j := 1) (v := 4) (lv' := [(3, .int 4), (2, .int 3), (0, .ref h0), (1, .int 3)]) F dX10_balance_49 rfl rfl (by decide) rfl rfl ?_
            refine k_goto (tgt := 22) F dX10_balance_52 (by decide) ?_
            refine k_iload_n (n := 23) F dX10_balance_22 rfl 0 rfl rfl ?_
            refine k_iconst (n := 24) (v := 4) F dX10_balance_23 rfl rfl ?_
            refine k_icmp_ge (n := 27) (tgt := 55) F dX10_balance_24 (by decide) rfl (fun _ => ?_) (fun h9 => absurd h9 (by decide))
            refine k_aload_n (n := 56) F dX10_balance_55 rfl 2 rfl rfl ?_
            refine k_rget_33 (n := 59) F dX10_balance_56 rfl ?_
            refine k_iload_n (n := 60) F dX10_balance_59 rfl 3 rfl rfl ?_
            refine k_rald_33 (n := 61) (N := 3) (f := a 33) F rfl (kIx_nI (j := 3) (by decide) (by decide)) dX10_balance_60 rfl ?_
            refine k_if_ne (n := 64) (tgt := 70) F dX10_balance_61 (by decide) rfl (fun hc61 => ?_) (fun hc61 => ?_)
            · refine k_iload_n (n := 71) F dX10_balance_70 rfl 1 rfl rfl ?_
              refine k_if_le (n := 74) (tgt := 78) F dX10_balance_71 (by decide) rfl (fun h9 => absurd h9 (by decide)) (fun _ => ?_)
              refine k_ldc2 (n := 77) (v := -9) F mw_805 dX10_balance_74 rfl ?_
              exact k_lret F (by rw [f_bal_3]; simp [lostN, zb, rdM, rdR, h17, i64a, i64b, hc47, hc55, hc59, hc61]) rfl dX10_balance_77
            · refine k_aload_n (n := 65) F dX10_balance_64 rfl 2 rfl rfl ?_
              refine k_iload_n (n := 66) F dX10_balance_65 rfl 3 rfl rfl ?_
              refine k_clR (n := 69) F (k_rV (k := 1) (b := h0) (As := [.int 3]) (rest := []) F (r_reads l g h0 ad i l_ a h 3) [0, 1, 2, 3, 4, 5, 6, 7, 8, 9, 10, 11, 12, 13, 14] rfl rfl 0 rfl rfl mw_809 mw_806 mw_808 mw_s27 mw_9 (by decide) ⟨by decide, by decide⟩ rfl (Nat.le_of_ble_eq_true rfl) ⟨by decide, by decide⟩ dX10_balance_66) [0, 1, 2, 3, 4, 5, 6, 7, 8, 9, 10, 11, 12, 13, 14] rfl rfl ?_
              exact k_lret F (by rw [f_bal_3]; simp [lostN, zb, rdM, rdR, h17, i64a, i64b, hc47, hc55, hc59, hc61]) rfl dX10_balance_69
  · refine k_ldc2 (n := 17) (v := -1) F mw_724 dX10_balance_14 rfl ?_
    exact k_lret F (by first | (simp only [f_balance, hc1, if_true, if_false, not_true_eq_false, not_false_eq_true]; done) | (simp only [f_balance, hc1, if_true, if_false, not_true_eq_false, not_false_eq_true, upd, va_up, vp_updL, reduceIte, Nat.reduceEqDiff]; done) | (simp [f_balance, hc1]; done) | (simp_all [f_balance, hc1]; done)) (by first | (simp only [f_balance, hc1, if_true, if_false, not_true_eq_false, not_false_eq_true]; done) | (simp only [f_balance, hc1, if_true, if_false, not_true_eq_false, not_false_eq_true, wR, upd, va_up, vp_updL, reduceIte, Nat.reduceEqDiff]; done) | (simp [f_balance, hc1, wR, upd, va_up, vp_updL]; done) | (simp_all [f_balance, hc1, wR, upd, va_up, vp_updL]; done)) dX10_balance_17
set_option maxRecDepth 100000 in
set_option maxHeartbeats 4000000 in
theorem r_fl3 {p : Program} {l : Launch} {e : Env} {R : Room} {s : State} {m : MethodId} {args : Array Value} {below : List Frame} {meth : Method} {c : Code} {g : kG} {A : Nat → Prop} {nm : String} {c1 s1 : Nat} {h0 : Nat} {ad : Nat → Nat} {i : Nat → Int32} {l_ : Nat → Int64} {a : Nat → Nat → Int32} (F : kF p s m args meth c g A 6 cX10_flows "ColdWorksModel" (some .int) nm) {n : Nat} (hn : i 6 = nI n) (hn1 : 1 ≤ n) (hn8 : n ≤ 8) (W1 C1 : Nat → Int32) (H4 : Nat → Int64) (bk liq : Int32) : ∀ (k j : Nat), j + 1 ≤ n → n ≤ j + k → KW p l e R s m args below meth c (MQ below (kDi g liq (wR g h0 ad (i, l_, va_up (va_up a 7 W1) 8 (mvC C1 n bk), H4)) A) args s c1 s1 A) g A 6 (wR g h0 ad (i, l_, va_up (va_up a 7 W1) 8 (shC C1 j), H4)) c1 s1 254 [(5, .int (nI j)), (4, .int bk), (3, .int liq), (0, .ref h0)] [] := by
  intro k
  induction k with
  | zero =>
    intro j hj h2_
    exact absurd h2_ (by omega)
  | succ k ih =>
    intro j hj h2_
    refine k_iload (n := 256) F dX10_flows_254 0 rfl rfl ?_
    refine k_aload_n (n := 257) F dX10_flows_256 rfl 3 rfl rfl ?_
    refine k_rget_6 (n := 260) (v := i 6) F rfl dX10_flows_257 rfl ?_
    refine k_iconst (n := 261) (v := 1) F dX10_flows_260 rfl rfl ?_
    refine k_isub (n := 262) F dX10_flows_261 rfl ?_
    refine k_icmp_ge (n := 265) (tgt := 287) F dX10_flows_262 (by decide) rfl (fun hc301 => ?_) (fun hc301 => ?_)
    · refine k_aload_n (n := 288) F dX10_flows_287 rfl 3 rfl rfl ?_
      refine k_rget_8 (n := 291) F dX10_flows_288 rfl ?_
      refine k_aload_n (n := 292) F dX10_flows_291 rfl 3 rfl rfl ?_
      refine k_rget_6 (n := 295) (v := i 6) F rfl dX10_flows_292 rfl ?_
      refine k_iconst (n := 296) (v := 1) F dX10_flows_295 rfl rfl ?_
      refine k_isub (n := 297) F dX10_flows_296 rfl ?_
      refine k_iload (n := 299) F dX10_flows_297 1 rfl rfl ?_
      refine k_rast_8 (n := 300) (N := n - 1) (f := shC C1 j) (u' := (i, l_, va_up (va_up (va_up a 7 W1) 8 (shC C1 j)) 8 (upd (shC C1 j) (n - 1) bk), H4)) F (show (va_up (va_up a 7 W1) 8 (shC C1 j)) 8 = shC C1 j from va_up_self _ _ _) (ix6 hn hn1 hn8) rfl dX10_flows_299 rfl ?_
      refine k_iload_n (n := 301) F dX10_flows_300 rfl 2 rfl rfl ?_
      exact k_iret F rfl (by rw [mvC_s hn1 (ge6 hn hn1 hn8 hj hc301)]; simp only [wR, upd, va_up, vp_updL, reduceIte, Nat.reduceEqDiff]) dX10_flows_301
    · refine k_aload_n (n := 266) F dX10_flows_265 rfl 3 rfl rfl ?_
      refine k_rget_8 (n := 269) F dX10_flows_266 rfl ?_
      refine k_iload (n := 271) F dX10_flows_269 0 rfl rfl ?_
      refine k_aload_n (n := 272) F dX10_flows_271 rfl 3 rfl rfl ?_
      refine k_rget_8 (n := 275) F dX10_flows_272 rfl ?_
      refine k_iload (n := 277) F dX10_flows_275 0 rfl rfl ?_
      refine k_iconst (n := 278) (v := 1) F dX10_flows_277 rfl rfl ?_
      refine k_iadd (n := 279) F dX10_flows_278 rfl ?_
      refine k_rald_8 (n := 280) (N := j + 1) (f := shC C1 j) F (show (va_up (va_up a 7 W1) 8 (shC C1 j)) 8 = shC C1 j from va_up_self _ _ _) (by rw [nI_1]; exact kIx_nI (Nat.lt_of_lt_of_le (lt6 hn hn1 hn8 hj hc301) hn8) (by decide)) dX10_flows_279 rfl ?_
      refine k_rast_8 (n := 281) (N := j) (f := shC C1 j) (u' := (i, l_, va_up (va_up (va_up a 7 W1) 8 (shC C1 j)) 8 (upd (shC C1 j) j ((shC C1 j) (j + 1))), H4)) F (show (va_up (va_up a 7 W1) 8 (shC C1 j)) 8 = shC C1 j from va_up_self _ _ _) (kIx_nI (Nat.lt_of_lt_of_le (Nat.lt_of_succ_lt (lt6 hn hn1 hn8 hj hc301)) hn8) (by decide)) rfl dX10_flows_280 rfl ?_
      refine k_iinc (n := 284) (j := 0) (v := nI (j + 1)) (lv' := [(5, .int (nI (j + 1))), (4, .int bk), (3, .int liq), (0, .ref h0)]) F dX10_flows_281 rfl (nI_1 j) (by decide) rfl rfl ?_
      refine k_goto (tgt := 254) F dX10_flows_284 (by decide) ?_
      have hj9 : j + 1 < n := lt6 hn hn1 hn8 hj hc301
      refine k_lv (lv' := [(5, .int (nI (j + 1))), (4, .int bk), (3, .int liq), (0, .ref h0)]) [0, 1, 2, 3] rfl ?_
      refine k_world (ws' := wR g h0 ad (i, l_, va_up (va_up a 7 W1) 8 (shC C1 (j + 1)), H4)) (by rw [shC_s]; simp only [wR, upd, va_up, vp_updL, reduceIte, Nat.reduceEqDiff]) ?_
      exact ih (j + 1) (by omega) (by omega)
set_option maxRecDepth 100000 in
set_option maxHeartbeats 4000000 in
theorem r_fl2 {p : Program} {l : Launch} {e : Env} {R : Room} {s : State} {m : MethodId} {args : Array Value} {below : List Frame} {meth : Method} {c : Code} {g : kG} {A : Nat → Prop} {nm : String} {c1 s1 : Nat} {h0 : Nat} {ad : Nat → Nat} {i : Nat → Int32} {l_ : Nat → Int64} {a : Nat → Nat → Int32} (F : kF p s m args meth c g A 6 cX10_flows "ColdWorksModel" (some .int) nm) {n : Nat} (hn : i 6 = nI n) (hn1 : 1 ≤ n) (hn8 : n ≤ 8) (W1 C1 : Nat → Int32) (H4 : Nat → Int64) (bk liq : Int32) : ∀ (t : Nat), t + 1 ≤ n → KW p l e R s m args below meth c (MQ below (kDi g liq (wR g h0 ad (i, l_, va_up (va_up a 7 (mvW W1 n (a 10 2))) 8 (mvC C1 n bk), H4)) A) args s c1 s1 A) g A 6 (wR g h0 ad (i, l_, va_up (va_up a 7 (shW W1 n t)) 8 C1, H4)) c1 s1 212 [(5, .int (nI t)), (4, .int bk), (3, .int liq), (0, .ref h0)] [] := by
  intro t
  induction t with
  | zero =>
    intro ht
    refine k_iload (n := 214) F dX10_flows_212 0 rfl rfl ?_
    refine k_if_le (n := 217) (tgt := 239) F dX10_flows_214 (by decide) rfl (fun hc201 => ?_) (fun hc201 => ?_)
    · refine k_aload_n (n := 240) F dX10_flows_239 rfl 3 rfl rfl ?_
      refine k_rget_7 (n := 243) F dX10_flows_240 rfl ?_
      refine k_iconst (n := 244) (v := 0) F dX10_flows_243 rfl rfl ?_
      refine k_aload_n (n := 245) F dX10_flows_244 rfl 3 rfl rfl ?_
      refine k_rget_10 (n := 248) F dX10_flows_245 rfl ?_
      refine k_iconst (n := 249) (v := 2) F dX10_flows_248 rfl rfl ?_
      refine k_rald_10 (n := 250) (N := 2) (f := a 10) F (show (va_up (va_up a 7 (shW W1 n 0)) 8 C1) 10 = a 10 from (va_up_ne _ (k := 8) (j := 10) _ (by decide)).trans (va_up_ne _ (k := 7) (j := 10) _ (by decide))) (kIx_nI (j := 2) (by decide) (by decide)) dX10_flows_249 rfl ?_
      refine k_rast_7 (n := 251) (N := 0) (f := shW W1 n 0) (u' := (i, l_, va_up (va_up (va_up a 7 (shW W1 n 0)) 8 C1) 7 (upd (shW W1 n 0) 0 ((a 10) 2)), H4)) F (show (va_up (va_up a 7 (shW W1 n 0)) 8 C1) 7 = shW W1 n 0 from (va_up_ne _ (k := 8) (j := 7) _ (by decide)).trans (va_up_self _ _ _)) (kIx_nI (j := 0) (by decide) (by decide)) rfl dX10_flows_250 rfl ?_
      refine k_iconst (n := 252) (v := 0) F dX10_flows_251 rfl rfl ?_
      refine k_istore (n := 254) (lv' := [(5, .int 0), (4, .int bk), (3, .int liq), (0, .ref h0)]) F dX10_flows_252 (by decide) rfl rfl ?_
      refine k_lv (lv' := [(5, .int (nI 0)), (4, .int bk), (3, .int liq), (0, .ref h0)]) [0, 1, 2, 3] rfl ?_
      refine k_world (ws' := wR g h0 ad (i, l_, va_up (va_up a 7 (mvW W1 n (a 10 2))) 8 (shC C1 0), H4)) (by rw [shW_e, shC_0]; simp only [wR, upd, va_up, vp_updL, reduceIte, Nat.reduceEqDiff]) ?_
      exact r_fl3 F hn hn1 hn8 _ _ _ _ _ n 0 (by omega) (by omega)
    · exact absurd (by decide) hc201
  | succ t ih =>
    intro ht
    refine k_iload (n := 214) F dX10_flows_212 0 rfl rfl ?_
    refine k_if_le (n := 217) (tgt := 239) F dX10_flows_214 (by decide) rfl (fun hc201 => ?_) (fun hc201 => ?_)
    · exact absurd hc201 (nI_nle (by omega) (by omega))
    · refine k_aload_n (n := 218) F dX10_flows_217 rfl 3 rfl rfl ?_
      refine k_rget_7 (n := 221) F dX10_flows_218 rfl ?_
      refine k_iload (n := 223) F dX10_flows_221 0 rfl rfl ?_
      refine k_aload_n (n := 224) F dX10_flows_223 rfl 3 rfl rfl ?_
      refine k_rget_7 (n := 227) F dX10_flows_224 rfl ?_
      refine k_iload (n := 229) F dX10_flows_227 0 rfl rfl ?_
      refine k_iconst (n := 230) (v := 1) F dX10_flows_229 rfl rfl ?_
      refine k_isub (n := 231) F dX10_flows_230 rfl ?_
      refine k_rald_7 (n := 232) (N := t) (f := shW W1 n (t + 1)) F (show (va_up (va_up a 7 (shW W1 n (t + 1))) 8 C1) 7 = shW W1 n (t + 1) from (va_up_ne _ (k := 8) (j := 7) _ (by decide)).trans (va_up_self _ _ _)) (by rw [nI_pred]; exact kIx_nI (by omega) (by decide)) dX10_flows_231 rfl ?_
      refine k_rast_7 (n := 233) (N := t + 1) (f := shW W1 n (t + 1)) (u' := (i, l_, va_up (va_up (va_up a 7 (shW W1 n (t + 1))) 8 C1) 7 (upd (shW W1 n (t + 1)) (t + 1) ((shW W1 n (t + 1)) t)), H4)) F (show (va_up (va_up a 7 (shW W1 n (t + 1))) 8 C1) 7 = shW W1 n (t + 1) from (va_up_ne _ (k := 8) (j := 7) _ (by decide)).trans (va_up_self _ _ _)) (kIx_nI (by omega) (by decide)) rfl dX10_flows_232 rfl ?_
      refine k_iinc (n := 236) (j := 0) (v := nI t) (lv' := [(5, .int (nI t)), (4, .int bk), (3, .int liq), (0, .ref h0)]) F dX10_flows_233 rfl (pk_m1 t) (by decide) rfl rfl ?_
      refine k_goto (tgt := 212) F dX10_flows_236 (by decide) ?_
      refine k_lv (lv' := [(5, .int (nI t)), (4, .int bk), (3, .int liq), (0, .ref h0)]) [0, 1, 2, 3] rfl ?_
      refine k_world (ws' := wR g h0 ad (i, l_, va_up (va_up a 7 (shW W1 n t)) 8 C1, H4)) (by rw [shW_s (by omega)]; simp only [wR, upd, va_up, vp_updL, reduceIte, Nat.reduceEqDiff]) ?_
      exact ih (by omega)
set_option maxRecDepth 100000 in
set_option maxHeartbeats 4000000 in
theorem r_fl1 {p : Program} {l : Launch} {e : Env} {R : Room} {s : State} {m : MethodId} {args : Array Value} {below : List Frame} {meth : Method} {c : Code} {g : kG} {A : Nat → Prop} {nm : String} {c1 s1 : Nat} {h0 : Nat} {ad : Nat → Nat} {i : Nat → Int32} {l_ : Nat → Int64} {a : Nat → Nat → Int32} (F : kF p s m args meth c g A 6 cX10_flows "ColdWorksModel" (some .int) nm) {n : Nat} (hn : i 6 = nI n) (hn1 : 1 ≤ n) (hn8 : n ≤ 8) (W1 C1 : Nat → Int32) (hq : Nat → Int64) (bk liq lft : Int32) : KW p l e R s m args below meth c (MQ below (kDi g liq (wR g h0 ad (i, l_, va_up (va_up a 7 (mvW W1 n (a 10 2))) 8 (mvC C1 n bk), vp_updL (vp_updL (vp_updL (vp_updL hq 0 (hq 0 + (a 10 2).toInt64)) 1 (hq 1 + (C1 0).toInt64)) 2 (hq 2 + (lft - bk).toInt64)) 3 (hq 3 + 1))) A) args s c1 s1 A) g A 6 (wR g h0 ad (i, l_, va_up (va_up a 7 W1) 8 C1, hq)) c1 s1 148 [(4, .int bk), (3, .int liq), (1, .int lft), (0, .ref h0)] [] := by
  refine k_aload_n (n := 149) F dX10_flows_148 rfl 3 rfl rfl ?_
  refine k_rget_11 (n := 152) F dX10_flows_149 rfl ?_
  refine k_iconst (n := 153) (v := 0) F dX10_flows_152 rfl rfl ?_
  refine k_dup2_11 (n := 154) F dX10_flows_153 rfl rfl rfl ?_
  refine k_rald_11 (n := 155) (N := 0) (f := hq) F rfl (kIx_nI (j := 0) (by decide) (by decide)) dX10_flows_154 rfl ?_
  refine k_aload_n (n := 156) F dX10_flows_155 rfl 3 rfl rfl ?_
  refine k_rget_10 (n := 159) F dX10_flows_156 rfl ?_
  refine k_iconst (n := 160) (v := 2) F dX10_flows_159 rfl rfl ?_
  refine k_rald_10 (n := 161) (N := 2) (f := a 10) F (show (va_up (va_up a 7 W1) 8 C1) 10 = a 10 from (va_up_ne _ (k := 8) (j := 10) _ (by decide)).trans (va_up_ne _ (k := 7) (j := 10) _ (by decide))) (kIx_nI (j := 2) (by decide) (by decide)) dX10_flows_160 rfl ?_
  refine k_i2l (n := 162) F dX10_flows_161 rfl ?_
  refine k_ladd (n := 163) F dX10_flows_162 rfl ?_
  refine k_rast_11 (n := 164) (N := 0) (f := hq) (u' := (i, l_, va_up (va_up a 7 W1) 8 C1, vp_updL hq 0 ((hq 0) + (((a 10) 2).toInt64)))) F rfl (kIx_nI (j := 0) (by decide) (by decide)) rfl dX10_flows_163 rfl ?_
  refine k_aload_n (n := 165) F dX10_flows_164 rfl 3 rfl rfl ?_
  refine k_rget_11 (n := 168) F dX10_flows_165 rfl ?_
  refine k_iconst (n := 169) (v := 1) F dX10_flows_168 rfl rfl ?_
  refine k_dup2_11 (n := 170) F dX10_flows_169 rfl rfl rfl ?_
  refine k_rald_11 (n := 171) (N := 1) (f := vp_updL hq 0 ((hq 0) + (((a 10) 2).toInt64))) F rfl (kIx_nI (j := 1) (by decide) (by decide)) dX10_flows_170 rfl ?_
  refine k_aload_n (n := 172) F dX10_flows_171 rfl 3 rfl rfl ?_
  refine k_rget_8 (n := 175) F dX10_flows_172 rfl ?_
  refine k_iconst (n := 176) (v := 0) F dX10_flows_175 rfl rfl ?_
  refine k_rald_8 (n := 177) (N := 0) (f := C1) F (show (va_up (va_up a 7 W1) 8 C1) 8 = C1 from va_up_self _ _ _) (kIx_nI (j := 0) (by decide) (by decide)) dX10_flows_176 rfl ?_
  refine k_i2l (n := 178) F dX10_flows_177 rfl ?_
  refine k_ladd (n := 179) F dX10_flows_178 rfl ?_
  refine k_rast_11 (n := 180) (N := 1) (f := vp_updL hq 0 ((hq 0) + (((a 10) 2).toInt64))) (u' := (i, l_, va_up (va_up a 7 W1) 8 C1, vp_updL (vp_updL hq 0 ((hq 0) + (((a 10) 2).toInt64))) 1 (((vp_updL hq 0 ((hq 0) + (((a 10) 2).toInt64))) 1) + ((C1 0).toInt64)))) F rfl (kIx_nI (j := 1) (by decide) (by decide)) rfl dX10_flows_179 rfl ?_
  refine k_aload_n (n := 181) F dX10_flows_180 rfl 3 rfl rfl ?_
  refine k_rget_11 (n := 184) F dX10_flows_181 rfl ?_
  refine k_iconst (n := 185) (v := 2) F dX10_flows_184 rfl rfl ?_
  refine k_dup2_11 (n := 186) F dX10_flows_185 rfl rfl rfl ?_
  refine k_rald_11 (n := 187) (N := 2) (f := vp_updL (vp_updL hq 0 ((hq 0) + (((a 10) 2).toInt64))) 1 (((vp_updL hq 0 ((hq 0) + (((a 10) 2).toInt64))) 1) + ((C1 0).toInt64))) F rfl (kIx_nI (j := 2) (by decide) (by decide)) dX10_flows_186 rfl ?_
  refine k_iload_n (n := 188) F dX10_flows_187 rfl 2 rfl rfl ?_
  refine k_iload (n := 190) F dX10_flows_188 0 rfl rfl ?_
  refine k_isub (n := 191) F dX10_flows_190 rfl ?_
  refine k_i2l (n := 192) F dX10_flows_191 rfl ?_
  refine k_ladd (n := 193) F dX10_flows_192 rfl ?_
  refine k_rast_11 (n := 194) (N := 2) (f := vp_updL (vp_updL hq 0 ((hq 0) + (((a 10) 2).toInt64))) 1 (((vp_updL hq 0 ((hq 0) + (((a 10) 2).toInt64))) 1) + ((C1 0).toInt64))) (u' := (i, l_, va_up (va_up a 7 W1) 8 C1, vp_updL (vp_updL (vp_updL hq 0 ((hq 0) + (((a 10) 2).toInt64))) 1 (((vp_updL hq 0 ((hq 0) + (((a 10) 2).toInt64))) 1) + ((C1 0).toInt64))) 2 (((vp_updL (vp_updL hq 0 ((hq 0) + (((a 10) 2).toInt64))) 1 (((vp_updL hq 0 ((hq 0) + (((a 10) 2).toInt64))) 1) + ((C1 0).toInt64))) 2) + ((lft - bk).toInt64)))) F rfl (kIx_nI (j := 2) (by decide) (by decide)) rfl dX10_flows_193 rfl ?_
  refine k_aload_n (n := 195) F dX10_flows_194 rfl 3 rfl rfl ?_
  refine k_rget_11 (n := 198) F dX10_flows_195 rfl ?_
  refine k_iconst (n := 199) (v := 3) F dX10_flows_198 rfl rfl ?_
  refine k_dup2_11 (n := 200) F dX10_flows_199 rfl rfl rfl ?_
  refine k_rald_11 (n := 201) (N := 3) (f := vp_updL (vp_updL (vp_updL hq 0 ((hq 0) + (((a 10) 2).toInt64))) 1 (((vp_updL hq 0 ((hq 0) + (((a 10) 2).toInt64))) 1) + ((C1 0).toInt64))) 2 (((vp_updL (vp_updL hq 0 ((hq 0) + (((a 10) 2).toInt64))) 1 (((vp_updL hq 0 ((hq 0) + (((a 10) 2).toInt64))) 1) + ((C1 0).toInt64))) 2) + ((lft - bk).toInt64))) F rfl (kIx_nI (j := 3) (by decide) (by decide)) dX10_flows_200 rfl ?_
  refine k_lconst (n := 202) (v := 1) F dX10_flows_201 rfl rfl ?_
  refine k_ladd (n := 203) F dX10_flows_202 rfl ?_
  refine k_rast_11 (n := 204) (N := 3) (f := vp_updL (vp_updL (vp_updL hq 0 ((hq 0) + (((a 10) 2).toInt64))) 1 (((vp_updL hq 0 ((hq 0) + (((a 10) 2).toInt64))) 1) + ((C1 0).toInt64))) 2 (((vp_updL (vp_updL hq 0 ((hq 0) + (((a 10) 2).toInt64))) 1 (((vp_updL hq 0 ((hq 0) + (((a 10) 2).toInt64))) 1) + ((C1 0).toInt64))) 2) + ((lft - bk).toInt64))) (u' := (i, l_, va_up (va_up a 7 W1) 8 C1, vp_updL (vp_updL (vp_updL (vp_updL hq 0 ((hq 0) + (((a 10) 2).toInt64))) 1 (((vp_updL hq 0 ((hq 0) + (((a 10) 2).toInt64))) 1) + ((C1 0).toInt64))) 2 (((vp_updL (vp_updL hq 0 ((hq 0) + (((a 10) 2).toInt64))) 1 (((vp_updL hq 0 ((hq 0) + (((a 10) 2).toInt64))) 1) + ((C1 0).toInt64))) 2) + ((lft - bk).toInt64))) 3 (((vp_updL (vp_updL (vp_updL hq 0 ((hq 0) + (((a 10) 2).toInt64))) 1 (((vp_updL hq 0 ((hq 0) + (((a 10) 2).toInt64))) 1) + ((C1 0).toInt64))) 2 (((vp_updL (vp_updL hq 0 ((hq 0) + (((a 10) 2).toInt64))) 1 (((vp_updL hq 0 ((hq 0) + (((a 10) 2).toInt64))) 1) + ((C1 0).toInt64))) 2) + ((lft - bk).toInt64))) 3) + 1))) F rfl (kIx_nI (j := 3) (by decide) (by decide)) rfl dX10_flows_203 rfl ?_
  refine k_aload_n (n := 205) F dX10_flows_204 rfl 3 rfl rfl ?_
  refine k_rget_6 (n := 208) (v := i 6) F rfl dX10_flows_205 rfl ?_
  refine k_iconst (n := 209) (v := 1) F dX10_flows_208 rfl rfl ?_
  refine k_isub (n := 210) F dX10_flows_209 rfl ?_
  refine k_istore (n := 212) (lv' := [(5, .int ((i 6) - 1)), (4, .int bk), (3, .int liq), (1, .int lft), (0, .ref h0)]) F dX10_flows_210 (by decide) rfl rfl ?_
  refine k_lv (lv' := [(5, .int ((i 6) - 1)), (4, .int bk), (3, .int liq), (0, .ref h0)]) [0, 1, 2, 4] rfl ?_
  refine k_lvv (lv' := [(5, .int (nI (n - 1))), (4, .int bk), (3, .int liq), (0, .ref h0)]) (by rw [hn, show nI n - 1 = nI (n - 1) from pk_sub (b := 1) hn1]) ?_
  refine k_world (ws' := wR g h0 ad (i, l_, va_up (va_up a 7 (shW W1 n (n - 1))) 8 C1, vp_updL (vp_updL (vp_updL (vp_updL hq 0 ((hq 0) + (((a 10) 2).toInt64))) 1 (((vp_updL hq 0 ((hq 0) + (((a 10) 2).toInt64))) 1) + ((C1 0).toInt64))) 2 (((vp_updL (vp_updL hq 0 ((hq 0) + (((a 10) 2).toInt64))) 1 (((vp_updL hq 0 ((hq 0) + (((a 10) 2).toInt64))) 1) + ((C1 0).toInt64))) 2) + ((lft - bk).toInt64))) 3 (((vp_updL (vp_updL (vp_updL hq 0 ((hq 0) + (((a 10) 2).toInt64))) 1 (((vp_updL hq 0 ((hq 0) + (((a 10) 2).toInt64))) 1) + ((C1 0).toInt64))) 2 (((vp_updL (vp_updL hq 0 ((hq 0) + (((a 10) 2).toInt64))) 1 (((vp_updL hq 0 ((hq 0) + (((a 10) 2).toInt64))) 1) + ((C1 0).toInt64))) 2) + ((lft - bk).toInt64))) 3) + 1))) (by rw [shW_0]) ?_
  exact r_fl2 F hn hn1 hn8 _ _ _ _ _ (n - 1) (by omega)
