theorem kn6 {x : Int32} (h : 1 ≤ x ∧ x ≤ 8) : ∃ n : Nat, x = nI n ∧ 1 ≤ n ∧ n ≤ 8 ∧ x.toNatClampNeg = n := ⟨x.toNatClampNeg, kclamp (k1le h.1), kcl1 h.1, kclamp8 (k1le h.1) h.2, rfl⟩
theorem va_up_id7 (a : Nat → Nat → Int32) : va_up (va_up a 7 (a 7)) 8 (a 8) = a := by
  funext k
  by_cases h8 : k = 8
  · subst h8; simp [va_up]
  · by_cases h7 : k = 7
    · subst h7; simp [va_up]
    · simp [va_up, h7, h8]
section
variable {fw fc : Nat → Int32} {hu co : Int32} {n : Nat}
theorem ps_A (h : 80 ≤ exW fw fc hu n (n - 1) - co) : psG fw fc hu n co = exW fw fc hu n (n - 1) - co ∧ psR fw fc hu n co = 0 := by
  have e : psG fw fc hu n co = exW fw fc hu n (n - 1) - co := if_neg (Int32.not_lt.mpr h)
  refine ⟨e, ?_⟩
  unfold psR
  rw [e]
  show (if 20 < (exW fw fc hu n (n - 1) - co - (exW fw fc hu n (n - 1) - co)) / 5 then 20 else (exW fw fc hu n (n - 1) - co - (exW fw fc hu n (n - 1) - co)) / 5) = 0
  rw [Int32.sub_self]
  decide
theorem ps_B (h : ¬ 80 ≤ exW fw fc hu n (n - 1) - co) (h2 : (80 - (exW fw fc hu n (n - 1) - co)) / 5 ≤ 20) : psG fw fc hu n co = 80 ∧ psR fw fc hu n co = (80 - (exW fw fc hu n (n - 1) - co)) / 5 := by
  have e : psG fw fc hu n co = 80 := if_pos (Int32.not_le.mp h)
  refine ⟨e, ?_⟩
  unfold psR
  rw [e]
  exact if_neg (Int32.not_lt.mpr h2)
theorem ps_C (h : ¬ 80 ≤ exW fw fc hu n (n - 1) - co) (h2 : ¬ (80 - (exW fw fc hu n (n - 1) - co)) / 5 ≤ 20) : psG fw fc hu n co = 80 ∧ psR fw fc hu n co = 20 := by
  have e : psG fw fc hu n co = 80 := if_pos (Int32.not_le.mp h)
  refine ⟨e, ?_⟩
  unfold psR
  rw [e]
  exact if_pos (Int32.not_le.mp h2)
end
section
variable {i : Nat → Int32} {l_ : Nat → Int64} {a : Nat → Nat → Int32} {h : Nat → Int64}
theorem fco_0 (hc : a 10 0 = -9) : fl_co (i, l_, a, h) = 0 := by
  show kcold (i, l_, a, h) (a 10 0) (a 10 1) = 0
  rw [hc]
  exact if_pos (kin_0.mpr (fun q => absurd q.1 (by decide)))
theorem fco_1 {X Y : Nat → Int32} (hc : ¬ kin (a 10 0) 0 (i 2 - 1) = 0) : fl_co (i, l_, a, h) = cdC (va_up (va_up a 7 X) 8 Y) (a 10 0).toNatClampNeg (a 10 1) := if_neg hc
end
set_option maxRecDepth 100000 in
set_option maxHeartbeats 4000000 in
theorem r_flows (l : Launch) (g : kG) (h0 : Nat) (ad : Nat → Nat) (i : Nat → Int32) (l_ : Nat → Int64) (a : Nat → Nat → Int32) (h : Nat → Int64) (h2 : 0 ≤ i 2 ∧ i 2 ≤ 6) (hk : ∀ c : Nat, c < (i 2).toNatClampNeg → a 3 c = 0 ∨ a 3 c = 1 ∨ a 3 c = 2) (h6 : 1 ≤ i 6 ∧ i 6 ≤ 8) (hcool : a 10 0 = -9 ∨ ¬ kin (a 10 0) 0 (i 2 - 1) = 0) (hdrop : ¬ kin (a 10 1) 0 40 = 0) : kM l yX10_flows cX10_flows 6 (some .int) (rmK 1 0 0 26) g [.ref h0] (wR g h0 ad (i, l_, a, h)) (kDi g (fl_R (i, l_, a, h)) (wR g h0 ad (fl_S (i, l_, a, h)))) := by
  obtain ⟨n, hn, hn1, hn8, hcl⟩ := kn6 h6
  have eR : fl_R (i, l_, a, h) = psR (a 7) (a 8) (i 9) n (fl_co (i, l_, a, h)) := by unfold fl_R; rw [hcl]
  have eS : fl_S (i, l_, a, h) = (i, l_, va_up (va_up a 7 (mvW (exW (a 7) (a 8) (i 9) n) n (a 10 2))) 8 (mvC (exC (a 7) (a 8) (i 9) n) n (psG (a 7) (a 8) (i 9) n (fl_co (i, l_, a, h)))), vp_updL (vp_updL (vp_updL (vp_updL h 0 (h 0 + (a 10 2).toInt64)) 1 (h 1 + (exC (a 7) (a 8) (i 9) n 0).toInt64)) 2 (h 2 + (psL (a 7) (a 8) (i 9) n - psG (a 7) (a 8) (i 9) n (fl_co (i, l_, a, h))).toInt64)) 3 (h 3 + 1)) := by unfold fl_S; rw [hcl]
  rw [eR, eS]
  refine k_enter (by decide) (Nat.le_of_ble_eq_true rfl) ?_
  intro p e s m args below meth c A F
  have h102 : KW p l e ((rmK 1 0 0 26)) s m args below meth c (MQ below (kDi g (psR (a 7) (a 8) (i 9) n (fl_co (i, l_, a, h))) (wR g h0 ad (i, l_, va_up (va_up a 7 (mvW (exW (a 7) (a 8) (i 9) n) n (a 10 2))) 8 (mvC (exC (a 7) (a 8) (i 9) n) n (psG (a 7) (a 8) (i 9) n (fl_co (i, l_, a, h)))), vp_updL (vp_updL (vp_updL (vp_updL h 0 (h 0 + (a 10 2).toInt64)) 1 (h 1 + (exC (a 7) (a 8) (i 9) n 0).toInt64)) 2 (h 2 + (psL (a 7) (a 8) (i 9) n - psG (a 7) (a 8) (i 9) n (fl_co (i, l_, a, h))).toInt64)) 3 (h 3 + 1))) A) args s ((rmK 1 0 0 26)).cells ((rmK 1 0 0 26)).slots A) g A 6 (wR g h0 ad (i, l_, va_up (va_up a 7 (exW (a 7) (a 8) (i 9) n)) 8 (exC (a 7) (a 8) (i 9) n), h)) 0 0 102 [(1, .int ((exW (a 7) (a 8) (i 9) n) (n - 1))), (0, .ref h0)] [.int (fl_co (i, l_, a, h)), .int ((exW (a 7) (a 8) (i 9) n) (n - 1))] := by
    refine k_isub (n := 103) F dX10_flows_102 rfl ?_
    refine k_istore_n (n := 104) (lv' := [(2, .int (((exW (a 7) (a 8) (i 9) n) (n - 1)) - (fl_co (i, l_, a, h)))), (1, .int ((exW (a 7) (a 8) (i 9) n) (n - 1))), (0, .ref h0)]) F dX10_flows_103 rfl (by decide) rfl rfl ?_
    refine k_iload_n (n := 105) F dX10_flows_104 rfl 0 rfl rfl ?_
    refine k_bipush (n := 107) (v := 80) F dX10_flows_105 rfl rfl ?_
    refine k_icmp_ge (n := 110) (tgt := 119) F dX10_flows_107 (by decide) rfl (fun hc201 => ?_) (fun hc201 => ?_)
    · refine k_iconst (n := 120) (v := 0) F dX10_flows_119 rfl rfl ?_
      refine k_istore_n (n := 121) (lv' := [(3, .int 0), (2, .int (((exW (a 7) (a 8) (i 9) n) (n - 1)) - (fl_co (i, l_, a, h)))), (1, .int ((exW (a 7) (a 8) (i 9) n) (n - 1))), (0, .ref h0)]) F dX10_flows_120 rfl (by decide) rfl rfl ?_
      refine k_iload_n (n := 122) F dX10_flows_121 rfl 0 rfl rfl ?_
      refine k_bipush (n := 124) (v := 20) F dX10_flows_122 rfl rfl ?_
      refine k_icmp_le (n := 127) (tgt := 132) F dX10_flows_124 (by decide) rfl (fun _ => ?_) (fun h9 => absurd h9 (by decide))
      refine k_iload_n (n := 133) F dX10_flows_132 rfl 0 rfl rfl ?_
      refine k_istore_n (n := 134) (lv' := [(3, .int 0), (2, .int (((exW (a 7) (a 8) (i 9) n) (n - 1)) - (fl_co (i, l_, a, h)))), (1, .int ((exW (a 7) (a 8) (i 9) n) (n - 1))), (0, .ref h0)]) F dX10_flows_133 rfl (by decide) rfl rfl ?_
      refine k_iload_n (n := 135) F dX10_flows_134 rfl 1 rfl rfl ?_
      refine k_bipush (n := 137) (v := 80) F dX10_flows_135 rfl rfl ?_
      refine k_icmp_ge (n := 140) (tgt := 145) F dX10_flows_137 (by decide) rfl (fun _ => ?_) (fun h9 => absurd hc201 h9)
      refine k_iload_n (n := 146) F dX10_flows_145 rfl 1 rfl rfl ?_
      refine k_istore (n := 148) (lv' := [(4, .int (((exW (a 7) (a 8) (i 9) n) (n - 1)) - (fl_co (i, l_, a, h)))), (3, .int 0), (2, .int (((exW (a 7) (a 8) (i 9) n) (n - 1)) - (fl_co (i, l_, a, h)))), (1, .int ((exW (a 7) (a 8) (i 9) n) (n - 1))), (0, .ref h0)]) F dX10_flows_146 (by decide) rfl rfl ?_
      have ep := ps_A (fw := a 7) (fc := a 8) (hu := i 9) (n := n) (co := fl_co (i, l_, a, h)) hc201
      refine k_lv (lv' := [(4, .int (((exW (a 7) (a 8) (i 9) n) (n - 1)) - (fl_co (i, l_, a, h)))), (3, .int 0), (1, .int ((exW (a 7) (a 8) (i 9) n) (n - 1))), (0, .ref h0)]) [0, 1, 3, 4] rfl ?_
      refine k_lvv (lv' := [(4, .int (psG (a 7) (a 8) (i 9) n (fl_co (i, l_, a, h)))), (3, .int (psR (a 7) (a 8) (i 9) n (fl_co (i, l_, a, h)))), (1, .int (psL (a 7) (a 8) (i 9) n)), (0, .ref h0)]) (by rw [ep.1, ep.2]; rfl) ?_
      exact r_fl1 F hn hn1 hn8 _ _ _ _ _ _
    · refine k_bipush (n := 112) (v := 80) F dX10_flows_110 rfl rfl ?_
      refine k_iload_n (n := 113) F dX10_flows_112 rfl 0 rfl rfl ?_
      refine k_isub (n := 114) F dX10_flows_113 rfl ?_
      refine k_iconst (n := 115) (v := 5) F dX10_flows_114 rfl rfl ?_
      refine k_idiv (n := 116) F dX10_flows_115 (by decide) rfl ?_
      refine k_goto (tgt := 120) F dX10_flows_116 (by decide) ?_
      refine k_istore_n (n := 121) (lv' := [(3, .int ((80 - (((exW (a 7) (a 8) (i 9) n) (n - 1)) - (fl_co (i, l_, a, h)))) / 5)), (2, .int (((exW (a 7) (a 8) (i 9) n) (n - 1)) - (fl_co (i, l_, a, h)))), (1, .int ((exW (a 7) (a 8) (i 9) n) (n - 1))), (0, .ref h0)]) F dX10_flows_120 rfl (by decide) rfl rfl ?_
      refine k_iload_n (n := 122) F dX10_flows_121 rfl 0 rfl rfl ?_
      refine k_bipush (n := 124) (v := 20) F dX10_flows_122 rfl rfl ?_
      refine k_icmp_le (n := 127) (tgt := 132) F dX10_flows_124 (by decide) rfl (fun hc202 => ?_) (fun hc202 => ?_)
      · refine k_iload_n (n := 133) F dX10_flows_132 rfl 0 rfl rfl ?_
        refine k_istore_n (n := 134) (lv' := [(3, .int ((80 - (((exW (a 7) (a 8) (i 9) n) (n - 1)) - (fl_co (i, l_, a, h)))) / 5)), (2, .int (((exW (a 7) (a 8) (i 9) n) (n - 1)) - (fl_co (i, l_, a, h)))), (1, .int ((exW (a 7) (a 8) (i 9) n) (n - 1))), (0, .ref h0)]) F dX10_flows_133 rfl (by decide) rfl rfl ?_
        refine k_iload_n (n := 135) F dX10_flows_134 rfl 1 rfl rfl ?_
        refine k_bipush (n := 137) (v := 80) F dX10_flows_135 rfl rfl ?_
        refine k_icmp_ge (n := 140) (tgt := 145) F dX10_flows_137 (by decide) rfl (fun h9 => absurd h9 hc201) (fun _ => ?_)
        refine k_bipush (n := 142) (v := 80) F dX10_flows_140 rfl rfl ?_
        refine k_goto (tgt := 146) F dX10_flows_142 (by decide) ?_
        refine k_istore (n := 148) (lv' := [(4, .int 80), (3, .int ((80 - (((exW (a 7) (a 8) (i 9) n) (n - 1)) - (fl_co (i, l_, a, h)))) / 5)), (2, .int (((exW (a 7) (a 8) (i 9) n) (n - 1)) - (fl_co (i, l_, a, h)))), (1, .int ((exW (a 7) (a 8) (i 9) n) (n - 1))), (0, .ref h0)]) F dX10_flows_146 (by decide) rfl rfl ?_
        have ep := ps_B (fw := a 7) (fc := a 8) (hu := i 9) (n := n) (co := fl_co (i, l_, a, h)) hc201 hc202
        refine k_lv (lv' := [(4, .int 80), (3, .int ((80 - (((exW (a 7) (a 8) (i 9) n) (n - 1)) - (fl_co (i, l_, a, h)))) / 5)), (1, .int ((exW (a 7) (a 8) (i 9) n) (n - 1))), (0, .ref h0)]) [0, 1, 3, 4] rfl ?_
        refine k_lvv (lv' := [(4, .int (psG (a 7) (a 8) (i 9) n (fl_co (i, l_, a, h)))), (3, .int (psR (a 7) (a 8) (i 9) n (fl_co (i, l_, a, h)))), (1, .int (psL (a 7) (a 8) (i 9) n)), (0, .ref h0)]) (by rw [ep.1, ep.2]; rfl) ?_
        exact r_fl1 F hn hn1 hn8 _ _ _ _ _ _
      · refine k_bipush (n := 129) (v := 20) F dX10_flows_127 rfl rfl ?_
        refine k_goto (tgt := 133) F dX10_flows_129 (by decide) ?_
        refine k_istore_n (n := 134) (lv' := [(3, .int 20), (2, .int (((exW (a 7) (a 8) (i 9) n) (n - 1)) - (fl_co (i, l_, a, h)))), (1, .int ((exW (a 7) (a 8) (i 9) n) (n - 1))), (0, .ref h0)]) F dX10_flows_133 rfl (by decide) rfl rfl ?_
        refine k_iload_n (n := 135) F dX10_flows_134 rfl 1 rfl rfl ?_
        refine k_bipush (n := 137) (v := 80) F dX10_flows_135 rfl rfl ?_
        refine k_icmp_ge (n := 140) (tgt := 145) F dX10_flows_137 (by decide) rfl (fun h9 => absurd h9 hc201) (fun _ => ?_)
        refine k_bipush (n := 142) (v := 80) F dX10_flows_140 rfl rfl ?_
        refine k_goto (tgt := 146) F dX10_flows_142 (by decide) ?_
        refine k_istore (n := 148) (lv' := [(4, .int 80), (3, .int 20), (2, .int (((exW (a 7) (a 8) (i 9) n) (n - 1)) - (fl_co (i, l_, a, h)))), (1, .int ((exW (a 7) (a 8) (i 9) n) (n - 1))), (0, .ref h0)]) F dX10_flows_146 (by decide) rfl rfl ?_
        have ep := ps_C (fw := a 7) (fc := a 8) (hu := i 9) (n := n) (co := fl_co (i, l_, a, h)) hc201 hc202
        refine k_lv (lv' := [(4, .int 80), (3, .int 20), (1, .int ((exW (a 7) (a 8) (i 9) n) (n - 1))), (0, .ref h0)]) [0, 1, 3, 4] rfl ?_
        refine k_lvv (lv' := [(4, .int (psG (a 7) (a 8) (i 9) n (fl_co (i, l_, a, h)))), (3, .int (psR (a 7) (a 8) (i 9) n (fl_co (i, l_, a, h)))), (1, .int (psL (a 7) (a 8) (i 9) n)), (0, .ref h0)]) (by rw [ep.1, ep.2]; rfl) ?_
        exact r_fl1 F hn hn1 hn8 _ _ _ _ _ _
  have loop : ∀ (k j : Nat), j ≤ n → n + 1 ≤ j + k → KW p l e ((rmK 1 0 0 26)) s m args below meth c (MQ below (kDi g (psR (a 7) (a 8) (i 9) n (fl_co (i, l_, a, h))) (wR g h0 ad (i, l_, va_up (va_up a 7 (mvW (exW (a 7) (a 8) (i 9) n) n (a 10 2))) 8 (mvC (exC (a 7) (a 8) (i 9) n) n (psG (a 7) (a 8) (i 9) n (fl_co (i, l_, a, h)))), vp_updL (vp_updL (vp_updL (vp_updL h 0 (h 0 + (a 10 2).toInt64)) 1 (h 1 + (exC (a 7) (a 8) (i 9) n 0).toInt64)) 2 (h 2 + (psL (a 7) (a 8) (i 9) n - psG (a 7) (a 8) (i 9) n (fl_co (i, l_, a, h))).toInt64)) 3 (h 3 + 1))) A) args s ((rmK 1 0 0 26)).cells ((rmK 1 0 0 26)).slots A) g A 6 (wR g h0 ad (i, l_, va_up (va_up a 7 (exW (a 7) (a 8) (i 9) j)) 8 (exC (a 7) (a 8) (i 9) j), h)) 0 0 2 [(1, .int (nI j)), (0, .ref h0)] [] := by
    intro k
    induction k with
    | zero =>
      intro j h1 h2_
      exact absurd h2_ (by omega)
    | succ k ih =>
      intro j h1 h2_
      refine k_iload_n (n := 3) F dX10_flows_2 rfl 0 rfl rfl ?_
      refine k_aload_n (n := 4) F dX10_flows_3 rfl 1 rfl rfl ?_
      refine k_rget_6 (n := 7) (v := i 6) F rfl dX10_flows_4 rfl ?_
      refine k_icmp_ge (n := 10) (tgt := 58) F dX10_flows_7 (by decide) rfl (fun hc101 => ?_) (fun hc101 => ?_)
      · have hj9 : j = n := by have h9 := hc101; rw [hn, nI_leI (by omega) (by omega)] at h9; omega
        refine k_lv (lv' := [(0, .ref h0)]) [1] rfl ?_
        refine k_world (ws' := wR g h0 ad (i, l_, va_up (va_up a 7 (exW (a 7) (a 8) (i 9) n)) 8 (exC (a 7) (a 8) (i 9) n), h)) (by rw [hj9]) ?_
        refine k_aload_n (n := 59) F dX10_flows_58 rfl 0 rfl rfl ?_
        refine k_rget_7 (n := 62) F dX10_flows_59 rfl ?_
        refine k_aload_n (n := 63) F dX10_flows_62 rfl 0 rfl rfl ?_
        refine k_rget_6 (n := 66) (v := i 6) F rfl dX10_flows_63 rfl ?_
        refine k_iconst (n := 67) (v := 1) F dX10_flows_66 rfl rfl ?_
        refine k_isub (n := 68) F dX10_flows_67 rfl ?_
        refine k_rald_7 (n := 69) (N := n - 1) (f := exW (a 7) (a 8) (i 9) n) F (show (va_up (va_up a 7 (exW (a 7) (a 8) (i 9) n)) 8 (exC (a 7) (a 8) (i 9) n)) 7 = exW (a 7) (a 8) (i 9) n from (va_up_ne _ (k := 8) (j := 7) _ (by decide)).trans (va_up_self _ _ _)) (ix6 hn hn1 hn8) dX10_flows_68 rfl ?_
        refine k_istore_n (n := 70) (lv' := [(1, .int ((exW (a 7) (a 8) (i 9) n) (n - 1))), (0, .ref h0)]) F dX10_flows_69 rfl (by decide) rfl rfl ?_
        refine k_iload_n (n := 71) F dX10_flows_70 rfl 0 rfl rfl ?_
        refine k_aload_n (n := 72) F dX10_flows_71 rfl 1 rfl rfl ?_
        refine k_rget_10 (n := 75) F dX10_flows_72 rfl ?_
        refine k_iconst (n := 76) (v := 0) F dX10_flows_75 rfl rfl ?_
        refine k_rald_10 (n := 77) (N := 0) (f := a 10) F (show (va_up (va_up a 7 (exW (a 7) (a 8) (i 9) n)) 8 (exC (a 7) (a 8) (i 9) n)) 10 = a 10 from (va_up_ne _ (k := 8) (j := 10) _ (by decide)).trans (va_up_ne _ (k := 7) (j := 10) _ (by decide))) (kIx_nI (j := 0) (by decide) (by decide)) dX10_flows_76 rfl ?_
        refine k_bipush (n := 79) (v := -9) F dX10_flows_77 rfl rfl ?_
        refine k_icmp_ne (n := 82) (tgt := 86) F dX10_flows_79 (by decide) rfl (fun hc102 => ?_) (fun hc102 => ?_)
        · refine k_aload_n (n := 87) F dX10_flows_86 rfl 1 rfl rfl ?_
          refine k_aload_n (n := 88) F dX10_flows_87 rfl 1 rfl rfl ?_
          refine k_rget_10 (n := 91) F dX10_flows_88 rfl ?_
          refine k_iconst (n := 92) (v := 0) F dX10_flows_91 rfl rfl ?_
          refine k_rald_10 (n := 93) (N := 0) (f := a 10) F (show (va_up (va_up a 7 (exW (a 7) (a 8) (i 9) n)) 8 (exC (a 7) (a 8) (i 9) n)) 10 = a 10 from (va_up_ne _ (k := 8) (j := 10) _ (by decide)).trans (va_up_ne _ (k := 7) (j := 10) _ (by decide))) (kIx_nI (j := 0) (by decide) (by decide)) dX10_flows_92 rfl ?_
          refine k_aload_n (n := 94) F dX10_flows_93 rfl 1 rfl rfl ?_
          refine k_rget_10 (n := 97) F dX10_flows_94 rfl ?_
          refine k_iconst (n := 98) (v := 1) F dX10_flows_97 rfl rfl ?_
          refine k_rald_10 (n := 99) (N := 1) (f := a 10) F (show (va_up (va_up a 7 (exW (a 7) (a 8) (i 9) n)) 8 (exC (a 7) (a 8) (i 9) n)) 10 = a 10 from (va_up_ne _ (k := 8) (j := 10) _ (by decide)).trans (va_up_ne _ (k := 7) (j := 10) _ (by decide))) (kIx_nI (j := 1) (by decide) (by decide)) dX10_flows_98 rfl ?_
          refine k_ciR (n := 102) F (k_rV (k := 2) (b := h0) (As := [.int ((a 10) 0), .int ((a 10) 1)]) (rest := [.int ((exW (a 7) (a 8) (i 9) n) (n - 1))]) F (r_coldOf l g h0 ad i l_ (va_up (va_up a 7 (exW (a 7) (a 8) (i 9) n)) 8 (exC (a 7) (a 8) (i 9) n)) h ((a 10) 0) ((a 10) 1) h2 (hcool.resolve_left hc102) hdrop hk) [0, 1, 2, 3, 4, 5, 6, 7, 8, 9, 10, 11, 12, 13, 14] rfl rfl 0 rfl rfl mw_707 mw_704 mw_706 mw_s20 mw_9 (by decide) ⟨by decide, by decide⟩ rfl (Nat.le_of_ble_eq_true rfl) ⟨by decide, by decide⟩ dX10_flows_99) [0, 1, 2, 3, 4, 5, 6, 7, 8, 9, 10, 11, 12, 13, 14] rfl rfl ?_
          refine k_valI (y := fl_co (i, l_, a, h)) ((fco_1 (hcool.resolve_left hc102)).symm) ?_
          exact h102
        · refine k_iconst (n := 83) (v := 0) F dX10_flows_82 rfl rfl ?_
          refine k_goto (tgt := 102) F dX10_flows_83 (by decide) ?_
          refine k_valI (y := fl_co (i, l_, a, h)) ((fco_0 hc102).symm) ?_
          exact h102
      · refine k_aload_n (n := 11) F dX10_flows_10 rfl 1 rfl rfl ?_
        refine k_rget_7 (n := 14) F dX10_flows_11 rfl ?_
        refine k_iload_n (n := 15) F dX10_flows_14 rfl 0 rfl rfl ?_
        refine k_rald_7 (n := 16) (N := j) (f := exW (a 7) (a 8) (i 9) j) F (show (va_up (va_up a 7 (exW (a 7) (a 8) (i 9) j)) 8 (exC (a 7) (a 8) (i 9) j)) 7 = exW (a 7) (a 8) (i 9) j from (va_up_ne _ (k := 8) (j := 7) _ (by decide)).trans (va_up_self _ _ _)) (kIx_nI (Nat.lt_of_lt_of_le (show j < n from (by have h9 := hc101; rw [hn, nI_leI (by omega) (by omega)] at h9; omega)) hn8) (by decide)) dX10_flows_15 rfl ?_
        refine k_aload_n (n := 17) F dX10_flows_16 rfl 1 rfl rfl ?_
        refine k_rget_8 (n := 20) F dX10_flows_17 rfl ?_
        refine k_iload_n (n := 21) F dX10_flows_20 rfl 0 rfl rfl ?_
        refine k_rald_8 (n := 22) (N := j) (f := exC (a 7) (a 8) (i 9) j) F (show (va_up (va_up a 7 (exW (a 7) (a 8) (i 9) j)) 8 (exC (a 7) (a 8) (i 9) j)) 8 = exC (a 7) (a 8) (i 9) j from va_up_self _ _ _) (kIx_nI (Nat.lt_of_lt_of_le (show j < n from (by have h9 := hc101; rw [hn, nI_leI (by omega) (by omega)] at h9; omega)) hn8) (by decide)) dX10_flows_21 rfl ?_
        refine k_isub (n := 23) F dX10_flows_22 rfl ?_
        refine k_aload_n (n := 24) F dX10_flows_23 rfl 1 rfl rfl ?_
        refine k_rget_9 (n := 27) (v := i 9) F rfl dX10_flows_24 rfl ?_
        refine k_imul (n := 28) F dX10_flows_27 rfl ?_
        refine k_bipush (n := 30) (v := 100) F dX10_flows_28 rfl rfl ?_
        refine k_idiv (n := 31) F dX10_flows_30 (by decide) rfl ?_
        refine k_istore_n (n := 32) (lv' := [(2, .int (((((exW (a 7) (a 8) (i 9) j) j) - ((exC (a 7) (a 8) (i 9) j) j)) * (i 9)) / 100)), (1, .int (nI j)), (0, .ref h0)]) F dX10_flows_31 rfl (by decide) rfl rfl ?_
        refine k_aload_n (n := 33) F dX10_flows_32 rfl 2 rfl rfl ?_
        refine k_rget_7 (n := 36) F dX10_flows_33 rfl ?_
        refine k_iload_n (n := 37) F dX10_flows_36 rfl 1 rfl rfl ?_
        refine k_dup2_11 (n := 38) F dX10_flows_37 rfl rfl rfl ?_
        refine k_rald_7 (n := 39) (N := j) (f := exW (a 7) (a 8) (i 9) j) F (show (va_up (va_up a 7 (exW (a 7) (a 8) (i 9) j)) 8 (exC (a 7) (a 8) (i 9) j)) 7 = exW (a 7) (a 8) (i 9) j from (va_up_ne _ (k := 8) (j := 7) _ (by decide)).trans (va_up_self _ _ _)) (kIx_nI (Nat.lt_of_lt_of_le (show j < n from (by have h9 := hc101; rw [hn, nI_leI (by omega) (by omega)] at h9; omega)) hn8) (by decide)) dX10_flows_38 rfl ?_
        refine k_iload_n (n := 40) F dX10_flows_39 rfl 0 rfl rfl ?_
        refine k_isub (n := 41) F dX10_flows_40 rfl ?_
        refine k_rast_7 (n := 42) (N := j) (f := exW (a 7) (a 8) (i 9) j) (u' := (i, l_, va_up (va_up (va_up a 7 (exW (a 7) (a 8) (i 9) j)) 8 (exC (a 7) (a 8) (i 9) j)) 7 (upd (exW (a 7) (a 8) (i 9) j) j (((exW (a 7) (a 8) (i 9) j) j) - (((((exW (a 7) (a 8) (i 9) j) j) - ((exC (a 7) (a 8) (i 9) j) j)) * (i 9)) / 100))), h)) F (show (va_up (va_up a 7 (exW (a 7) (a 8) (i 9) j)) 8 (exC (a 7) (a 8) (i 9) j)) 7 = exW (a 7) (a 8) (i 9) j from (va_up_ne _ (k := 8) (j := 7) _ (by decide)).trans (va_up_self _ _ _)) (kIx_nI (Nat.lt_of_lt_of_le (show j < n from (by have h9 := hc101; rw [hn, nI_leI (by omega) (by omega)] at h9; omega)) hn8) (by decide)) rfl dX10_flows_41 rfl ?_
        refine k_aload_n (n := 43) F dX10_flows_42 rfl 2 rfl rfl ?_
        refine k_rget_8 (n := 46) F dX10_flows_43 rfl ?_
        refine k_iload_n (n := 47) F dX10_flows_46 rfl 1 rfl rfl ?_
        refine k_dup2_11 (n := 48) F dX10_flows_47 rfl rfl rfl ?_
        refine k_rald_8 (n := 49) (N := j) (f := exC (a 7) (a 8) (i 9) j) F (show (va_up (va_up (va_up a 7 (exW (a 7) (a 8) (i 9) j)) 8 (exC (a 7) (a 8) (i 9) j)) 7 (upd (exW (a 7) (a 8) (i 9) j) j (((exW (a 7) (a 8) (i 9) j) j) - (((((exW (a 7) (a 8) (i 9) j) j) - ((exC (a 7) (a 8) (i 9) j) j)) * (i 9)) / 100)))) 8 = exC (a 7) (a 8) (i 9) j from (va_up_ne _ (k := 7) (j := 8) _ (by decide)).trans (va_up_self _ _ _)) (kIx_nI (Nat.lt_of_lt_of_le (show j < n from (by have h9 := hc101; rw [hn, nI_leI (by omega) (by omega)] at h9; omega)) hn8) (by decide)) dX10_flows_48 rfl ?_
        refine k_iload_n (n := 50) F dX10_flows_49 rfl 0 rfl rfl ?_
        refine k_iadd (n := 51) F dX10_flows_50 rfl ?_
        refine k_rast_8 (n := 52) (N := j) (f := exC (a 7) (a 8) (i 9) j) (u' := (i, l_, va_up (va_up (va_up (va_up a 7 (exW (a 7) (a 8) (i 9) j)) 8 (exC (a 7) (a 8) (i 9) j)) 7 (upd (exW (a 7) (a 8) (i 9) j) j (((exW (a 7) (a 8) (i 9) j) j) - (((((exW (a 7) (a 8) (i 9) j) j) - ((exC (a 7) (a 8) (i 9) j) j)) * (i 9)) / 100)))) 8 (upd (exC (a 7) (a 8) (i 9) j) j (((exC (a 7) (a 8) (i 9) j) j) + (((((exW (a 7) (a 8) (i 9) j) j) - ((exC (a 7) (a 8) (i 9) j) j)) * (i 9)) / 100))), h)) F (show (va_up (va_up (va_up a 7 (exW (a 7) (a 8) (i 9) j)) 8 (exC (a 7) (a 8) (i 9) j)) 7 (upd (exW (a 7) (a 8) (i 9) j) j (((exW (a 7) (a 8) (i 9) j) j) - (((((exW (a 7) (a 8) (i 9) j) j) - ((exC (a 7) (a 8) (i 9) j) j)) * (i 9)) / 100)))) 8 = exC (a 7) (a 8) (i 9) j from (va_up_ne _ (k := 7) (j := 8) _ (by decide)).trans (va_up_self _ _ _)) (kIx_nI (Nat.lt_of_lt_of_le (show j < n from (by have h9 := hc101; rw [hn, nI_leI (by omega) (by omega)] at h9; omega)) hn8) (by decide)) rfl dX10_flows_51 rfl ?_
        refine k_iinc (n := 55) (j := 1) (v := nI (j + 1)) (lv' := [(1, .int (nI (j + 1))), (2, .int (((((exW (a 7) (a 8) (i 9) j) j) - ((exC (a 7) (a 8) (i 9) j) j)) * (i 9)) / 100)), (0, .ref h0)]) F dX10_flows_52 rfl (nI_1 j) (by decide) rfl rfl ?_
        refine k_goto (tgt := 2) F dX10_flows_55 (by decide) ?_
        have hj9 : j < n := by have h9 := hc101; rw [hn, nI_leI (by omega) (by omega)] at h9; omega
        refine k_lv (lv' := [(1, .int (nI (j + 1))), (0, .ref h0)]) [0, 2] rfl ?_
        refine k_world (ws' := wR g h0 ad (i, l_, va_up (va_up a 7 (exW (a 7) (a 8) (i 9) (j + 1))) 8 (exC (a 7) (a 8) (i 9) (j + 1)), h)) (by rw [exW_s, exC_s]; simp only [wR, upd, va_up, vp_updL, reduceIte, Nat.reduceEqDiff]) ?_
        exact ih (j + 1) (by omega) (by omega)
  refine k_iconst (n := 1) (v := 0) F dX10_flows_0 rfl rfl ?_
  refine k_istore_n (n := 2) (lv' := [(1, .int 0), (0, .ref h0)]) F dX10_flows_1 rfl (by decide) rfl rfl ?_
  refine k_lv (lv' := [(1, .int (nI 0)), (0, .ref h0)]) [0, 1] rfl ?_
  refine k_world (ws' := wR g h0 ad (i, l_, va_up (va_up a 7 (exW (a 7) (a 8) (i 9) 0)) 8 (exC (a 7) (a 8) (i 9) 0), h)) (by rw [exW_0, exC_0]; simp only [wR, va_up_id7, upd, va_up, vp_updL, reduceIte, Nat.reduceEqDiff]) ?_
  exact loop (n + 1) 0 (by omega) (by omega)
