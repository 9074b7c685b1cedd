def kcor (x1 x2 x3 x4 x5 : Int32) : Int32 := if 0 ≤ x1 ∧ x1 ≤ x2 ∧ x2 ≤ x3 ∧ x3 ≤ x4 ∧ x4 ≤ x5 ∧ x5 ≤ 50 then 1 else 0
/-- an adsorber goes on: is it ready now, how, its load, its ticks -/
def goR (ho ti ht : Int32) : Int32 := if ¬ ho = 2 ∧ ¬ ho = 3 then 0 else if ti + 1 < ht then 0 else if ho = 2 then 0 else 1
def goH (ho ti ht : Int32) : Int32 := if ¬ ho = 2 ∧ ¬ ho = 3 then ho else if ti + 1 < ht then ho else if ho = 2 then 3 else 0
def goL (ho lo ti ht : Int32) : Int32 := if ¬ ho = 2 ∧ ¬ ho = 3 then lo else if ti + 1 < ht then lo else if ho = 2 then lo else 0
def goT (ho ti ht : Int32) : Int32 := if ¬ ho = 2 ∧ ¬ ho = 3 then ti else if ti + 1 < ht then ti + 1 else 0
def tkT (ro ta q : Int32) : Int32 := if ro - ta < q then ro - ta else q
def tkB (ro ta ba q : Int32) : Int32 := if 300 - ba < q - tkT ro ta q then 300 - ba else q - tkT ro ta q
set_option maxRecDepth 100000 in
set_option maxHeartbeats 4000000 in
theorem c_within (l : Launch) (g : kG) (v lo hi : Int32) : kM l yX9_within cX9_within 3 (some .boolean) (rmK 0 0 0 0) g [.int v, .int lo, .int hi] [] (kDi g (kin v lo hi) []) := by
  refine k_enter (by decide) (Nat.le_of_ble_eq_true rfl) ?_
  intro p e s m args below meth c A F
  refine k_iload_n (n := 1) F dX9_within_0 rfl 0 rfl rfl ?_
  refine k_iload_n (n := 2) F dX9_within_1 rfl 1 rfl rfl ?_
  refine k_icmp_lt (n := 5) (tgt := 14) F dX9_within_2 (by decide) rfl (fun hc1 => ?_) (fun hc1 => ?_)
  · refine k_iconst (n := 15) (v := 0) F dX9_within_14 rfl rfl ?_
    exact k_zret F rfl (by first | rfl | (simp [kin, hc1, Int32.not_le.mpr hc1]; done) | (simp_all [kin, hc1, Int32.not_le.mpr hc1]; done)) (by first | rfl | (simp [kin, hc1, Int32.not_le.mpr hc1]; done) | (simp_all [kin, hc1, Int32.not_le.mpr hc1]; done)) dX9_within_15
  · refine k_iload_n (n := 6) F dX9_within_5 rfl 0 rfl rfl ?_
    refine k_iload_n (n := 7) F dX9_within_6 rfl 2 rfl rfl ?_
    refine k_icmp_gt (n := 10) (tgt := 14) F dX9_within_7 (by decide) rfl (fun hc2 => ?_) (fun hc2 => ?_)
    · refine k_iconst (n := 15) (v := 0) F dX9_within_14 rfl rfl ?_
      exact k_zret F rfl (by first | rfl | (simp [kin, hc1, Int32.not_lt.mp hc1, hc2, Int32.not_le.mpr hc2]; done) | (simp_all [kin, hc1, Int32.not_lt.mp hc1, hc2, Int32.not_le.mpr hc2]; done)) (by first | rfl | (simp [kin, hc1, Int32.not_lt.mp hc1, hc2, Int32.not_le.mpr hc2]; done) | (simp_all [kin, hc1, Int32.not_lt.mp hc1, hc2, Int32.not_le.mpr hc2]; done)) dX9_within_15
    · refine k_iconst (n := 11) (v := 1) F dX9_within_10 rfl rfl ?_
      refine k_goto (tgt := 15) F dX9_within_11 (by decide) ?_
      exact k_zret F rfl (by first | rfl | (simp [kin, hc1, Int32.not_lt.mp hc1, hc2, Int32.not_lt.mp hc2]; done) | (simp_all [kin, hc1, Int32.not_lt.mp hc1, hc2, Int32.not_lt.mp hc2]; done)) (by first | rfl | (simp [kin, hc1, Int32.not_lt.mp hc1, hc2, Int32.not_lt.mp hc2]; done) | (simp_all [kin, hc1, Int32.not_lt.mp hc1, hc2, Int32.not_lt.mp hc2]; done)) dX9_within_15
set_option maxRecDepth 100000 in
set_option maxHeartbeats 4000000 in
theorem c_in (l : Launch) (g : kG) (v lo hi : Int32) : kM l yX10_in cX10_in 3 (some .boolean) (rmK 0 0 0 0) g [.int v, .int lo, .int hi] [] (kDi g (kin v lo hi) []) := by
  refine k_enter (by decide) (Nat.le_of_ble_eq_true rfl) ?_
  intro p e s m args below meth c A F
  refine k_iload_n (n := 1) F dX10_in_0 rfl 0 rfl rfl ?_
  refine k_iload_n (n := 2) F dX10_in_1 rfl 1 rfl rfl ?_
  refine k_icmp_lt (n := 5) (tgt := 14) F dX10_in_2 (by decide) rfl (fun hc1 => ?_) (fun hc1 => ?_)
  · refine k_iconst (n := 15) (v := 0) F dX10_in_14 rfl rfl ?_
    exact k_zret F rfl (by first | rfl | (simp [kin, hc1, Int32.not_le.mpr hc1]; done) | (simp_all [kin, hc1, Int32.not_le.mpr hc1]; done)) (by first | rfl | (simp [kin, hc1, Int32.not_le.mpr hc1]; done) | (simp_all [kin, hc1, Int32.not_le.mpr hc1]; done)) dX10_in_15
  · refine k_iload_n (n := 6) F dX10_in_5 rfl 0 rfl rfl ?_
    refine k_iload_n (n := 7) F dX10_in_6 rfl 2 rfl rfl ?_
    refine k_icmp_gt (n := 10) (tgt := 14) F dX10_in_7 (by decide) rfl (fun hc2 => ?_) (fun hc2 => ?_)
    · refine k_iconst (n := 15) (v := 0) F dX10_in_14 rfl rfl ?_
      exact k_zret F rfl (by first | rfl | (simp [kin, hc1, Int32.not_lt.mp hc1, hc2, Int32.not_le.mpr hc2]; done) | (simp_all [kin, hc1, Int32.not_lt.mp hc1, hc2, Int32.not_le.mpr hc2]; done)) (by first | rfl | (simp [kin, hc1, Int32.not_lt.mp hc1, hc2, Int32.not_le.mpr hc2]; done) | (simp_all [kin, hc1, Int32.not_lt.mp hc1, hc2, Int32.not_le.mpr hc2]; done)) dX10_in_15
    · refine k_iconst (n := 11) (v := 1) F dX10_in_10 rfl rfl ?_
      refine k_goto (tgt := 15) F dX10_in_11 (by decide) ?_
      exact k_zret F rfl (by first | rfl | (simp [kin, hc1, Int32.not_lt.mp hc1, hc2, Int32.not_lt.mp hc2]; done) | (simp_all [kin, hc1, Int32.not_lt.mp hc1, hc2, Int32.not_lt.mp hc2]; done)) (by first | rfl | (simp [kin, hc1, Int32.not_lt.mp hc1, hc2, Int32.not_lt.mp hc2]; done) | (simp_all [kin, hc1, Int32.not_lt.mp hc1, hc2, Int32.not_lt.mp hc2]; done)) dX10_in_15
set_option maxRecDepth 100000 in
set_option maxHeartbeats 4000000 in
theorem c_asNumber (l : Launch) (g : kG) (b : Int32) : kM l yX9_asNumber cX9_asNumber 1 (some .int) (rmK 0 0 0 0) g [.int b] [] (kDi g (if b = 0 then 0 else 1) []) := by
  refine k_enter (by decide) (Nat.le_of_ble_eq_true rfl) ?_
  intro p e s m args below meth c A F
  refine k_iload_n (n := 1) F dX9_asNumber_0 rfl 0 rfl rfl ?_
  refine k_if_eq (n := 4) (tgt := 8) F dX9_asNumber_1 (by decide) rfl (fun hc1 => ?_) (fun hc1 => ?_)
  · refine k_iconst (n := 9) (v := 0) F dX9_asNumber_8 rfl rfl ?_
    exact k_iret F (by first | rfl | (simp [hc1]; done) | (simp_all [hc1]; done)) (by first | rfl | (simp [hc1]; done) | (simp_all [hc1]; done)) dX9_asNumber_9
  · refine k_iconst (n := 5) (v := 1) F dX9_asNumber_4 rfl rfl ?_
    refine k_goto (tgt := 9) F dX9_asNumber_5 (by decide) ?_
    exact k_iret F (by first | rfl | (simp [hc1]; done) | (simp_all [hc1]; done)) (by first | rfl | (simp [hc1]; done) | (simp_all [hc1]; done)) dX9_asNumber_9
set_option maxRecDepth 100000 in
set_option maxHeartbeats 4000000 in
theorem c_isMeter (l : Launch) (g : kG) (x : Int32) : kM l yX9_isMeter cX9_isMeter 1 (some .boolean) (rmK 1 0 0 22) g [.int x] [] (kDi g (kin x 0 3) []) := by
  refine k_enter (by decide) (Nat.le_of_ble_eq_true rfl) ?_
  intro p e s m args below meth c A F
  refine k_iload_n (n := 1) F dX9_isMeter_0 rfl 0 rfl rfl ?_
  refine k_iconst (n := 2) (v := 0) F dX9_isMeter_1 rfl rfl ?_
  refine k_iconst (n := 3) (v := 3) F dX9_isMeter_2 rfl rfl ?_
  refine k_ciR (n := 6) F (k_rS (k := 3) (As := [.int x, .int 0, .int 3]) (rest := []) F (c_within l g x 0 3) [] rfl rfl mw_243 mw_241 mw_242 mw_1 (by decide) ⟨by decide, by decide⟩ rfl (Nat.le_of_ble_eq_true rfl) ⟨by decide, by decide⟩ dX9_isMeter_3) [] rfl rfl ?_
  exact k_zret F (kZn (kin_b _ _ _)) rfl rfl dX9_isMeter_6
set_option maxRecDepth 100000 in
set_option maxHeartbeats 4000000 in
theorem c_areCorners (l : Launch) (g : kG) (x1 x2 x3 x4 x5 : Int32) : kM l yX9_areCorners cX9_areCorners 5 (some .boolean) (rmK 0 0 0 0) g [.int x1, .int x2, .int x3, .int x4, .int x5] [] (kDi g (kcor x1 x2 x3 x4 x5) []) := by
  refine k_enter (by decide) (Nat.le_of_ble_eq_true rfl) ?_
  intro p e s m args below meth c A F
  refine k_iload_n (n := 1) F dX9_areCorners_0 rfl 0 rfl rfl ?_
  refine k_if_lt (n := 4) (tgt := 36) F dX9_areCorners_1 (by decide) rfl (fun hc1 => ?_) (fun hc1 => ?_)
  · refine k_iconst (n := 37) (v := 0) F dX9_areCorners_36 rfl rfl ?_
    exact k_zret F rfl (by first | rfl | (simp [kcor, hc1, Int32.not_le.mpr hc1]; done) | (simp_all [kcor, hc1, Int32.not_le.mpr hc1]; done)) (by first | rfl | (simp [kcor, hc1, Int32.not_le.mpr hc1]; done) | (simp_all [kcor, hc1, Int32.not_le.mpr hc1]; done)) dX9_areCorners_37
  · refine k_iload_n (n := 5) F dX9_areCorners_4 rfl 1 rfl rfl ?_
    refine k_iload_n (n := 6) F dX9_areCorners_5 rfl 0 rfl rfl ?_
    refine k_icmp_lt (n := 9) (tgt := 36) F dX9_areCorners_6 (by decide) rfl (fun hc2 => ?_) (fun hc2 => ?_)
    · refine k_iconst (n := 37) (v := 0) F dX9_areCorners_36 rfl rfl ?_
      exact k_zret F rfl (by first | rfl | (simp [kcor, hc1, Int32.not_lt.mp hc1, hc2, Int32.not_le.mpr hc2]; done) | (simp_all [kcor, hc1, Int32.not_lt.mp hc1, hc2, Int32.not_le.mpr hc2]; done)) (by first | rfl | (simp [kcor, hc1, Int32.not_lt.mp hc1, hc2, Int32.not_le.mpr hc2]; done) | (simp_all [kcor, hc1, Int32.not_lt.mp hc1, hc2, Int32.not_le.mpr hc2]; done)) dX9_areCorners_37
    · refine k_iload_n (n := 10) F dX9_areCorners_9 rfl 2 rfl rfl ?_
      refine k_iload_n (n := 11) F dX9_areCorners_10 rfl 1 rfl rfl ?_
      refine k_icmp_lt (n := 14) (tgt := 36) F dX9_areCorners_11 (by decide) rfl (fun hc3 => ?_) (fun hc3 => ?_)
      · refine k_iconst (n := 37) (v := 0) F dX9_areCorners_36 rfl rfl ?_
        exact k_zret F rfl (by first | rfl | (simp [kcor, hc1, Int32.not_lt.mp hc1, hc2, Int32.not_lt.mp hc2, hc3, Int32.not_le.mpr hc3]; done) | (simp_all [kcor, hc1, Int32.not_lt.mp hc1, hc2, Int32.not_lt.mp hc2, hc3, Int32.not_le.mpr hc3]; done)) (by first | rfl | (simp [kcor, hc1, Int32.not_lt.mp hc1, hc2, Int32.not_lt.mp hc2, hc3, Int32.not_le.mpr hc3]; done) | (simp_all [kcor, hc1, Int32.not_lt.mp hc1, hc2, Int32.not_lt.mp hc2, hc3, Int32.not_le.mpr hc3]; done)) dX9_areCorners_37
      · refine k_iload_n (n := 15) F dX9_areCorners_14 rfl 3 rfl rfl ?_
        refine k_iload_n (n := 16) F dX9_areCorners_15 rfl 2 rfl rfl ?_
        refine k_icmp_lt (n := 19) (tgt := 36) F dX9_areCorners_16 (by decide) rfl (fun hc4 => ?_) (fun hc4 => ?_)
        · refine k_iconst (n := 37) (v := 0) F dX9_areCorners_36 rfl rfl ?_
          exact k_zret F rfl (by first | rfl | (simp [kcor, hc1, Int32.not_lt.mp hc1, hc2, Int32.not_lt.mp hc2, hc3, Int32.not_lt.mp hc3, hc4, Int32.not_le.mpr hc4]; done) | (simp_all [kcor, hc1, Int32.not_lt.mp hc1, hc2, Int32.not_lt.mp hc2, hc3, Int32.not_lt.mp hc3, hc4, Int32.not_le.mpr hc4]; done)) (by first | rfl | (simp [kcor, hc1, Int32.not_lt.mp hc1, hc2, Int32.not_lt.mp hc2, hc3, Int32.not_lt.mp hc3, hc4, Int32.not_le.mpr hc4]; done) | (simp_all [kcor, hc1, Int32.not_lt.mp hc1, hc2, Int32.not_lt.mp hc2, hc3, Int32.not_lt.mp hc3, hc4, Int32.not_le.mpr hc4]; done)) dX9_areCorners_37
        · refine k_iload (n := 21) F dX9_areCorners_19 4 rfl rfl ?_
          refine k_iload_n (n := 22) F dX9_areCorners_21 rfl 3 rfl rfl ?_
          refine k_icmp_lt (n := 25) (tgt := 36) F dX9_areCorners_22 (by decide) rfl (fun hc5 => ?_) (fun hc5 => ?_)
          · refine k_iconst (n := 37) (v := 0) F dX9_areCorners_36 rfl rfl ?_
            exact k_zret F rfl (by first | rfl | (simp [kcor, hc1, Int32.not_lt.mp hc1, hc2, Int32.not_lt.mp hc2, hc3, Int32.not_lt.mp hc3, hc4, Int32.not_lt.mp hc4, hc5, Int32.not_le.mpr hc5]; done) | (simp_all [kcor, hc1, Int32.not_lt.mp hc1, hc2, Int32.not_lt.mp hc2, hc3, Int32.not_lt.mp hc3, hc4, Int32.not_lt.mp hc4, hc5, Int32.not_le.mpr hc5]; done)) (by first | rfl | (simp [kcor, hc1, Int32.not_lt.mp hc1, hc2, Int32.not_lt.mp hc2, hc3, Int32.not_lt.mp hc3, hc4, Int32.not_lt.mp hc4, hc5, Int32.not_le.mpr hc5]; done) | (simp_all [kcor, hc1, Int32.not_lt.mp hc1, hc2, Int32.not_lt.mp hc2, hc3, Int32.not_lt.mp hc3, hc4, Int32.not_lt.mp hc4, hc5, Int32.not_le.mpr hc5]; done)) dX9_areCorners_37
          · refine k_iload (n := 27) F dX9_areCorners_25 4 rfl rfl ?_
            refine k_bipush (n := 29) (v := 50) F dX9_areCorners_27 rfl rfl ?_
            refine k_icmp_gt (n := 32) (tgt := 36) F dX9_areCorners_29 (by decide) rfl (fun hc6 => ?_) (fun hc6 => ?_)
            · refine k_iconst (n := 37) (v := 0) F dX9_areCorners_36 rfl rfl ?_
              exact k_zret F rfl (by first | rfl | (simp [kcor, hc1, Int32.not_lt.mp hc1, hc2, Int32.not_lt.mp hc2, hc3, Int32.not_lt.mp hc3, hc4, Int32.not_lt.mp hc4, hc5, Int32.not_lt.mp hc5, hc6, Int32.not_le.mpr hc6]; done) | (simp_all [kcor, hc1, Int32.not_lt.mp hc1, hc2, Int32.not_lt.mp hc2, hc3, Int32.not_lt.mp hc3, hc4, Int32.not_lt.mp hc4, hc5, Int32.not_lt.mp hc5, hc6, Int32.not_le.mpr hc6]; done)) (by first | rfl | (simp [kcor, hc1, Int32.not_lt.mp hc1, hc2, Int32.not_lt.mp hc2, hc3, Int32.not_lt.mp hc3, hc4, Int32.not_lt.mp hc4, hc5, Int32.not_lt.mp hc5, hc6, Int32.not_le.mpr hc6]; done) | (simp_all [kcor, hc1, Int32.not_lt.mp hc1, hc2, Int32.not_lt.mp hc2, hc3, Int32.not_lt.mp hc3, hc4, Int32.not_lt.mp hc4, hc5, Int32.not_lt.mp hc5, hc6, Int32.not_le.mpr hc6]; done)) dX9_areCorners_37
            · refine k_iconst (n := 33) (v := 1) F dX9_areCorners_32 rfl rfl ?_
              refine k_goto (tgt := 37) F dX9_areCorners_33 (by decide) ?_
              exact k_zret F rfl (by first | rfl | (simp [kcor, hc1, Int32.not_lt.mp hc1, hc2, Int32.not_lt.mp hc2, hc3, Int32.not_lt.mp hc3, hc4, Int32.not_lt.mp hc4, hc5, Int32.not_lt.mp hc5, hc6, Int32.not_lt.mp hc6]; done) | (simp_all [kcor, hc1, Int32.not_lt.mp hc1, hc2, Int32.not_lt.mp hc2, hc3, Int32.not_lt.mp hc3, hc4, Int32.not_lt.mp hc4, hc5, Int32.not_lt.mp hc5, hc6, Int32.not_lt.mp hc6]; done)) (by first | rfl | (simp [kcor, hc1, Int32.not_lt.mp hc1, hc2, Int32.not_lt.mp hc2, hc3, Int32.not_lt.mp hc3, hc4, Int32.not_lt.mp hc4, hc5, Int32.not_lt.mp hc5, hc6, Int32.not_lt.mp hc6]; done) | (simp_all [kcor, hc1, Int32.not_lt.mp hc1, hc2, Int32.not_lt.mp hc2, hc3, Int32.not_lt.mp hc3, hc4, Int32.not_lt.mp hc4, hc5, Int32.not_lt.mp hc5, hc6, Int32.not_lt.mp hc6]; done)) dX9_areCorners_37
set_option maxRecDepth 100000 in
set_option maxHeartbeats 4000000 in
theorem c_become (l : Launch) (g : kG) (a : Nat) (ho lo ti nx : Int32) : kM l yX0_become cX0_become 2 none (rmK 0 0 0 0) g [.ref a, .int nx] [(a, .inr (0, [.int ho, .int lo, .int ti]))] (kDv g [(a, .inr (0, [.int nx, .int lo, .int 0]))]) := by
  refine k_enter (by decide) (Nat.le_of_ble_eq_true rfl) ?_
  intro p e s m args below meth c A F
  refine k_aload_n (n := 1) F dX0_become_0 rfl 0 rfl rfl ?_
  refine k_iload_n (n := 2) F dX0_become_1 rfl 1 rfl rfl ?_
  refine k_put (n := 5) (ws' := [(a, .inr (0, [.int nx, .int lo, .int ti]))]) F uX0 tyX0_ok nmX0 0 0 rfl rfl (by decide) mw_113 rfl rfl rfl (Nat.le_of_ble_eq_true rfl) rfl dX0_become_2 rfl ?_
  refine k_aload_n (n := 6) F dX0_become_5 rfl 0 rfl rfl ?_
  refine k_iconst (n := 7) (v := 0) F dX0_become_6 rfl rfl ?_
  refine k_put (n := 10) (ws' := [(a, .inr (0, [.int nx, .int lo, .int 0]))]) F uX0 tyX0_ok nmX0 0 2 rfl rfl (by decide) mw_117 rfl rfl rfl (Nat.le_of_ble_eq_true rfl) rfl dX0_become_7 rfl ?_
  exact k_vret F rfl dX0_become_10
set_option maxRecDepth 100000 in
set_option maxHeartbeats 4000000 in
theorem c_goOn (l : Launch) (g : kG) (a : Nat) (ho lo ti ht : Int32) : kM l yX0_goOn cX0_goOn 2 (some .boolean) (rmK 1 0 0 21) g [.ref a, .int ht] [(a, .inr (0, [.int ho, .int lo, .int ti]))] (kDi g (goR ho ti ht) [(a, .inr (0, [.int (goH ho ti ht), .int (goL ho lo ti ht), .int (goT ho ti ht)]))]) := by
  refine k_enter (by decide) (Nat.le_of_ble_eq_true rfl) ?_
  intro p e s m args below meth c A F
  refine k_aload_n (n := 1) F dX0_goOn_0 rfl 0 rfl rfl ?_
  refine k_get (n := 4) (v := .int ho) F uX0 0 0 rfl rfl (by decide) mw_113 rfl dX0_goOn_1 rfl ?_
  refine k_iconst (n := 5) (v := 2) F dX0_goOn_4 rfl rfl ?_
  refine k_icmp_eq (n := 8) (tgt := 18) F dX0_goOn_5 (by decide) rfl (fun hc1 => ?_) (fun hc1 => ?_)
  · refine k_aload_n (n := 19) F dX0_goOn_18 rfl 0 rfl rfl ?_
    refine k_dup (n := 20) F dX0_goOn_19 rfl rfl ?_
    refine k_get (n := 23) (v := .int ti) F uX0 0 2 rfl rfl (by decide) mw_117 rfl dX0_goOn_20 rfl ?_
    refine k_iconst (n := 24) (v := 1) F dX0_goOn_23 rfl rfl ?_
    refine k_iadd (n := 25) F dX0_goOn_24 rfl ?_
    refine k_put (n := 28) (ws' := [(a, .inr (0, [.int ho, .int lo, .int (ti + 1)]))]) F uX0 tyX0_ok nmX0 0 2 rfl rfl (by decide) mw_117 rfl rfl rfl (Nat.le_of_ble_eq_true rfl) rfl dX0_goOn_25 rfl ?_
    refine k_aload_n (n := 29) F dX0_goOn_28 rfl 0 rfl rfl ?_
    refine k_get (n := 32) (v := .int (ti + 1)) F uX0 0 2 rfl rfl (by decide) mw_117 rfl dX0_goOn_29 rfl ?_
    refine k_iload_n (n := 33) F dX0_goOn_32 rfl 1 rfl rfl ?_
    refine k_icmp_ge (n := 36) (tgt := 38) F dX0_goOn_33 (by decide) rfl (fun hc2 => ?_) (fun hc2 => ?_)
    · refine k_aload_n (n := 39) F dX0_goOn_38 rfl 0 rfl rfl ?_
      refine k_get (n := 42) (v := .int ho) F uX0 0 0 rfl rfl (by decide) mw_113 rfl dX0_goOn_39 rfl ?_
      refine k_iconst (n := 43) (v := 2) F dX0_goOn_42 rfl rfl ?_
      refine k_icmp_ne (n := 46) (tgt := 53) F dX0_goOn_43 (by decide) rfl (fun h9 => absurd hc1 h9) (fun _ => ?_)
      refine k_aload_n (n := 47) F dX0_goOn_46 rfl 0 rfl rfl ?_
      refine k_iconst (n := 48) (v := 3) F dX0_goOn_47 rfl rfl ?_
      refine k_cv (n := 51) (ws' := [(a, .inr (0, [.int 3, .int lo, .int 0]))]) F (k_rV (k := 1) (b := a) (As := [.int 3]) (rest := []) F (c_become l g a ho lo (ti + 1) 3) [0] rfl rfl 0 rfl rfl mw_428 mw_425 mw_426 mw_427 mw_6 (by decide) ⟨by decide, by decide⟩ rfl (Nat.le_of_ble_eq_true rfl) ⟨by decide, by decide⟩ dX0_goOn_48) [0] [] [0] rfl rfl rfl (by decide) rfl rfl rfl ?_
      refine k_iconst (n := 52) (v := 0) F dX0_goOn_51 rfl rfl ?_
      exact k_zret F rfl (by first | rfl | (simp [goR, goH, goL, goT, hc1, hc2, Int32.not_lt.mpr hc2]; done) | (simp_all [goR, goH, goL, goT, hc1, hc2, Int32.not_lt.mpr hc2]; done)) (by first | rfl | (simp [goR, goH, goL, goT, hc1, hc2, Int32.not_lt.mpr hc2]; done) | (simp_all [goR, goH, goL, goT, hc1, hc2, Int32.not_lt.mpr hc2]; done)) dX0_goOn_52
    · refine k_iconst (n := 37) (v := 0) F dX0_goOn_36 rfl rfl ?_
      exact k_zret F rfl (by first | rfl | (simp [goR, goH, goL, goT, hc1, hc2, Int32.not_le.mp hc2]; done) | (simp_all [goR, goH, goL, goT, hc1, hc2, Int32.not_le.mp hc2]; done)) (by first | rfl | (simp [goR, goH, goL, goT, hc1, hc2, Int32.not_le.mp hc2]; done) | (simp_all [goR, goH, goL, goT, hc1, hc2, Int32.not_le.mp hc2]; done)) dX0_goOn_37
  · refine k_aload_n (n := 9) F dX0_goOn_8 rfl 0 rfl rfl ?_
    refine k_get (n := 12) (v := .int ho) F uX0 0 0 rfl rfl (by decide) mw_113 rfl dX0_goOn_9 rfl ?_
    refine k_iconst (n := 13) (v := 3) F dX0_goOn_12 rfl rfl ?_
    refine k_icmp_eq (n := 16) (tgt := 18) F dX0_goOn_13 (by decide) rfl (fun hc3 => ?_) (fun hc3 => ?_)
    · refine k_aload_n (n := 19) F dX0_goOn_18 rfl 0 rfl rfl ?_
      refine k_dup (n := 20) F dX0_goOn_19 rfl rfl ?_
      refine k_get (n := 23) (v := .int ti) F uX0 0 2 rfl rfl (by decide) mw_117 rfl dX0_goOn_20 rfl ?_
      refine k_iconst (n := 24) (v := 1) F dX0_goOn_23 rfl rfl ?_
      refine k_iadd (n := 25) F dX0_goOn_24 rfl ?_
      refine k_put (n := 28) (ws' := [(a, .inr (0, [.int ho, .int lo, .int (ti + 1)]))]) F uX0 tyX0_ok nmX0 0 2 rfl rfl (by decide) mw_117 rfl rfl rfl (Nat.le_of_ble_eq_true rfl) rfl dX0_goOn_25 rfl ?_
      refine k_aload_n (n := 29) F dX0_goOn_28 rfl 0 rfl rfl ?_
      refine k_get (n := 32) (v := .int (ti + 1)) F uX0 0 2 rfl rfl (by decide) mw_117 rfl dX0_goOn_29 rfl ?_
      refine k_iload_n (n := 33) F dX0_goOn_32 rfl 1 rfl rfl ?_
      refine k_icmp_ge (n := 36) (tgt := 38) F dX0_goOn_33 (by decide) rfl (fun hc4 => ?_) (fun hc4 => ?_)
      · refine k_aload_n (n := 39) F dX0_goOn_38 rfl 0 rfl rfl ?_
        refine k_get (n := 42) (v := .int ho) F uX0 0 0 rfl rfl (by decide) mw_113 rfl dX0_goOn_39 rfl ?_
        refine k_iconst (n := 43) (v := 2) F dX0_goOn_42 rfl rfl ?_
        refine k_icmp_ne (n := 46) (tgt := 53) F dX0_goOn_43 (by decide) rfl (fun _ => ?_) (fun h9 => absurd (hc3.symm.trans h9) (by decide))
        refine k_aload_n (n := 54) F dX0_goOn_53 rfl 0 rfl rfl ?_
        refine k_iconst (n := 55) (v := 0) F dX0_goOn_54 rfl rfl ?_
        refine k_cv (n := 58) (ws' := [(a, .inr (0, [.int 0, .int lo, .int 0]))]) F (k_rV (k := 1) (b := a) (As := [.int 0]) (rest := []) F (c_become l g a ho lo (ti + 1) 0) [0] rfl rfl 0 rfl rfl mw_428 mw_425 mw_426 mw_427 mw_6 (by decide) ⟨by decide, by decide⟩ rfl (Nat.le_of_ble_eq_true rfl) ⟨by decide, by decide⟩ dX0_goOn_55) [0] [] [0] rfl rfl rfl (by decide) rfl rfl rfl ?_
        refine k_aload_n (n := 59) F dX0_goOn_58 rfl 0 rfl rfl ?_
        refine k_iconst (n := 60) (v := 0) F dX0_goOn_59 rfl rfl ?_
        refine k_put (n := 63) (ws' := [(a, .inr (0, [.int 0, .int 0, .int 0]))]) F uX0 tyX0_ok nmX0 0 1 rfl rfl (by decide) mw_115 rfl rfl rfl (Nat.le_of_ble_eq_true rfl) rfl dX0_goOn_60 rfl ?_
        refine k_iconst (n := 64) (v := 1) F dX0_goOn_63 rfl rfl ?_
        exact k_zret F rfl (by first | rfl | (simp [goR, goH, goL, goT, hc1, hc3, hc4, Int32.not_lt.mpr hc4]; done) | (simp_all [goR, goH, goL, goT, hc1, hc3, hc4, Int32.not_lt.mpr hc4]; done)) (by first | rfl | (simp [goR, goH, goL, goT, hc1, hc3, hc4, Int32.not_lt.mpr hc4]; done) | (simp_all [goR, goH, goL, goT, hc1, hc3, hc4, Int32.not_lt.mpr hc4]; done)) dX0_goOn_64
      · refine k_iconst (n := 37) (v := 0) F dX0_goOn_36 rfl rfl ?_
        exact k_zret F rfl (by first | rfl | (simp [goR, goH, goL, goT, hc1, hc3, hc4, Int32.not_le.mp hc4]; done) | (simp_all [goR, goH, goL, goT, hc1, hc3, hc4, Int32.not_le.mp hc4]; done)) (by first | rfl | (simp [goR, goH, goL, goT, hc1, hc3, hc4, Int32.not_le.mp hc4]; done) | (simp_all [goR, goH, goL, goT, hc1, hc3, hc4, Int32.not_le.mp hc4]; done)) dX0_goOn_37
    · refine k_iconst (n := 17) (v := 0) F dX0_goOn_16 rfl rfl ?_
      exact k_zret F rfl (by first | rfl | (simp [goR, goH, goL, goT, hc1, hc3]; done) | (simp_all [goR, goH, goL, goT, hc1, hc3]; done)) (by first | rfl | (simp [goR, goH, goL, goT, hc1, hc3]; done) | (simp_all [goR, goH, goL, goT, hc1, hc3]; done)) dX0_goOn_17
set_option maxRecDepth 100000 in
set_option maxHeartbeats 4000000 in
theorem c_fact (l : Launch) (g : kG) (a : Nat) (ho lo ti wh : Int32) : kM l yX0_fact cX0_fact 2 (some .int) (rmK 0 0 0 0) g [.ref a, .int wh] [(a, .inr (0, [.int ho, .int lo, .int ti]))] (kDi g (if wh = 0 then ho else if wh = 1 then lo else if wh = 2 then ti else -1) [(a, .inr (0, [.int ho, .int lo, .int ti]))]) := by
  refine k_enter (by decide) (Nat.le_of_ble_eq_true rfl) ?_
  intro p e s m args below meth c A F
  refine k_iload_n (n := 1) F dX0_fact_0 rfl 1 rfl rfl ?_
  by_cases hc1 : wh = 0
  · refine k_tableIn (off := 27) (tgt := 28) F dX0_fact_1 (by rw [hc1]; decide) (by rw [hc1]; decide) (by rw [hc1]; rfl) (by decide) ?_
    refine k_aload_n (n := 29) F dX0_fact_28 rfl 0 rfl rfl ?_
    refine k_get (n := 32) (v := .int ho) F uX0 0 0 rfl rfl (by decide) mw_113 rfl dX0_fact_29 rfl ?_
    exact k_iret F (by first | rfl | (simp [hc1]; done) | (simp_all [hc1]; done)) (by first | rfl | (simp [hc1]; done) | (simp_all [hc1]; done)) dX0_fact_32
  by_cases hc2 : wh = 1
  · refine k_tableIn (off := 32) (tgt := 33) F dX0_fact_1 (by rw [hc2]; decide) (by rw [hc2]; decide) (by rw [hc2]; rfl) (by decide) ?_
    refine k_aload_n (n := 34) F dX0_fact_33 rfl 0 rfl rfl ?_
    refine k_get (n := 37) (v := .int lo) F uX0 0 1 rfl rfl (by decide) mw_115 rfl dX0_fact_34 rfl ?_
    exact k_iret F (by first | rfl | (simp [hc1, hc2]; done) | (simp_all [hc1, hc2]; done)) (by first | rfl | (simp [hc1, hc2]; done) | (simp_all [hc1, hc2]; done)) dX0_fact_37
  by_cases hc3 : wh = 2
  · refine k_tableIn (off := 37) (tgt := 38) F dX0_fact_1 (by rw [hc3]; decide) (by rw [hc3]; decide) (by rw [hc3]; rfl) (by decide) ?_
    refine k_aload_n (n := 39) F dX0_fact_38 rfl 0 rfl rfl ?_
    refine k_get (n := 42) (v := .int ti) F uX0 0 2 rfl rfl (by decide) mw_117 rfl dX0_fact_39 rfl ?_
    exact k_iret F (by first | rfl | (simp [hc1, hc2, hc3]; done) | (simp_all [hc1, hc2, hc3]; done)) (by first | rfl | (simp [hc1, hc2, hc3]; done) | (simp_all [hc1, hc2, hc3]; done)) dX0_fact_42
  refine k_tableOut (tgt := 43) F dX0_fact_1 (by have z0 := lv_neT hc1 (show (0 : Int32).toInt = 0 from rfl); have z1 := lv_neT hc2 (show (1 : Int32).toInt = 1 from rfl); have z2 := lv_neT hc3 (show (2 : Int32).toInt = 2 from rfl); omega) (by decide) ?_
  refine k_iconst (n := 44) (v := -1) F dX0_fact_43 rfl rfl ?_
  exact k_iret F (by first | rfl | (simp [hc1, hc2, hc3]; done) | (simp_all [hc1, hc2, hc3]; done)) (by first | rfl | (simp [hc1, hc2, hc3]; done) | (simp_all [hc1, hc2, hc3]; done)) dX0_fact_44
set_option maxRecDepth 100000 in
set_option maxHeartbeats 4000000 in
theorem c_isFull (l : Launch) (g : kG) (a : Nat) (ro ta ba : Int32) (ma de bl : Int64) : kM l yX6_isFull cX6_isFull 1 (some .boolean) (rmK 0 0 0 0) g [.ref a] [(a, .inr (6, [.int ro, .int ta, .int ba, .long ma, .long de, .long bl]))] (kDi g (if ro ≤ ta then 1 else 0) [(a, .inr (6, [.int ro, .int ta, .int ba, .long ma, .long de, .long bl]))]) := by
  refine k_enter (by decide) (Nat.le_of_ble_eq_true rfl) ?_
  intro p e s m args below meth c A F
  refine k_aload_n (n := 1) F dX6_isFull_0 rfl 0 rfl rfl ?_
  refine k_get (n := 4) (v := .int ta) F uX6 0 1 rfl rfl (by decide) mw_148 rfl dX6_isFull_1 rfl ?_
  refine k_aload_n (n := 5) F dX6_isFull_4 rfl 0 rfl rfl ?_
  refine k_get (n := 8) (v := .int ro) F uX6 0 0 rfl rfl (by decide) mw_146 rfl dX6_isFull_5 rfl ?_
  refine k_icmp_lt (n := 11) (tgt := 15) F dX6_isFull_8 (by decide) rfl (fun hc1 => ?_) (fun hc1 => ?_)
  · refine k_iconst (n := 16) (v := 0) F dX6_isFull_15 rfl rfl ?_
    exact k_zret F rfl (by first | rfl | (simp [hc1, Int32.not_le.mpr hc1]; done) | (simp_all [hc1, Int32.not_le.mpr hc1]; done)) (by first | rfl | (simp [hc1, Int32.not_le.mpr hc1]; done) | (simp_all [hc1, Int32.not_le.mpr hc1]; done)) dX6_isFull_16
  · refine k_iconst (n := 12) (v := 1) F dX6_isFull_11 rfl rfl ?_
    refine k_goto (tgt := 16) F dX6_isFull_12 (by decide) ?_
    exact k_zret F rfl (by first | rfl | (simp [hc1, Int32.not_lt.mp hc1]; done) | (simp_all [hc1, Int32.not_lt.mp hc1]; done)) (by first | rfl | (simp [hc1, Int32.not_lt.mp hc1]; done) | (simp_all [hc1, Int32.not_lt.mp hc1]; done)) dX6_isFull_16
set_option maxRecDepth 100000 in
set_option maxHeartbeats 4000000 in
theorem c_reading (l : Launch) (g : kG) (a : Nat) (ro ta ba me : Int32) (ma de bl : Int64) : kM l yX6_reading cX6_reading 2 (some .long) (rmK 0 0 0 0) g [.ref a, .int me] [(a, .inr (6, [.int ro, .int ta, .int ba, .long ma, .long de, .long bl]))] (kDl g (if me = 0 then ma else if me = 1 then de else if me = 2 then bl else (ta + ba).toInt64) [(a, .inr (6, [.int ro, .int ta, .int ba, .long ma, .long de, .long bl]))]) := by
  refine k_enter (by decide) (Nat.le_of_ble_eq_true rfl) ?_
  intro p e s m args below meth c A F
  refine k_iload_n (n := 1) F dX6_reading_0 rfl 1 rfl rfl ?_
  by_cases hc1 : me = 0
  · refine k_tableIn (off := 27) (tgt := 28) F dX6_reading_1 (by rw [hc1]; decide) (by rw [hc1]; decide) (by rw [hc1]; rfl) (by decide) ?_
    refine k_aload_n (n := 29) F dX6_reading_28 rfl 0 rfl rfl ?_
    refine k_get (n := 32) (v := .long ma) F uX6 0 3 rfl rfl (by decide) mw_152 rfl dX6_reading_29 rfl ?_
    exact k_lret F (by first | rfl | (simp [hc1]; done) | (simp_all [hc1]; done)) (by first | rfl | (simp [hc1]; done) | (simp_all [hc1]; done)) dX6_reading_32
  by_cases hc2 : me = 1
  · refine k_tableIn (off := 32) (tgt := 33) F dX6_reading_1 (by rw [hc2]; decide) (by rw [hc2]; decide) (by rw [hc2]; rfl) (by decide) ?_
    refine k_aload_n (n := 34) F dX6_reading_33 rfl 0 rfl rfl ?_
    refine k_get (n := 37) (v := .long de) F uX6 0 4 rfl rfl (by decide) mw_153 rfl dX6_reading_34 rfl ?_
    exact k_lret F (by first | rfl | (simp [hc1, hc2]; done) | (simp_all [hc1, hc2]; done)) (by first | rfl | (simp [hc1, hc2]; done) | (simp_all [hc1, hc2]; done)) dX6_reading_37
  by_cases hc3 : me = 2
  · refine k_tableIn (off := 37) (tgt := 38) F dX6_reading_1 (by rw [hc3]; decide) (by rw [hc3]; decide) (by rw [hc3]; rfl) (by decide) ?_
    refine k_aload_n (n := 39) F dX6_reading_38 rfl 0 rfl rfl ?_
    refine k_get (n := 42) (v := .long bl) F uX6 0 5 rfl rfl (by decide) mw_154 rfl dX6_reading_39 rfl ?_
    exact k_lret F (by first | rfl | (simp [hc1, hc2, hc3]; done) | (simp_all [hc1, hc2, hc3]; done)) (by first | rfl | (simp [hc1, hc2, hc3]; done) | (simp_all [hc1, hc2, hc3]; done)) dX6_reading_42
  refine k_tableOut (tgt := 43) F dX6_reading_1 (by have z0 := lv_neT hc1 (show (0 : Int32).toInt = 0 from rfl); have z1 := lv_neT hc2 (show (1 : Int32).toInt = 1 from rfl); have z2 := lv_neT hc3 (show (2 : Int32).toInt = 2 from rfl); omega) (by decide) ?_
  refine k_aload_n (n := 44) F dX6_reading_43 rfl 0 rfl rfl ?_
  refine k_get (n := 47) (v := .int ta) F uX6 0 1 rfl rfl (by decide) mw_148 rfl dX6_reading_44 rfl ?_
  refine k_aload_n (n := 48) F dX6_reading_47 rfl 0 rfl rfl ?_
  refine k_get (n := 51) (v := .int ba) F uX6 0 2 rfl rfl (by decide) mw_150 rfl dX6_reading_48 rfl ?_
  refine k_iadd (n := 52) F dX6_reading_51 rfl ?_
  refine k_i2l (n := 53) F dX6_reading_52 rfl ?_
  exact k_lret F (by first | rfl | (simp [hc1, hc2, hc3]; done) | (simp_all [hc1, hc2, hc3]; done)) (by first | rfl | (simp [hc1, hc2, hc3]; done) | (simp_all [hc1, hc2, hc3]; done)) dX6_reading_53
set_option maxRecDepth 100000 in
set_option maxHeartbeats 4000000 in
theorem c_handOver (l : Launch) (g : kG) (a : Nat) (ro ta ba k : Int32) (ma de bl : Int64) : kM l yX6_handOver cX6_handOver 2 (some .boolean) (rmK 0 0 0 0) g [.ref a, .int k] [(a, .inr (6, [.int ro, .int ta, .int ba, .long ma, .long de, .long bl]))] (kDi g (if ta < k then 0 else 1) [(a, .inr (6, [.int ro, .int (if ta < k then ta else ta - k), .int ba, .long ma, .long (if ta < k then de else de + k.toInt64), .long bl]))]) := by
  refine k_enter (by decide) (Nat.le_of_ble_eq_true rfl) ?_
  intro p e s m args below meth c A F
  refine k_iload_n (n := 1) F dX6_handOver_0 rfl 1 rfl rfl ?_
  refine k_aload_n (n := 2) F dX6_handOver_1 rfl 0 rfl rfl ?_
  refine k_get (n := 5) (v := .int ta) F uX6 0 1 rfl rfl (by decide) mw_148 rfl dX6_handOver_2 rfl ?_
  refine k_icmp_le (n := 8) (tgt := 10) F dX6_handOver_5 (by decide) rfl (fun hc1 => ?_) (fun hc1 => ?_)
  · refine k_aload_n (n := 11) F dX6_handOver_10 rfl 0 rfl rfl ?_
    refine k_dup (n := 12) F dX6_handOver_11 rfl rfl ?_
    refine k_get (n := 15) (v := .int ta) F uX6 0 1 rfl rfl (by decide) mw_148 rfl dX6_handOver_12 rfl ?_
    refine k_iload_n (n := 16) F dX6_handOver_15 rfl 1 rfl rfl ?_
    refine k_isub (n := 17) F dX6_handOver_16 rfl ?_
    refine k_put (n := 20) (ws' := [(a, .inr (6, [.int ro, .int (ta - k), .int ba, .long ma, .long de, .long bl]))]) F uX6 tyX6_ok nmX6 0 1 rfl rfl (by decide) mw_148 rfl rfl rfl (Nat.le_of_ble_eq_true rfl) rfl dX6_handOver_17 rfl ?_
    refine k_aload_n (n := 21) F dX6_handOver_20 rfl 0 rfl rfl ?_
    refine k_dup (n := 22) F dX6_handOver_21 rfl rfl ?_
    refine k_get (n := 25) (v := .long de) F uX6 0 4 rfl rfl (by decide) mw_153 rfl dX6_handOver_22 rfl ?_
    refine k_iload_n (n := 26) F dX6_handOver_25 rfl 1 rfl rfl ?_
    refine k_i2l (n := 27) F dX6_handOver_26 rfl ?_
    refine k_ladd (n := 28) F dX6_handOver_27 rfl ?_
    refine k_put (n := 31) (ws' := [(a, .inr (6, [.int ro, .int (ta - k), .int ba, .long ma, .long (de + k.toInt64), .long bl]))]) F uX6 tyX6_ok nmX6 0 4 rfl rfl (by decide) mw_153 rfl rfl rfl (Nat.le_of_ble_eq_true rfl) rfl dX6_handOver_28 rfl ?_
    refine k_iconst (n := 32) (v := 1) F dX6_handOver_31 rfl rfl ?_
    exact k_zret F rfl (by first | rfl | (simp [hc1, Int32.not_lt.mpr hc1]; done) | (simp_all [hc1, Int32.not_lt.mpr hc1]; done)) (by first | rfl | (simp [hc1, Int32.not_lt.mpr hc1]; done) | (simp_all [hc1, Int32.not_lt.mpr hc1]; done)) dX6_handOver_32
  · refine k_iconst (n := 9) (v := 0) F dX6_handOver_8 rfl rfl ?_
    exact k_zret F rfl (by first | rfl | (simp [hc1, Int32.not_le.mp hc1]; done) | (simp_all [hc1, Int32.not_le.mp hc1]; done)) (by first | rfl | (simp [hc1, Int32.not_le.mp hc1]; done) | (simp_all [hc1, Int32.not_le.mp hc1]; done)) dX6_handOver_9
set_option maxRecDepth 100000 in
set_option maxHeartbeats 4000000 in
theorem c_takeIn (l : Launch) (g : kG) (a : Nat) (ro ta ba q : Int32) (ma de bl : Int64) : kM l yX6_takeIn cX6_takeIn 4 none (rmK 1 0 0 13) g [.ref a, .int q] [(a, .inr (6, [.int ro, .int ta, .int ba, .long ma, .long de, .long bl]))] (kDv g [(a, .inr (6, [.int ro, .int (ta + tkT ro ta q), .int (ba + tkB ro ta ba q), .long (ma + q.toInt64), .long de, .long (bl + (q - tkT ro ta q - tkB ro ta ba q).toInt64)]))]) := by
  refine k_enter (by decide) (Nat.le_of_ble_eq_true rfl) ?_
  intro p e s m args below meth c A F
  refine k_aload_n (n := 1) F dX6_takeIn_0 rfl 0 rfl rfl ?_
  refine k_dup (n := 2) F dX6_takeIn_1 rfl rfl ?_
  refine k_get (n := 5) (v := .long ma) F uX6 0 3 rfl rfl (by decide) mw_152 rfl dX6_takeIn_2 rfl ?_
  refine k_iload_n (n := 6) F dX6_takeIn_5 rfl 1 rfl rfl ?_
  refine k_i2l (n := 7) F dX6_takeIn_6 rfl ?_
  refine k_ladd (n := 8) F dX6_takeIn_7 rfl ?_
  refine k_put (n := 11) (ws' := [(a, .inr (6, [.int ro, .int ta, .int ba, .long (ma + q.toInt64), .long de, .long bl]))]) F uX6 tyX6_ok nmX6 0 3 rfl rfl (by decide) mw_152 rfl rfl rfl (Nat.le_of_ble_eq_true rfl) rfl dX6_takeIn_8 rfl ?_
  refine k_iload_n (n := 12) F dX6_takeIn_11 rfl 1 rfl rfl ?_
  refine k_aload_n (n := 13) F dX6_takeIn_12 rfl 0 rfl rfl ?_
  refine k_get (n := 16) (v := .int ro) F uX6 0 0 rfl rfl (by decide) mw_146 rfl dX6_takeIn_13 rfl ?_
  refine k_aload_n (n := 17) F dX6_takeIn_16 rfl 0 rfl rfl ?_
  refine k_get (n := 20) (v := .int ta) F uX6 0 1 rfl rfl (by decide) mw_148 rfl dX6_takeIn_17 rfl ?_
  refine k_isub (n := 21) F dX6_takeIn_20 rfl ?_
  refine k_mmin (n := 24) F mw_466 mw_326 mw_13 mw_327 dX6_takeIn_21 (by decide) (Nat.le_of_ble_eq_true rfl) (by decide) (by decide) rfl ?_
  refine k_istore_n (n := 25) (lv' := [(2, .int (if ro - ta < q then ro - ta else q)), (0, .ref a), (1, .int q)]) F dX6_takeIn_24 rfl (by decide) rfl rfl ?_
  refine k_iload_n (n := 26) F dX6_takeIn_25 rfl 2 rfl rfl ?_
  refine k_iload_n (n := 27) F dX6_takeIn_26 rfl 0 rfl rfl ?_
  refine k_isub (n := 28) F dX6_takeIn_27 rfl ?_
  refine k_sipush (n := 31) (v := 300) F dX6_takeIn_28 rfl rfl ?_
  refine k_aload_n (n := 32) F dX6_takeIn_31 rfl 1 rfl rfl ?_
  refine k_get (n := 35) (v := .int ba) F uX6 0 2 rfl rfl (by decide) mw_150 rfl dX6_takeIn_32 rfl ?_
  refine k_isub (n := 36) F dX6_takeIn_35 rfl ?_
  refine k_mmin (n := 39) F mw_466 mw_326 mw_13 mw_327 dX6_takeIn_36 (by decide) (Nat.le_of_ble_eq_true rfl) (by decide) (by decide) rfl ?_
  refine k_istore_n (n := 40) (lv' := [(3, .int (if 300 - ba < q - (if ro - ta < q then ro - ta else q) then 300 - ba else q - (if ro - ta < q then ro - ta else q))), (2, .int (if ro - ta < q then ro - ta else q)), (0, .ref a), (1, .int q)]) F dX6_takeIn_39 rfl (by decide) rfl rfl ?_
  refine k_aload_n (n := 41) F dX6_takeIn_40 rfl 2 rfl rfl ?_
  refine k_dup (n := 42) F dX6_takeIn_41 rfl rfl ?_
  refine k_get (n := 45) (v := .int ta) F uX6 0 1 rfl rfl (by decide) mw_148 rfl dX6_takeIn_42 rfl ?_
  refine k_iload_n (n := 46) F dX6_takeIn_45 rfl 1 rfl rfl ?_
  refine k_iadd (n := 47) F dX6_takeIn_46 rfl ?_
  refine k_put (n := 50) (ws' := [(a, .inr (6, [.int ro, .int (ta + (if ro - ta < q then ro - ta else q)), .int ba, .long (ma + q.toInt64), .long de, .long bl]))]) F uX6 tyX6_ok nmX6 0 1 rfl rfl (by decide) mw_148 rfl rfl rfl (Nat.le_of_ble_eq_true rfl) rfl dX6_takeIn_47 rfl ?_
  refine k_aload_n (n := 51) F dX6_takeIn_50 rfl 2 rfl rfl ?_
  refine k_dup (n := 52) F dX6_takeIn_51 rfl rfl ?_
  refine k_get (n := 55) (v := .int ba) F uX6 0 2 rfl rfl (by decide) mw_150 rfl dX6_takeIn_52 rfl ?_
  refine k_iload_n (n := 56) F dX6_takeIn_55 rfl 0 rfl rfl ?_
  refine k_iadd (n := 57) F dX6_takeIn_56 rfl ?_
  refine k_put (n := 60) (ws' := [(a, .inr (6, [.int ro, .int (ta + (if ro - ta < q then ro - ta else q)), .int (ba + (if 300 - ba < q - (if ro - ta < q then ro - ta else q) then 300 - ba else q - (if ro - ta < q then ro - ta else q))), .long (ma + q.toInt64), .long de, .long bl]))]) F uX6 tyX6_ok nmX6 0 2 rfl rfl (by decide) mw_150 rfl rfl rfl (Nat.le_of_ble_eq_true rfl) rfl dX6_takeIn_57 rfl ?_
  refine k_aload_n (n := 61) F dX6_takeIn_60 rfl 2 rfl rfl ?_
  refine k_dup (n := 62) F dX6_takeIn_61 rfl rfl ?_
  refine k_get (n := 65) (v := .long bl) F uX6 0 5 rfl rfl (by decide) mw_154 rfl dX6_takeIn_62 rfl ?_
  refine k_iload_n (n := 66) F dX6_takeIn_65 rfl 3 rfl rfl ?_
  refine k_iload_n (n := 67) F dX6_takeIn_66 rfl 1 rfl rfl ?_
  refine k_isub (n := 68) F dX6_takeIn_67 rfl ?_
  refine k_iload_n (n := 69) F dX6_takeIn_68 rfl 0 rfl rfl ?_
  refine k_isub (n := 70) F dX6_takeIn_69 rfl ?_
  refine k_i2l (n := 71) F dX6_takeIn_70 rfl ?_
  refine k_ladd (n := 72) F dX6_takeIn_71 rfl ?_
  refine k_put (n := 75) (ws' := [(a, .inr (6, [.int ro, .int (ta + (if ro - ta < q then ro - ta else q)), .int (ba + (if 300 - ba < q - (if ro - ta < q then ro - ta else q) then 300 - ba else q - (if ro - ta < q then ro - ta else q))), .long (ma + q.toInt64), .long de, .long (bl + (((q - (if ro - ta < q then ro - ta else q)) - (if 300 - ba < q - (if ro - ta < q then ro - ta else q) then 300 - ba else q - (if ro - ta < q then ro - ta else q))).toInt64))]))]) F uX6 tyX6_ok nmX6 0 5 rfl rfl (by decide) mw_154 rfl rfl rfl (Nat.le_of_ble_eq_true rfl) rfl dX6_takeIn_72 rfl ?_
  exact k_vret F (by first | rfl | (simp [tkT, tkB]; done) | (simp_all [tkT, tkB]; done)) dX6_takeIn_75
