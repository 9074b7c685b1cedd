def anyR (h0 h1 : Int32) : Int32 := if h0 = 1 then 1 else if h1 = 1 then 1 else 0
theorem anyR_comm (x y : Int32) : (anyR x y = 0) = (anyR y x = 0) := by unfold anyR; by_cases h1 : x = 1 <;> by_cases h2 : y = 1 <;> simp [h1, h2]
/-- a step of one that goes on, oh: how the other one is -/
def stH (ho ti ht oh : Int32) : Int32 := if goR ho ti ht = 0 then goH ho ti ht else if anyR (goH ho ti ht) oh = 0 then 1 else goH ho ti ht
def stT (ho ti ht oh : Int32) : Int32 := if goR ho ti ht = 0 then goT ho ti ht else if anyR (goH ho ti ht) oh = 0 then 0 else goT ho ti ht
/-- a flow loads the one that is on -/
def lnR (ho lo fl oh : Int32) : Int32 := if ¬ ho = 1 then 0 else if lo + 1 < fl then 1 else if ¬ oh = 0 then 0 else 1
def lnH (ho lo fl : Int32) : Int32 := if ¬ ho = 1 then ho else if lo + 1 < fl then ho else 2
def lnL (ho lo : Int32) : Int32 := if ¬ ho = 1 then lo else lo + 1
def lnT (ho lo ti fl : Int32) : Int32 := if ¬ ho = 1 then ti else if lo + 1 < fl then ti else 0
def lxH (ho lo fl oh : Int32) : Int32 := if ¬ ho = 1 then oh else if lo + 1 < fl then oh else if ¬ oh = 0 then oh else 1
def lxT (ho lo fl oh ot : Int32) : Int32 := if ¬ ho = 1 then ot else if lo + 1 < fl then ot else if ¬ oh = 0 then ot else 0
theorem lnR_b (ho lo fl oh : Int32) : lnR ho lo fl oh = 0 ∨ lnR ho lo fl oh = 1 := by unfold lnR; repeat (first | split | simp)
def ldR (h0 l0 h1 l1 fl : Int32) : Int32 := if h0 = 1 then lnR h0 l0 fl h1 else lnR h1 l1 fl h0
def ldH0 (h0 l0 h1 l1 fl : Int32) : Int32 := if h0 = 1 then lnH h0 l0 fl else lxH h1 l1 fl h0
def ldL0 (h0 l0 : Int32) : Int32 := if h0 = 1 then lnL h0 l0 else l0
def ldT0 (h0 l0 t0 h1 l1 fl : Int32) : Int32 := if h0 = 1 then lnT h0 l0 t0 fl else lxT h1 l1 fl h0 t0
def ldH1 (h0 l0 h1 l1 fl : Int32) : Int32 := if h0 = 1 then lxH h0 l0 fl h1 else lnH h1 l1 fl
def ldL1 (h0 h1 l1 : Int32) : Int32 := if h0 = 1 then l1 else lnL h1 l1
def ldT1 (h0 l0 h1 l1 t1 fl : Int32) : Int32 := if h0 = 1 then lxT h0 l0 fl h1 t1 else lnT h1 l1 t1 fl
def adR (h0 l0 t0 h1 l1 t1 x wh : Int32) : Int32 := if x = 0 then (if wh = 0 then h0 else if wh = 1 then l0 else if wh = 2 then t0 else -1) else if x = 1 then (if wh = 0 then h1 else if wh = 1 then l1 else if wh = 2 then t1 else -1) else -1
/-- a corner, 0 where there is none -/
def kcn (f : Nat → Int32) (x : Int32) : Int32 := if x < 0 then 0 else if 5 ≤ x then 0 else f x.toNatClampNeg
theorem kcn_ix {x : Int32} (h1 : ¬ x < 0) (h2 : ¬ (5 : Int32) ≤ x) : kIx x x.toNatClampNeg 5 := by
  obtain ⟨j, hj, rfl⟩ := nI_of h1
  have h3 : ¬ nI 5 ≤ nI j := h2
  rw [nI_leI (by omega) hj] at h3
  rw [nI_clamp hj]
  exact kIx_nI (by omega) (by omega)
/-- the cold of a wheel -/
def kwc (f : Nat → Int32) (d : Int32) : Int32 := d / 4 + ((10 - (d - d / 10 * 10)) * kcn f (d / 10) + (d - d / 10 * 10) * kcn f (d / 10 + 1)) / 10
set_option maxRecDepth 100000 in
set_option maxHeartbeats 4000000 in
theorem c_anyOn (l : Launch) (g : kG) (a za oa : Nat) (h0 l0 t0 h1 l1 t1 fl ht : Int32) : kM l yX1_anyOn cX1_anyOn 1 (some .boolean) (rmK 0 0 0 0) g [.ref a] [(a, .inr (1, [.ref za, .ref oa, .int fl, .int ht])), (za, .inr (0, [.int h0, .int l0, .int t0])), (oa, .inr (0, [.int h1, .int l1, .int t1]))] (kDi g (anyR h0 h1) [(a, .inr (1, [.ref za, .ref oa, .int fl, .int ht])), (za, .inr (0, [.int h0, .int l0, .int t0])), (oa, .inr (0, [.int h1, .int l1, .int t1]))]) := by
  refine k_enter (by decide) (Nat.le_of_ble_eq_true rfl) ?_
  intro p e s m args below meth c A F
  refine k_aload_n (n := 1) F dX1_anyOn_0 rfl 0 rfl rfl ?_
  refine k_get (n := 4) (v := .ref za) F uX1 0 0 rfl rfl (by decide) mw_125 rfl dX1_anyOn_1 rfl ?_
  refine k_getN (n := 7) (v := .int h0) F uX0 1 0 rfl rfl (by decide) nw_14 rfl dX1_anyOn_4 rfl ?_
  refine k_iconst (n := 8) (v := 1) F dX1_anyOn_7 rfl rfl ?_
  refine k_icmp_eq (n := 11) (tgt := 22) F dX1_anyOn_8 (by decide) rfl (fun hc1 => ?_) (fun hc1 => ?_)
  · refine k_iconst (n := 23) (v := 1) F dX1_anyOn_22 rfl rfl ?_
    refine k_goto (tgt := 27) F dX1_anyOn_23 (by decide) ?_
    exact k_zret F rfl (by first | rfl | (simp [anyR, hc1]; done) | (simp_all [anyR, hc1]; done)) (by first | rfl | (simp [anyR, hc1]; done) | (simp_all [anyR, hc1]; done)) dX1_anyOn_27
  · refine k_aload_n (n := 12) F dX1_anyOn_11 rfl 0 rfl rfl ?_
    refine k_get (n := 15) (v := .ref oa) F uX1 0 1 rfl rfl (by decide) mw_126 rfl dX1_anyOn_12 rfl ?_
    refine k_getN (n := 18) (v := .int h1) F uX0 2 0 rfl rfl (by decide) nw_14 rfl dX1_anyOn_15 rfl ?_
    refine k_iconst (n := 19) (v := 1) F dX1_anyOn_18 rfl rfl ?_
    refine k_icmp_ne (n := 22) (tgt := 26) F dX1_anyOn_19 (by decide) rfl (fun hc2 => ?_) (fun hc2 => ?_)
    · refine k_iconst (n := 27) (v := 0) F dX1_anyOn_26 rfl rfl ?_
      exact k_zret F rfl (by first | rfl | (simp [anyR, hc1, hc2]; done) | (simp_all [anyR, hc1, hc2]; done)) (by first | rfl | (simp [anyR, hc1, hc2]; done) | (simp_all [anyR, hc1, hc2]; done)) dX1_anyOn_27
    · refine k_iconst (n := 23) (v := 1) F dX1_anyOn_22 rfl rfl ?_
      refine k_goto (tgt := 27) F dX1_anyOn_23 (by decide) ?_
      exact k_zret F rfl (by first | rfl | (simp [anyR, hc1, hc2]; done) | (simp_all [anyR, hc1, hc2]; done)) (by first | rfl | (simp [anyR, hc1, hc2]; done) | (simp_all [anyR, hc1, hc2]; done)) dX1_anyOn_27
set_option maxRecDepth 100000 in
set_option maxHeartbeats 4000000 in
theorem c_step0 (l : Launch) (g : kG) (a za oa : Nat) (h0 l0 t0 h1 l1 t1 fl ht : Int32) : kM l yX1_step cX1_step 2 none (rmK 2 0 0 42) g [.ref a, .ref za] [(a, .inr (1, [.ref za, .ref oa, .int fl, .int ht])), (za, .inr (0, [.int h0, .int l0, .int t0])), (oa, .inr (0, [.int h1, .int l1, .int t1]))] (kDv g [(a, .inr (1, [.ref za, .ref oa, .int fl, .int ht])), (za, .inr (0, [.int (stH h0 t0 ht h1), .int (goL h0 l0 t0 ht), .int (stT h0 t0 ht h1)])), (oa, .inr (0, [.int h1, .int l1, .int t1]))]) := by
  refine k_enter (by decide) (Nat.le_of_ble_eq_true rfl) ?_
  intro p e s m args below meth c A F
  refine k_aload_n (n := 1) F dX1_step_0 rfl 1 rfl rfl ?_
  refine k_aload_n (n := 2) F dX1_step_1 rfl 0 rfl rfl ?_
  refine k_get (n := 5) (v := .int ht) F uX1 0 3 rfl rfl (by decide) mw_129 rfl dX1_step_2 rfl ?_
  refine k_ci (n := 8) (ws' := [(a, .inr (1, [.ref za, .ref oa, .int fl, .int ht])), (za, .inr (0, [.int (goH h0 t0 ht), .int (goL h0 l0 t0 ht), .int (goT h0 t0 ht)])), (oa, .inr (0, [.int h1, .int l1, .int t1]))]) F (k_rV (k := 1) (b := za) (As := [.int ht]) (rest := []) F (c_goOn l g za h0 l0 t0 ht) [1] rfl rfl 0 rfl rfl mw_424 mw_421 mw_422 mw_423 mw_6 (by decide) ⟨by decide, by decide⟩ rfl (Nat.le_of_ble_eq_true rfl) ⟨by decide, by decide⟩ dX1_step_5) [1] [0, 2] [0, 2, 1] rfl rfl rfl (by decide) rfl rfl rfl ?_
  refine k_if_eq (n := 11) (tgt := 23) F dX1_step_8 (by decide) rfl (fun hc1 => ?_) (fun hc1 => ?_)
  · exact k_vret F (by first | rfl | (simp [stH, stT, hc1]; done) | (simp_all [stH, stT, hc1]; done)) dX1_step_23
  · refine k_aload_n (n := 12) F dX1_step_11 rfl 0 rfl rfl ?_
    refine k_ciR (n := 15) F (k_rV (k := 0) (b := a) (As := []) (rest := []) F (c_anyOn l g a za oa (goH h0 t0 ht) (goL h0 l0 t0 ht) (goT h0 t0 ht) h1 l1 t1 fl ht) [0, 1, 2] rfl rfl 0 rfl rfl mw_367 mw_429 mw_365 mw_366 mw_5 (by decide) ⟨by decide, by decide⟩ rfl (Nat.le_of_ble_eq_true rfl) ⟨by decide, by decide⟩ dX1_step_12) [0, 1, 2] rfl rfl ?_
    refine k_if_ne (n := 18) (tgt := 23) F dX1_step_15 (by decide) rfl (fun hc2 => ?_) (fun hc2 => ?_)
    · exact k_vret F (by first | rfl | (simp [stH, stT, hc1, hc2]; done) | (simp_all [stH, stT, hc1, hc2]; done)) dX1_step_23
    · refine k_aload_n (n := 19) F dX1_step_18 rfl 1 rfl rfl ?_
      refine k_iconst (n := 20) (v := 1) F dX1_step_19 rfl rfl ?_
      refine k_cv (n := 23) (ws' := [(a, .inr (1, [.ref za, .ref oa, .int fl, .int ht])), (za, .inr (0, [.int 1, .int (goL h0 l0 t0 ht), .int 0])), (oa, .inr (0, [.int h1, .int l1, .int t1]))]) F (k_rV (k := 1) (b := za) (As := [.int 1]) (rest := []) F (c_become l g za (goH h0 t0 ht) (goL h0 l0 t0 ht) (goT h0 t0 ht) 1) [1] rfl rfl 0 rfl rfl mw_428 mw_430 mw_426 mw_427 mw_6 (by decide) ⟨by decide, by decide⟩ rfl (Nat.le_of_ble_eq_true rfl) ⟨by decide, by decide⟩ dX1_step_20) [1] [0, 2] [0, 2, 1] rfl rfl rfl (by decide) rfl rfl rfl ?_
      exact k_vret F (by first | rfl | (simp [stH, stT, hc1, hc2]; done) | (simp_all [stH, stT, hc1, hc2]; done)) dX1_step_23
set_option maxRecDepth 100000 in
set_option maxHeartbeats 4000000 in
theorem c_step1 (l : Launch) (g : kG) (a za oa : Nat) (h0 l0 t0 h1 l1 t1 fl ht : Int32) : kM l yX1_step cX1_step 2 none (rmK 2 0 0 42) g [.ref a, .ref oa] [(a, .inr (1, [.ref za, .ref oa, .int fl, .int ht])), (za, .inr (0, [.int h0, .int l0, .int t0])), (oa, .inr (0, [.int h1, .int l1, .int t1]))] (kDv g [(a, .inr (1, [.ref za, .ref oa, .int fl, .int ht])), (za, .inr (0, [.int h0, .int l0, .int t0])), (oa, .inr (0, [.int (stH h1 t1 ht h0), .int (goL h1 l1 t1 ht), .int (stT h1 t1 ht h0)]))]) := by
  refine k_enter (by decide) (Nat.le_of_ble_eq_true rfl) ?_
  intro p e s m args below meth c A F
  refine k_aload_n (n := 1) F dX1_step_0 rfl 1 rfl rfl ?_
  refine k_aload_n (n := 2) F dX1_step_1 rfl 0 rfl rfl ?_
  refine k_get (n := 5) (v := .int ht) F uX1 0 3 rfl rfl (by decide) mw_129 rfl dX1_step_2 rfl ?_
  refine k_ci (n := 8) (ws' := [(a, .inr (1, [.ref za, .ref oa, .int fl, .int ht])), (za, .inr (0, [.int h0, .int l0, .int t0])), (oa, .inr (0, [.int (goH h1 t1 ht), .int (goL h1 l1 t1 ht), .int (goT h1 t1 ht)]))]) F (k_rV (k := 1) (b := oa) (As := [.int ht]) (rest := []) F (c_goOn l g oa h1 l1 t1 ht) [2] rfl rfl 0 rfl rfl mw_424 mw_421 mw_422 mw_423 mw_6 (by decide) ⟨by decide, by decide⟩ rfl (Nat.le_of_ble_eq_true rfl) ⟨by decide, by decide⟩ dX1_step_5) [2] [0, 1] [0, 1, 2] rfl rfl rfl (by decide) rfl rfl rfl ?_
  refine k_if_eq (n := 11) (tgt := 23) F dX1_step_8 (by decide) rfl (fun hc1 => ?_) (fun hc1 => ?_)
  · exact k_vret F (by first | rfl | (simp [stH, stT, anyR_comm, hc1]; done) | (simp_all [stH, stT, anyR_comm, hc1]; done)) dX1_step_23
  · refine k_aload_n (n := 12) F dX1_step_11 rfl 0 rfl rfl ?_
    refine k_ciR (n := 15) F (k_rV (k := 0) (b := a) (As := []) (rest := []) F (c_anyOn l g a za oa h0 l0 t0 (goH h1 t1 ht) (goL h1 l1 t1 ht) (goT h1 t1 ht) fl ht) [0, 1, 2] rfl rfl 0 rfl rfl mw_367 mw_429 mw_365 mw_366 mw_5 (by decide) ⟨by decide, by decide⟩ rfl (Nat.le_of_ble_eq_true rfl) ⟨by decide, by decide⟩ dX1_step_12) [0, 1, 2] rfl rfl ?_
    refine k_if_ne (n := 18) (tgt := 23) F dX1_step_15 (by decide) rfl (fun hc2 => ?_) (fun hc2 => ?_)
    · exact k_vret F (by first | rfl | (simp [stH, stT, anyR_comm, hc1, hc2]; done) | (simp_all [stH, stT, anyR_comm, hc1, hc2]; done)) dX1_step_23
    · refine k_aload_n (n := 19) F dX1_step_18 rfl 1 rfl rfl ?_
      refine k_iconst (n := 20) (v := 1) F dX1_step_19 rfl rfl ?_
      refine k_cv (n := 23) (ws' := [(a, .inr (1, [.ref za, .ref oa, .int fl, .int ht])), (za, .inr (0, [.int h0, .int l0, .int t0])), (oa, .inr (0, [.int 1, .int (goL h1 l1 t1 ht), .int 0]))]) F (k_rV (k := 1) (b := oa) (As := [.int 1]) (rest := []) F (c_become l g oa (goH h1 t1 ht) (goL h1 l1 t1 ht) (goT h1 t1 ht) 1) [2] rfl rfl 0 rfl rfl mw_428 mw_430 mw_426 mw_427 mw_6 (by decide) ⟨by decide, by decide⟩ rfl (Nat.le_of_ble_eq_true rfl) ⟨by decide, by decide⟩ dX1_step_20) [2] [0, 1] [0, 1, 2] rfl rfl rfl (by decide) rfl rfl rfl ?_
      exact k_vret F (by first | rfl | (simp [stH, stT, anyR_comm, hc1, hc2]; done) | (simp_all [stH, stT, anyR_comm, hc1, hc2]; done)) dX1_step_23
set_option maxRecDepth 100000 in
set_option maxHeartbeats 4000000 in
theorem c_regenerate (l : Launch) (g : kG) (a za oa : Nat) (h0 l0 t0 h1 l1 t1 fl ht : Int32) : kM l yX1_regenerate cX1_regenerate 1 none (rmK 3 0 0 63) g [.ref a] [(a, .inr (1, [.ref za, .ref oa, .int fl, .int ht])), (za, .inr (0, [.int h0, .int l0, .int t0])), (oa, .inr (0, [.int h1, .int l1, .int t1]))] (kDv g [(a, .inr (1, [.ref za, .ref oa, .int fl, .int ht])), (za, .inr (0, [.int (stH h0 t0 ht h1), .int (goL h0 l0 t0 ht), .int (stT h0 t0 ht h1)])), (oa, .inr (0, [.int (stH h1 t1 ht (stH h0 t0 ht h1)), .int (goL h1 l1 t1 ht), .int (stT h1 t1 ht (stH h0 t0 ht h1))]))]) := by
  refine k_enter (by decide) (Nat.le_of_ble_eq_true rfl) ?_
  intro p e s m args below meth c A F
  refine k_aload_n (n := 1) F dX1_regenerate_0 rfl 0 rfl rfl ?_
  refine k_aload_n (n := 2) F dX1_regenerate_1 rfl 0 rfl rfl ?_
  refine k_get (n := 5) (v := .ref za) F uX1 0 0 rfl rfl (by decide) mw_125 rfl dX1_regenerate_2 rfl ?_
  refine k_cv (n := 8) (ws' := [(a, .inr (1, [.ref za, .ref oa, .int fl, .int ht])), (za, .inr (0, [.int (stH h0 t0 ht h1), .int (goL h0 l0 t0 ht), .int (stT h0 t0 ht h1)])), (oa, .inr (0, [.int h1, .int l1, .int t1]))]) F (k_rV (k := 1) (b := a) (As := [.ref za]) (rest := []) F (c_step0 l g a za oa h0 l0 t0 h1 l1 t1 fl ht) [0, 1, 2] rfl rfl 0 rfl rfl mw_420 mw_417 mw_419 mw_s9 mw_5 (by decide) ⟨by decide, by decide⟩ rfl (Nat.le_of_ble_eq_true rfl) ⟨by decide, by decide⟩ dX1_regenerate_5) [0, 1, 2] [] [0, 1, 2] rfl rfl rfl (by decide) rfl rfl rfl ?_
  refine k_aload_n (n := 9) F dX1_regenerate_8 rfl 0 rfl rfl ?_
  refine k_aload_n (n := 10) F dX1_regenerate_9 rfl 0 rfl rfl ?_
  refine k_get (n := 13) (v := .ref oa) F uX1 0 1 rfl rfl (by decide) mw_126 rfl dX1_regenerate_10 rfl ?_
  refine k_cv (n := 16) (ws' := [(a, .inr (1, [.ref za, .ref oa, .int fl, .int ht])), (za, .inr (0, [.int (stH h0 t0 ht h1), .int (goL h0 l0 t0 ht), .int (stT h0 t0 ht h1)])), (oa, .inr (0, [.int (stH h1 t1 ht (stH h0 t0 ht h1)), .int (goL h1 l1 t1 ht), .int (stT h1 t1 ht (stH h0 t0 ht h1))]))]) F (k_rV (k := 1) (b := a) (As := [.ref oa]) (rest := []) F (c_step1 l g a za oa (stH h0 t0 ht h1) (goL h0 l0 t0 ht) (stT h0 t0 ht h1) h1 l1 t1 fl ht) [0, 1, 2] rfl rfl 0 rfl rfl mw_420 mw_417 mw_419 mw_s9 mw_5 (by decide) ⟨by decide, by decide⟩ rfl (Nat.le_of_ble_eq_true rfl) ⟨by decide, by decide⟩ dX1_regenerate_13) [0, 1, 2] [] [0, 1, 2] rfl rfl rfl (by decide) rfl rfl rfl ?_
  exact k_vret F rfl dX1_regenerate_16
set_option maxRecDepth 100000 in
set_option maxHeartbeats 4000000 in
theorem c_loadOne0 (l : Launch) (g : kG) (a za oa : Nat) (h0 l0 t0 h1 l1 t1 fl ht : Int32) : kM l yX1_loadOne cX1_loadOne 3 (some .boolean) (rmK 1 0 0 21) g [.ref a, .ref za, .ref oa] [(a, .inr (1, [.ref za, .ref oa, .int fl, .int ht])), (za, .inr (0, [.int h0, .int l0, .int t0])), (oa, .inr (0, [.int h1, .int l1, .int t1]))] (kDi g (lnR h0 l0 fl h1) [(a, .inr (1, [.ref za, .ref oa, .int fl, .int ht])), (za, .inr (0, [.int (lnH h0 l0 fl), .int (lnL h0 l0), .int (lnT h0 l0 t0 fl)])), (oa, .inr (0, [.int (lxH h0 l0 fl h1), .int l1, .int (lxT h0 l0 fl h1 t1)]))]) := by
  refine k_enter (by decide) (Nat.le_of_ble_eq_true rfl) ?_
  intro p e s m args below meth c A F
  refine k_aload_n (n := 1) F dX1_loadOne_0 rfl 1 rfl rfl ?_
  refine k_getN (n := 4) (v := .int h0) F uX0 1 0 rfl rfl (by decide) nw_14 rfl dX1_loadOne_1 rfl ?_
  refine k_iconst (n := 5) (v := 1) F dX1_loadOne_4 rfl rfl ?_
  refine k_icmp_eq (n := 8) (tgt := 10) F dX1_loadOne_5 (by decide) rfl (fun hc1 => ?_) (fun hc1 => ?_)
  · refine k_aload_n (n := 11) F dX1_loadOne_10 rfl 1 rfl rfl ?_
    refine k_dup (n := 12) F dX1_loadOne_11 rfl rfl ?_
    refine k_getN (n := 15) (v := .int l0) F uX0 1 1 rfl rfl (by decide) nw_15 rfl dX1_loadOne_12 rfl ?_
    refine k_iconst (n := 16) (v := 1) F dX1_loadOne_15 rfl rfl ?_
    refine k_iadd (n := 17) F dX1_loadOne_16 rfl ?_
    refine k_putN (n := 20) (ws' := [(a, .inr (1, [.ref za, .ref oa, .int fl, .int ht])), (za, .inr (0, [.int h0, .int (l0 + 1), .int t0])), (oa, .inr (0, [.int h1, .int l1, .int t1]))]) F uX0 tyX0_ok nmX0 1 1 rfl rfl (by decide) nw_15 rfl rfl rfl (Nat.le_of_ble_eq_true rfl) rfl dX1_loadOne_17 rfl ?_
    refine k_aload_n (n := 21) F dX1_loadOne_20 rfl 1 rfl rfl ?_
    refine k_getN (n := 24) (v := .int (l0 + 1)) F uX0 1 1 rfl rfl (by decide) nw_15 rfl dX1_loadOne_21 rfl ?_
    refine k_aload_n (n := 25) F dX1_loadOne_24 rfl 0 rfl rfl ?_
    refine k_get (n := 28) (v := .int fl) F uX1 0 2 rfl rfl (by decide) mw_127 rfl dX1_loadOne_25 rfl ?_
    refine k_icmp_ge (n := 31) (tgt := 33) F dX1_loadOne_28 (by decide) rfl (fun hc2 => ?_) (fun hc2 => ?_)
    · refine k_aload_n (n := 34) F dX1_loadOne_33 rfl 1 rfl rfl ?_
      refine k_iconst (n := 35) (v := 2) F dX1_loadOne_34 rfl rfl ?_
      refine k_cv (n := 38) (ws' := [(a, .inr (1, [.ref za, .ref oa, .int fl, .int ht])), (za, .inr (0, [.int 2, .int (l0 + 1), .int 0])), (oa, .inr (0, [.int h1, .int l1, .int t1]))]) F (k_rV (k := 1) (b := za) (As := [.int 2]) (rest := []) F (c_become l g za h0 (l0 + 1) t0 2) [1] rfl rfl 0 rfl rfl mw_428 mw_430 mw_426 mw_427 mw_6 (by decide) ⟨by decide, by decide⟩ rfl (Nat.le_of_ble_eq_true rfl) ⟨by decide, by decide⟩ dX1_loadOne_35) [1] [0, 2] [0, 2, 1] rfl rfl rfl (by decide) rfl rfl rfl ?_
      refine k_aload_n (n := 39) F dX1_loadOne_38 rfl 2 rfl rfl ?_
      refine k_getN (n := 42) (v := .int h1) F uX0 2 0 rfl rfl (by decide) nw_14 rfl dX1_loadOne_39 rfl ?_
      refine k_if_eq (n := 45) (tgt := 47) F dX1_loadOne_42 (by decide) rfl (fun hc3 => ?_) (fun hc3 => ?_)
      · refine k_aload_n (n := 48) F dX1_loadOne_47 rfl 2 rfl rfl ?_
        refine k_iconst (n := 49) (v := 1) F dX1_loadOne_48 rfl rfl ?_
        refine k_cv (n := 52) (ws' := [(a, .inr (1, [.ref za, .ref oa, .int fl, .int ht])), (za, .inr (0, [.int 2, .int (l0 + 1), .int 0])), (oa, .inr (0, [.int 1, .int l1, .int 0]))]) F (k_rV (k := 1) (b := oa) (As := [.int 1]) (rest := []) F (c_become l g oa h1 l1 t1 1) [2] rfl rfl 0 rfl rfl mw_428 mw_430 mw_426 mw_427 mw_6 (by decide) ⟨by decide, by decide⟩ rfl (Nat.le_of_ble_eq_true rfl) ⟨by decide, by decide⟩ dX1_loadOne_49) [2] [0, 1] [0, 1, 2] rfl rfl rfl (by decide) rfl rfl rfl ?_
        refine k_iconst (n := 53) (v := 1) F dX1_loadOne_52 rfl rfl ?_
        exact k_zret F rfl (by first | rfl | (simp [lnR, lnH, lnL, lnT, lxH, lxT, hc1, hc2, Int32.not_lt.mpr hc2, hc3]; done) | (simp_all [lnR, lnH, lnL, lnT, lxH, lxT, hc1, hc2, Int32.not_lt.mpr hc2, hc3]; done)) (by first | rfl | (simp [lnR, lnH, lnL, lnT, lxH, lxT, hc1, hc2, Int32.not_lt.mpr hc2, hc3]; done) | (simp_all [lnR, lnH, lnL, lnT, lxH, lxT, hc1, hc2, Int32.not_lt.mpr hc2, hc3]; done)) dX1_loadOne_53
      · refine k_iconst (n := 46) (v := 0) F dX1_loadOne_45 rfl rfl ?_
        exact k_zret F rfl (by first | rfl | (simp [lnR, lnH, lnL, lnT, lxH, lxT, hc1, hc2, Int32.not_lt.mpr hc2, hc3]; done) | (simp_all [lnR, lnH, lnL, lnT, lxH, lxT, hc1, hc2, Int32.not_lt.mpr hc2, hc3]; done)) (by first | rfl | (simp [lnR, lnH, lnL, lnT, lxH, lxT, hc1, hc2, Int32.not_lt.mpr hc2, hc3]; done) | (simp_all [lnR, lnH, lnL, lnT, lxH, lxT, hc1, hc2, Int32.not_lt.mpr hc2, hc3]; done)) dX1_loadOne_46
    · refine k_iconst (n := 32) (v := 1) F dX1_loadOne_31 rfl rfl ?_
      exact k_zret F rfl (by first | rfl | (simp [lnR, lnH, lnL, lnT, lxH, lxT, hc1, hc2, Int32.not_le.mp hc2]; done) | (simp_all [lnR, lnH, lnL, lnT, lxH, lxT, hc1, hc2, Int32.not_le.mp hc2]; done)) (by first | rfl | (simp [lnR, lnH, lnL, lnT, lxH, lxT, hc1, hc2, Int32.not_le.mp hc2]; done) | (simp_all [lnR, lnH, lnL, lnT, lxH, lxT, hc1, hc2, Int32.not_le.mp hc2]; done)) dX1_loadOne_32
  · refine k_iconst (n := 9) (v := 0) F dX1_loadOne_8 rfl rfl ?_
    exact k_zret F rfl (by first | rfl | (simp [lnR, lnH, lnL, lnT, lxH, lxT, hc1]; done) | (simp_all [lnR, lnH, lnL, lnT, lxH, lxT, hc1]; done)) (by first | rfl | (simp [lnR, lnH, lnL, lnT, lxH, lxT, hc1]; done) | (simp_all [lnR, lnH, lnL, lnT, lxH, lxT, hc1]; done)) dX1_loadOne_9
set_option maxRecDepth 100000 in
set_option maxHeartbeats 4000000 in
theorem c_loadOne1 (l : Launch) (g : kG) (a za oa : Nat) (h0 l0 t0 h1 l1 t1 fl ht : Int32) : kM l yX1_loadOne cX1_loadOne 3 (some .boolean) (rmK 1 0 0 21) g [.ref a, .ref oa, .ref za] [(a, .inr (1, [.ref za, .ref oa, .int fl, .int ht])), (za, .inr (0, [.int h0, .int l0, .int t0])), (oa, .inr (0, [.int h1, .int l1, .int t1]))] (kDi g (lnR h1 l1 fl h0) [(a, .inr (1, [.ref za, .ref oa, .int fl, .int ht])), (za, .inr (0, [.int (lxH h1 l1 fl h0), .int l0, .int (lxT h1 l1 fl h0 t0)])), (oa, .inr (0, [.int (lnH h1 l1 fl), .int (lnL h1 l1), .int (lnT h1 l1 t1 fl)]))]) := by
  refine k_enter (by decide) (Nat.le_of_ble_eq_true rfl) ?_
  intro p e s m args below meth c A F
  refine k_aload_n (n := 1) F dX1_loadOne_0 rfl 1 rfl rfl ?_
  refine k_getN (n := 4) (v := .int h1) F uX0 2 0 rfl rfl (by decide) nw_14 rfl dX1_loadOne_1 rfl ?_
  refine k_iconst (n := 5) (v := 1) F dX1_loadOne_4 rfl rfl ?_
  refine k_icmp_eq (n := 8) (tgt := 10) F dX1_loadOne_5 (by decide) rfl (fun hc1 => ?_) (fun hc1 => ?_)
  · refine k_aload_n (n := 11) F dX1_loadOne_10 rfl 1 rfl rfl ?_
    refine k_dup (n := 12) F dX1_loadOne_11 rfl rfl ?_
    refine k_getN (n := 15) (v := .int l1) F uX0 2 1 rfl rfl (by decide) nw_15 rfl dX1_loadOne_12 rfl ?_
    refine k_iconst (n := 16) (v := 1) F dX1_loadOne_15 rfl rfl ?_
    refine k_iadd (n := 17) F dX1_loadOne_16 rfl ?_
    refine k_putN (n := 20) (ws' := [(a, .inr (1, [.ref za, .ref oa, .int fl, .int ht])), (za, .inr (0, [.int h0, .int l0, .int t0])), (oa, .inr (0, [.int h1, .int (l1 + 1), .int t1]))]) F uX0 tyX0_ok nmX0 2 1 rfl rfl (by decide) nw_15 rfl rfl rfl (Nat.le_of_ble_eq_true rfl) rfl dX1_loadOne_17 rfl ?_
    refine k_aload_n (n := 21) F dX1_loadOne_20 rfl 1 rfl rfl ?_
    refine k_getN (n := 24) (v := .int (l1 + 1)) F uX0 2 1 rfl rfl (by decide) nw_15 rfl dX1_loadOne_21 rfl ?_
    refine k_aload_n (n := 25) F dX1_loadOne_24 rfl 0 rfl rfl ?_
    refine k_get (n := 28) (v := .int fl) F uX1 0 2 rfl rfl (by decide) mw_127 rfl dX1_loadOne_25 rfl ?_
    refine k_icmp_ge (n := 31) (tgt := 33) F dX1_loadOne_28 (by decide) rfl (fun hc2 => ?_) (fun hc2 => ?_)
    · refine k_aload_n (n := 34) F dX1_loadOne_33 rfl 1 rfl rfl ?_
      refine k_iconst (n := 35) (v := 2) F dX1_loadOne_34 rfl rfl ?_
      refine k_cv (n := 38) (ws' := [(a, .inr (1, [.ref za, .ref oa, .int fl, .int ht])), (za, .inr (0, [.int h0, .int l0, .int t0])), (oa, .inr (0, [.int 2, .int (l1 + 1), .int 0]))]) F (k_rV (k := 1) (b := oa) (As := [.int 2]) (rest := []) F (c_become l g oa h1 (l1 + 1) t1 2) [2] rfl rfl 0 rfl rfl mw_428 mw_430 mw_426 mw_427 mw_6 (by decide) ⟨by decide, by decide⟩ rfl (Nat.le_of_ble_eq_true rfl) ⟨by decide, by decide⟩ dX1_loadOne_35) [2] [0, 1] [0, 1, 2] rfl rfl rfl (by decide) rfl rfl rfl ?_
      refine k_aload_n (n := 39) F dX1_loadOne_38 rfl 2 rfl rfl ?_
      refine k_getN (n := 42) (v := .int h0) F uX0 1 0 rfl rfl (by decide) nw_14 rfl dX1_loadOne_39 rfl ?_
      refine k_if_eq (n := 45) (tgt := 47) F dX1_loadOne_42 (by decide) rfl (fun hc3 => ?_) (fun hc3 => ?_)
      · refine k_aload_n (n := 48) F dX1_loadOne_47 rfl 2 rfl rfl ?_
        refine k_iconst (n := 49) (v := 1) F dX1_loadOne_48 rfl rfl ?_
        refine k_cv (n := 52) (ws' := [(a, .inr (1, [.ref za, .ref oa, .int fl, .int ht])), (za, .inr (0, [.int 1, .int l0, .int 0])), (oa, .inr (0, [.int 2, .int (l1 + 1), .int 0]))]) F (k_rV (k := 1) (b := za) (As := [.int 1]) (rest := []) F (c_become l g za h0 l0 t0 1) [1] rfl rfl 0 rfl rfl mw_428 mw_430 mw_426 mw_427 mw_6 (by decide) ⟨by decide, by decide⟩ rfl (Nat.le_of_ble_eq_true rfl) ⟨by decide, by decide⟩ dX1_loadOne_49) [1] [0, 2] [0, 2, 1] rfl rfl rfl (by decide) rfl rfl rfl ?_
        refine k_iconst (n := 53) (v := 1) F dX1_loadOne_52 rfl rfl ?_
        exact k_zret F rfl (by first | rfl | (simp [lnR, lnH, lnL, lnT, lxH, lxT, hc1, hc2, Int32.not_lt.mpr hc2, hc3]; done) | (simp_all [lnR, lnH, lnL, lnT, lxH, lxT, hc1, hc2, Int32.not_lt.mpr hc2, hc3]; done)) (by first | rfl | (simp [lnR, lnH, lnL, lnT, lxH, lxT, hc1, hc2, Int32.not_lt.mpr hc2, hc3]; done) | (simp_all [lnR, lnH, lnL, lnT, lxH, lxT, hc1, hc2, Int32.not_lt.mpr hc2, hc3]; done)) dX1_loadOne_53
      · refine k_iconst (n := 46) (v := 0) F dX1_loadOne_45 rfl rfl ?_
        exact k_zret F rfl (by first | rfl | (simp [lnR, lnH, lnL, lnT, lxH, lxT, hc1, hc2, Int32.not_lt.mpr hc2, hc3]; done) | (simp_all [lnR, lnH, lnL, lnT, lxH, lxT, hc1, hc2, Int32.not_lt.mpr hc2, hc3]; done)) (by first | rfl | (simp [lnR, lnH, lnL, lnT, lxH, lxT, hc1, hc2, Int32.not_lt.mpr hc2, hc3]; done) | (simp_all [lnR, lnH, lnL, lnT, lxH, lxT, hc1, hc2, Int32.not_lt.mpr hc2, hc3]; done)) dX1_loadOne_46
    · refine k_iconst (n := 32) (v := 1) F dX1_loadOne_31 rfl rfl ?_
      exact k_zret F rfl (by first | rfl | (simp [lnR, lnH, lnL, lnT, lxH, lxT, hc1, hc2, Int32.not_le.mp hc2]; done) | (simp_all [lnR, lnH, lnL, lnT, lxH, lxT, hc1, hc2, Int32.not_le.mp hc2]; done)) (by first | rfl | (simp [lnR, lnH, lnL, lnT, lxH, lxT, hc1, hc2, Int32.not_le.mp hc2]; done) | (simp_all [lnR, lnH, lnL, lnT, lxH, lxT, hc1, hc2, Int32.not_le.mp hc2]; done)) dX1_loadOne_32
  · refine k_iconst (n := 9) (v := 0) F dX1_loadOne_8 rfl rfl ?_
    exact k_zret F rfl (by first | rfl | (simp [lnR, lnH, lnL, lnT, lxH, lxT, hc1]; done) | (simp_all [lnR, lnH, lnL, lnT, lxH, lxT, hc1]; done)) (by first | rfl | (simp [lnR, lnH, lnL, lnT, lxH, lxT, hc1]; done) | (simp_all [lnR, lnH, lnL, lnT, lxH, lxT, hc1]; done)) dX1_loadOne_9
set_option maxRecDepth 100000 in
set_option maxHeartbeats 4000000 in
theorem c_load (l : Launch) (g : kG) (a za oa : Nat) (h0 l0 t0 h1 l1 t1 fl ht : Int32) : kM l yX1_load cX1_load 1 (some .boolean) (rmK 2 0 0 43) g [.ref a] [(a, .inr (1, [.ref za, .ref oa, .int fl, .int ht])), (za, .inr (0, [.int h0, .int l0, .int t0])), (oa, .inr (0, [.int h1, .int l1, .int t1]))] (kDi g (ldR h0 l0 h1 l1 fl) [(a, .inr (1, [.ref za, .ref oa, .int fl, .int ht])), (za, .inr (0, [.int (ldH0 h0 l0 h1 l1 fl), .int (ldL0 h0 l0), .int (ldT0 h0 l0 t0 h1 l1 fl)])), (oa, .inr (0, [.int (ldH1 h0 l0 h1 l1 fl), .int (ldL1 h0 h1 l1), .int (ldT1 h0 l0 h1 l1 t1 fl)]))]) := by
  refine k_enter (by decide) (Nat.le_of_ble_eq_true rfl) ?_
  intro p e s m args below meth c A F
  refine k_aload_n (n := 1) F dX1_load_0 rfl 0 rfl rfl ?_
  refine k_get (n := 4) (v := .ref za) F uX1 0 0 rfl rfl (by decide) mw_125 rfl dX1_load_1 rfl ?_
  refine k_getN (n := 7) (v := .int h0) F uX0 1 0 rfl rfl (by decide) nw_14 rfl dX1_load_4 rfl ?_
  refine k_iconst (n := 8) (v := 1) F dX1_load_7 rfl rfl ?_
  refine k_icmp_ne (n := 11) (tgt := 26) F dX1_load_8 (by decide) rfl (fun hc1 => ?_) (fun hc1 => ?_)
  · refine k_aload_n (n := 27) F dX1_load_26 rfl 0 rfl rfl ?_
    refine k_aload_n (n := 28) F dX1_load_27 rfl 0 rfl rfl ?_
    refine k_get (n := 31) (v := .ref oa) F uX1 0 1 rfl rfl (by decide) mw_126 rfl dX1_load_28 rfl ?_
    refine k_aload_n (n := 32) F dX1_load_31 rfl 0 rfl rfl ?_
    refine k_get (n := 35) (v := .ref za) F uX1 0 0 rfl rfl (by decide) mw_125 rfl dX1_load_32 rfl ?_
    refine k_ci (n := 38) (ws' := [(a, .inr (1, [.ref za, .ref oa, .int fl, .int ht])), (za, .inr (0, [.int (lxH h1 l1 fl h0), .int l0, .int (lxT h1 l1 fl h0 t0)])), (oa, .inr (0, [.int (lnH h1 l1 fl), .int (lnL h1 l1), .int (lnT h1 l1 t1 fl)]))]) F (k_rV (k := 2) (b := a) (As := [.ref oa, .ref za]) (rest := []) F (c_loadOne1 l g a za oa h0 l0 t0 h1 l1 t1 fl ht) [0, 1, 2] rfl rfl 0 rfl rfl mw_474 mw_471 mw_473 mw_s14 mw_5 (by decide) ⟨by decide, by decide⟩ rfl (Nat.le_of_ble_eq_true rfl) ⟨by decide, by decide⟩ dX1_load_35) [0, 1, 2] [] [0, 1, 2] rfl rfl rfl (by decide) rfl rfl rfl ?_
    exact k_zret F (kZn (lnR_b _ _ _ _)) (by first | rfl | (simp [ldR, ldH0, ldL0, ldT0, ldH1, ldL1, ldT1, hc1]; done) | (simp_all [ldR, ldH0, ldL0, ldT0, ldH1, ldL1, ldT1, hc1]; done)) (by first | rfl | (simp [ldR, ldH0, ldL0, ldT0, ldH1, ldL1, ldT1, hc1]; done) | (simp_all [ldR, ldH0, ldL0, ldT0, ldH1, ldL1, ldT1, hc1]; done)) dX1_load_38
  · refine k_aload_n (n := 12) F dX1_load_11 rfl 0 rfl rfl ?_
    refine k_aload_n (n := 13) F dX1_load_12 rfl 0 rfl rfl ?_
    refine k_get (n := 16) (v := .ref za) F uX1 0 0 rfl rfl (by decide) mw_125 rfl dX1_load_13 rfl ?_
    refine k_aload_n (n := 17) F dX1_load_16 rfl 0 rfl rfl ?_
    refine k_get (n := 20) (v := .ref oa) F uX1 0 1 rfl rfl (by decide) mw_126 rfl dX1_load_17 rfl ?_
    refine k_ci (n := 23) (ws' := [(a, .inr (1, [.ref za, .ref oa, .int fl, .int ht])), (za, .inr (0, [.int (lnH h0 l0 fl), .int (lnL h0 l0), .int (lnT h0 l0 t0 fl)])), (oa, .inr (0, [.int (lxH h0 l0 fl h1), .int l1, .int (lxT h0 l0 fl h1 t1)]))]) F (k_rV (k := 2) (b := a) (As := [.ref za, .ref oa]) (rest := []) F (c_loadOne0 l g a za oa h0 l0 t0 h1 l1 t1 fl ht) [0, 1, 2] rfl rfl 0 rfl rfl mw_474 mw_471 mw_473 mw_s14 mw_5 (by decide) ⟨by decide, by decide⟩ rfl (Nat.le_of_ble_eq_true rfl) ⟨by decide, by decide⟩ dX1_load_20) [0, 1, 2] [] [0, 1, 2] rfl rfl rfl (by decide) rfl rfl rfl ?_
    refine k_goto (tgt := 38) F dX1_load_23 (by decide) ?_
    exact k_zret F (kZn (lnR_b _ _ _ _)) (by first | rfl | (simp [ldR, ldH0, ldL0, ldT0, ldH1, ldL1, ldT1, hc1]; done) | (simp_all [ldR, ldH0, ldL0, ldT0, ldH1, ldL1, ldT1, hc1]; done)) (by first | rfl | (simp [ldR, ldH0, ldL0, ldT0, ldH1, ldL1, ldT1, hc1]; done) | (simp_all [ldR, ldH0, ldL0, ldT0, ldH1, ldL1, ldT1, hc1]; done)) dX1_load_38
set_option maxRecDepth 100000 in
set_option maxHeartbeats 4000000 in
theorem c_tell (l : Launch) (g : kG) (a za oa : Nat) (h0 l0 t0 h1 l1 t1 fl ht x wh : Int32) : kM l yX1_tell cX1_tell 3 (some .int) (rmK 1 0 0 21) g [.ref a, .int x, .int wh] [(a, .inr (1, [.ref za, .ref oa, .int fl, .int ht])), (za, .inr (0, [.int h0, .int l0, .int t0])), (oa, .inr (0, [.int h1, .int l1, .int t1]))] (kDi g (adR h0 l0 t0 h1 l1 t1 x wh) [(a, .inr (1, [.ref za, .ref oa, .int fl, .int ht])), (za, .inr (0, [.int h0, .int l0, .int t0])), (oa, .inr (0, [.int h1, .int l1, .int t1]))]) := by
  refine k_enter (by decide) (Nat.le_of_ble_eq_true rfl) ?_
  intro p e s m args below meth c A F
  refine k_iload_n (n := 1) F dX1_tell_0 rfl 1 rfl rfl ?_
  by_cases hc1 : x = 0
  · refine k_lookup (off := 27) (tgt := 28) F dX1_tell_1 (by decide) (by rw [hc1]; rfl) (by decide) ?_
    refine k_aload_n (n := 29) F dX1_tell_28 rfl 0 rfl rfl ?_
    refine k_get (n := 32) (v := .ref za) F uX1 0 0 rfl rfl (by decide) mw_125 rfl dX1_tell_29 rfl ?_
    refine k_iload_n (n := 33) F dX1_tell_32 rfl 2 rfl rfl ?_
    refine k_ciR (n := 36) F (k_rV (k := 1) (b := za) (As := [.int wh]) (rest := []) F (c_fact l g za h0 l0 t0 wh) [1] rfl rfl 0 rfl rfl mw_486 mw_483 mw_484 mw_485 mw_6 (by decide) ⟨by decide, by decide⟩ rfl (Nat.le_of_ble_eq_true rfl) ⟨by decide, by decide⟩ dX1_tell_33) [1] rfl rfl ?_
    exact k_iret F (by first | rfl | (simp [adR, hc1]; done) | (simp_all [adR, hc1]; done)) (by first | rfl | (simp [adR, hc1]; done) | (simp_all [adR, hc1]; done)) dX1_tell_36
  by_cases hc2 : x = 1
  · refine k_lookup (off := 36) (tgt := 37) F dX1_tell_1 (by decide) (by rw [hc2]; rfl) (by decide) ?_
    refine k_aload_n (n := 38) F dX1_tell_37 rfl 0 rfl rfl ?_
    refine k_get (n := 41) (v := .ref oa) F uX1 0 1 rfl rfl (by decide) mw_126 rfl dX1_tell_38 rfl ?_
    refine k_iload_n (n := 42) F dX1_tell_41 rfl 2 rfl rfl ?_
    refine k_ciR (n := 45) F (k_rV (k := 1) (b := oa) (As := [.int wh]) (rest := []) F (c_fact l g oa h1 l1 t1 wh) [2] rfl rfl 0 rfl rfl mw_486 mw_483 mw_484 mw_485 mw_6 (by decide) ⟨by decide, by decide⟩ rfl (Nat.le_of_ble_eq_true rfl) ⟨by decide, by decide⟩ dX1_tell_42) [2] rfl rfl ?_
    exact k_iret F (by first | rfl | (simp [adR, hc1, hc2]; done) | (simp_all [adR, hc1, hc2]; done)) (by first | rfl | (simp [adR, hc1, hc2]; done) | (simp_all [adR, hc1, hc2]; done)) dX1_tell_45
  refine k_lookup (off := 45) (tgt := 46) F dX1_tell_1 (by decide) (by show Op.lookupswitch.offset [(0, 27), (1, 36)] 45 _ = _; rw [lv_osw hc1 (show (0 : Int32).toInt = 0 from rfl), lv_osw hc2 (show (1 : Int32).toInt = 1 from rfl)]; rfl) (by decide) ?_
  refine k_iconst (n := 47) (v := -1) F dX1_tell_46 rfl rfl ?_
  exact k_iret F (by first | rfl | (simp [adR, hc1, hc2]; done) | (simp_all [adR, hc1, hc2]; done)) (by first | rfl | (simp [adR, hc1, hc2]; done) | (simp_all [adR, hc1, hc2]; done)) dX1_tell_47
set_option maxRecDepth 100000 in
set_option maxHeartbeats 4000000 in
theorem c_thCold_0 (l : Launch) (g : kG) (a : Nat) (d : Int32) : kM l yX7_coldAt cX7_coldAt 2 (some .int) (rmK 0 0 0 0) g [.ref a, .int d] [(a, .inr (7, []))] (kDi g (d / 4) [(a, .inr (7, []))]) := by
  refine k_enter (by decide) (Nat.le_of_ble_eq_true rfl) ?_
  intro p e s m args below meth c A F
  refine k_iload_n (n := 1) F dX7_coldAt_0 rfl 1 rfl rfl ?_
  refine k_iconst (n := 2) (v := 4) F dX7_coldAt_1 rfl rfl ?_
  refine k_idiv (n := 3) F dX7_coldAt_2 (by decide) rfl ?_
  exact k_iret F rfl rfl dX7_coldAt_3
set_option maxRecDepth 100000 in
set_option maxHeartbeats 4000000 in
theorem c_thCold_1 (l : Launch) (g : kG) (a q : Nat) (f : Nat → Int32) (d : Int32) : kM l yX7_coldAt cX7_coldAt 2 (some .int) (rmK 0 0 0 0) g [.ref a, .int d] [(a, .inr (8, [.ref q])), (q, .inl (g.2 0, 5, .inl f))] (kDi g (d / 4) [(a, .inr (8, [.ref q])), (q, .inl (g.2 0, 5, .inl f))]) := by
  refine k_enter (by decide) (Nat.le_of_ble_eq_true rfl) ?_
  intro p e s m args below meth c A F
  refine k_iload_n (n := 1) F dX7_coldAt_0 rfl 1 rfl rfl ?_
  refine k_iconst (n := 2) (v := 4) F dX7_coldAt_1 rfl rfl ?_
  refine k_idiv (n := 3) F dX7_coldAt_2 (by decide) rfl ?_
  exact k_iret F rfl rfl dX7_coldAt_3
set_option maxRecDepth 100000 in
set_option maxHeartbeats 4000000 in
theorem c_thCold_2 (l : Launch) (g : kG) (a q : Nat) (f : Nat → Int32) (lim : Int32) (d : Int32) : kM l yX7_coldAt cX7_coldAt 2 (some .int) (rmK 0 0 0 0) g [.ref a, .int d] [(a, .inr (2, [.ref q, .int lim])), (q, .inl (g.2 0, 5, .inl f))] (kDi g (d / 4) [(a, .inr (2, [.ref q, .int lim])), (q, .inl (g.2 0, 5, .inl f))]) := by
  refine k_enter (by decide) (Nat.le_of_ble_eq_true rfl) ?_
  intro p e s m args below meth c A F
  refine k_iload_n (n := 1) F dX7_coldAt_0 rfl 1 rfl rfl ?_
  refine k_iconst (n := 2) (v := 4) F dX7_coldAt_1 rfl rfl ?_
  refine k_idiv (n := 3) F dX7_coldAt_2 (by decide) rfl ?_
  exact k_iret F rfl rfl dX7_coldAt_3
set_option maxRecDepth 100000 in
set_option maxHeartbeats 4000000 in
theorem c_thTrace_0 (l : Launch) (g : kG) (a : Nat) : kM l yX7_traceWeight cX7_traceWeight 1 (some .int) (rmK 0 0 0 0) g [.ref a] [(a, .inr (7, []))] (kDi g 1 [(a, .inr (7, []))]) := by
  refine k_enter (by decide) (Nat.le_of_ble_eq_true rfl) ?_
  intro p e s m args below meth c A F
  refine k_iconst (n := 1) (v := 1) F dX7_traceWeight_0 rfl rfl ?_
  exact k_iret F rfl rfl dX7_traceWeight_1
set_option maxRecDepth 100000 in
set_option maxHeartbeats 4000000 in
theorem c_thTrace_1 (l : Launch) (g : kG) (a q : Nat) (f : Nat → Int32) : kM l yX7_traceWeight cX7_traceWeight 1 (some .int) (rmK 0 0 0 0) g [.ref a] [(a, .inr (8, [.ref q])), (q, .inl (g.2 0, 5, .inl f))] (kDi g 1 [(a, .inr (8, [.ref q])), (q, .inl (g.2 0, 5, .inl f))]) := by
  refine k_enter (by decide) (Nat.le_of_ble_eq_true rfl) ?_
  intro p e s m args below meth c A F
  refine k_iconst (n := 1) (v := 1) F dX7_traceWeight_0 rfl rfl ?_
  exact k_iret F rfl rfl dX7_traceWeight_1
set_option maxRecDepth 100000 in
set_option maxHeartbeats 4000000 in
theorem c_thTrace_2 (l : Launch) (g : kG) (a q : Nat) (f : Nat → Int32) (lim : Int32) : kM l yX7_traceWeight cX7_traceWeight 1 (some .int) (rmK 0 0 0 0) g [.ref a] [(a, .inr (2, [.ref q, .int lim])), (q, .inl (g.2 0, 5, .inl f))] (kDi g 1 [(a, .inr (2, [.ref q, .int lim])), (q, .inl (g.2 0, 5, .inl f))]) := by
  refine k_enter (by decide) (Nat.le_of_ble_eq_true rfl) ?_
  intro p e s m args below meth c A F
  refine k_iconst (n := 1) (v := 1) F dX7_traceWeight_0 rfl rfl ?_
  exact k_iret F rfl rfl dX7_traceWeight_1
set_option maxRecDepth 100000 in
set_option maxHeartbeats 4000000 in
theorem c_corner_1 (l : Launch) (g : kG) (a q : Nat) (f : Nat → Int32) (x : Int32) : kM l yX8_corner cX8_corner 2 (some .int) (rmK 0 0 0 0) g [.ref a, .int x] [(a, .inr (8, [.ref q])), (q, .inl (g.2 0, 5, .inl f))] (kDi g (kcn f x) [(a, .inr (8, [.ref q])), (q, .inl (g.2 0, 5, .inl f))]) := by
  refine k_enter (by decide) (Nat.le_of_ble_eq_true rfl) ?_
  intro p e s m args below meth c A F
  refine k_iload_n (n := 1) F dX8_corner_0 rfl 1 rfl rfl ?_
  refine k_if_lt (n := 4) (tgt := 22) F dX8_corner_1 (by decide) rfl (fun hc1 => ?_) (fun hc1 => ?_)
  · refine k_iconst (n := 23) (v := 0) F dX8_corner_22 rfl rfl ?_
    exact k_iret F (by first | rfl | (simp [kcn, hc1, Int32.not_le.mpr hc1]; done) | (simp_all [kcn, hc1, Int32.not_le.mpr hc1]; done)) (by first | rfl | (simp [kcn, hc1, Int32.not_le.mpr hc1]; done) | (simp_all [kcn, hc1, Int32.not_le.mpr hc1]; done)) dX8_corner_23
  · refine k_iload_n (n := 5) F dX8_corner_4 rfl 1 rfl rfl ?_
    refine k_aload_n (n := 6) F dX8_corner_5 rfl 0 rfl rfl ?_
    refine k_get (n := 9) (v := .ref q) F uX8 0 0 rfl rfl (by decide) mw_262 rfl dX8_corner_6 rfl ?_
    refine k_alen (n := 10) (v := 5) F 1 rfl rfl dX8_corner_9 rfl ?_
    refine k_icmp_ge (n := 13) (tgt := 22) F dX8_corner_10 (by decide) rfl (fun hc2 => ?_) (fun hc2 => ?_)
    · refine k_iconst (n := 23) (v := 0) F dX8_corner_22 rfl rfl ?_
      exact k_iret F (by first | rfl | (simp [kcn, hc1, Int32.not_lt.mp hc1, hc2, Int32.not_lt.mpr hc2]; done) | (simp_all [kcn, hc1, Int32.not_lt.mp hc1, hc2, Int32.not_lt.mpr hc2]; done)) (by first | rfl | (simp [kcn, hc1, Int32.not_lt.mp hc1, hc2, Int32.not_lt.mpr hc2]; done) | (simp_all [kcn, hc1, Int32.not_lt.mp hc1, hc2, Int32.not_lt.mpr hc2]; done)) dX8_corner_23
    · refine k_aload_n (n := 14) F dX8_corner_13 rfl 0 rfl rfl ?_
      refine k_get (n := 17) (v := .ref q) F uX8 0 0 rfl rfl (by decide) mw_262 rfl dX8_corner_14 rfl ?_
      refine k_iload_n (n := 18) F dX8_corner_17 rfl 1 rfl rfl ?_
      refine k_iald (n := 19) (N := x.toNatClampNeg) F 1 rfl (kcn_ix hc1 hc2) dX8_corner_18 rfl ?_
      refine k_goto (tgt := 23) F dX8_corner_19 (by decide) ?_
      exact k_iret F (by first | rfl | (simp [kcn, hc1, Int32.not_lt.mp hc1, hc2, Int32.not_le.mp hc2]; done) | (simp_all [kcn, hc1, Int32.not_lt.mp hc1, hc2, Int32.not_le.mp hc2]; done)) (by first | rfl | (simp [kcn, hc1, Int32.not_lt.mp hc1, hc2, Int32.not_le.mp hc2]; done) | (simp_all [kcn, hc1, Int32.not_lt.mp hc1, hc2, Int32.not_le.mp hc2]; done)) dX8_corner_23
set_option maxRecDepth 100000 in
set_option maxHeartbeats 4000000 in
theorem c_corner_2 (l : Launch) (g : kG) (a q : Nat) (f : Nat → Int32) (lim : Int32) (x : Int32) : kM l yX8_corner cX8_corner 2 (some .int) (rmK 0 0 0 0) g [.ref a, .int x] [(a, .inr (2, [.ref q, .int lim])), (q, .inl (g.2 0, 5, .inl f))] (kDi g (kcn f x) [(a, .inr (2, [.ref q, .int lim])), (q, .inl (g.2 0, 5, .inl f))]) := by
  refine k_enter (by decide) (Nat.le_of_ble_eq_true rfl) ?_
  intro p e s m args below meth c A F
  refine k_iload_n (n := 1) F dX8_corner_0 rfl 1 rfl rfl ?_
  refine k_if_lt (n := 4) (tgt := 22) F dX8_corner_1 (by decide) rfl (fun hc1 => ?_) (fun hc1 => ?_)
  · refine k_iconst (n := 23) (v := 0) F dX8_corner_22 rfl rfl ?_
    exact k_iret F (by first | rfl | (simp [kcn, hc1, Int32.not_le.mpr hc1]; done) | (simp_all [kcn, hc1, Int32.not_le.mpr hc1]; done)) (by first | rfl | (simp [kcn, hc1, Int32.not_le.mpr hc1]; done) | (simp_all [kcn, hc1, Int32.not_le.mpr hc1]; done)) dX8_corner_23
  · refine k_iload_n (n := 5) F dX8_corner_4 rfl 1 rfl rfl ?_
    refine k_aload_n (n := 6) F dX8_corner_5 rfl 0 rfl rfl ?_
    refine k_get (n := 9) (v := .ref q) F uX2 0 0 rfl rfl (by decide) mw_262 rfl dX8_corner_6 rfl ?_
    refine k_alen (n := 10) (v := 5) F 1 rfl rfl dX8_corner_9 rfl ?_
    refine k_icmp_ge (n := 13) (tgt := 22) F dX8_corner_10 (by decide) rfl (fun hc2 => ?_) (fun hc2 => ?_)
    · refine k_iconst (n := 23) (v := 0) F dX8_corner_22 rfl rfl ?_
      exact k_iret F (by first | rfl | (simp [kcn, hc1, Int32.not_lt.mp hc1, hc2, Int32.not_lt.mpr hc2]; done) | (simp_all [kcn, hc1, Int32.not_lt.mp hc1, hc2, Int32.not_lt.mpr hc2]; done)) (by first | rfl | (simp [kcn, hc1, Int32.not_lt.mp hc1, hc2, Int32.not_lt.mpr hc2]; done) | (simp_all [kcn, hc1, Int32.not_lt.mp hc1, hc2, Int32.not_lt.mpr hc2]; done)) dX8_corner_23
    · refine k_aload_n (n := 14) F dX8_corner_13 rfl 0 rfl rfl ?_
      refine k_get (n := 17) (v := .ref q) F uX2 0 0 rfl rfl (by decide) mw_262 rfl dX8_corner_14 rfl ?_
      refine k_iload_n (n := 18) F dX8_corner_17 rfl 1 rfl rfl ?_
      refine k_iald (n := 19) (N := x.toNatClampNeg) F 1 rfl (kcn_ix hc1 hc2) dX8_corner_18 rfl ?_
      refine k_goto (tgt := 23) F dX8_corner_19 (by decide) ?_
      exact k_iret F (by first | rfl | (simp [kcn, hc1, Int32.not_lt.mp hc1, hc2, Int32.not_le.mp hc2]; done) | (simp_all [kcn, hc1, Int32.not_lt.mp hc1, hc2, Int32.not_le.mp hc2]; done)) (by first | rfl | (simp [kcn, hc1, Int32.not_lt.mp hc1, hc2, Int32.not_le.mp hc2]; done) | (simp_all [kcn, hc1, Int32.not_lt.mp hc1, hc2, Int32.not_le.mp hc2]; done)) dX8_corner_23
set_option maxRecDepth 100000 in
set_option maxHeartbeats 4000000 in
theorem c_whCold_1 (l : Launch) (g : kG) (a q : Nat) (f : Nat → Int32) (d : Int32) : kM l yX8_coldAt cX8_coldAt 4 (some .int) (rmK 1 0 0 21) g [.ref a, .int d] [(a, .inr (8, [.ref q])), (q, .inl (g.2 0, 5, .inl f))] (kDi g (kwc f d) [(a, .inr (8, [.ref q])), (q, .inl (g.2 0, 5, .inl f))]) := by
  refine k_enter (by decide) (Nat.le_of_ble_eq_true rfl) ?_
  intro p e s m args below meth c A F
  refine k_iload_n (n := 1) F dX8_coldAt_0 rfl 1 rfl rfl ?_
  refine k_bipush (n := 3) (v := 10) F dX8_coldAt_1 rfl rfl ?_
  refine k_idiv (n := 4) F dX8_coldAt_3 (by decide) rfl ?_
  refine k_istore_n (n := 5) (lv' := [(2, .int (d / 10)), (0, .ref a), (1, .int d)]) F dX8_coldAt_4 rfl (by decide) rfl rfl ?_
  refine k_iload_n (n := 6) F dX8_coldAt_5 rfl 2 rfl rfl ?_
  refine k_bipush (n := 8) (v := 10) F dX8_coldAt_6 rfl rfl ?_
  refine k_irem (n := 9) F dX8_coldAt_8 (by decide) rfl ?_
  refine k_istore_n (n := 10) (lv' := [(3, .int (d - d / 10 * 10)), (2, .int (d / 10)), (0, .ref a), (1, .int d)]) F dX8_coldAt_9 rfl (by decide) rfl rfl ?_
  refine k_aload_n (n := 11) F dX8_coldAt_10 rfl 2 rfl rfl ?_
  refine k_iload_n (n := 12) F dX8_coldAt_11 rfl 3 rfl rfl ?_
  refine k_ciR (n := 15) F (k_rSU (k := 1) (b := a) (As := [.int d]) (rest := []) F (c_thCold_1 l g a q f d) [0, 1] rfl rfl 0 rfl rfl mw_329 mw_320 mw_313 mw_265 mw_311 mw_10 (by decide) (by decide) ⟨by decide, by decide⟩ rfl (Nat.le_of_ble_eq_true rfl) ⟨by decide, by decide⟩ dX8_coldAt_12) [0, 1] rfl rfl ?_
  refine k_bipush (n := 17) (v := 10) F dX8_coldAt_15 rfl rfl ?_
  refine k_iload_n (n := 18) F dX8_coldAt_17 rfl 0 rfl rfl ?_
  refine k_isub (n := 19) F dX8_coldAt_18 rfl ?_
  refine k_aload_n (n := 20) F dX8_coldAt_19 rfl 2 rfl rfl ?_
  refine k_iload_n (n := 21) F dX8_coldAt_20 rfl 1 rfl rfl ?_
  refine k_ciR (n := 24) F (k_rV (k := 1) (b := a) (As := [.int (d / 10)]) (rest := [.int (10 - (d - d / 10 * 10)), .int (d / 4)]) F (c_corner_1 l g a q f (d / 10)) [0, 1] rfl rfl 0 rfl rfl mw_324 mw_321 mw_323 mw_s4 mw_11 (by decide) ⟨by decide, by decide⟩ rfl (Nat.le_of_ble_eq_true rfl) ⟨by decide, by decide⟩ dX8_coldAt_21) [0, 1] rfl rfl ?_
  refine k_imul (n := 25) F dX8_coldAt_24 rfl ?_
  refine k_iload_n (n := 26) F dX8_coldAt_25 rfl 0 rfl rfl ?_
  refine k_aload_n (n := 27) F dX8_coldAt_26 rfl 2 rfl rfl ?_
  refine k_iload_n (n := 28) F dX8_coldAt_27 rfl 1 rfl rfl ?_
  refine k_iconst (n := 29) (v := 1) F dX8_coldAt_28 rfl rfl ?_
  refine k_iadd (n := 30) F dX8_coldAt_29 rfl ?_
  refine k_ciR (n := 33) F (k_rV (k := 1) (b := a) (As := [.int ((d / 10) + 1)]) (rest := [.int (d - d / 10 * 10), .int ((10 - (d - d / 10 * 10)) * (kcn f (d / 10))), .int (d / 4)]) F (c_corner_1 l g a q f ((d / 10) + 1)) [0, 1] rfl rfl 0 rfl rfl mw_324 mw_321 mw_323 mw_s4 mw_11 (by decide) ⟨by decide, by decide⟩ rfl (Nat.le_of_ble_eq_true rfl) ⟨by decide, by decide⟩ dX8_coldAt_30) [0, 1] rfl rfl ?_
  refine k_imul (n := 34) F dX8_coldAt_33 rfl ?_
  refine k_iadd (n := 35) F dX8_coldAt_34 rfl ?_
  refine k_bipush (n := 37) (v := 10) F dX8_coldAt_35 rfl rfl ?_
  refine k_idiv (n := 38) F dX8_coldAt_37 (by decide) rfl ?_
  refine k_iadd (n := 39) F dX8_coldAt_38 rfl ?_
  exact k_iret F (by first | rfl | (simp [kwc]; done) | (simp_all [kwc]; done)) (by first | rfl | (simp [kwc]; done) | (simp_all [kwc]; done)) dX8_coldAt_39
set_option maxRecDepth 100000 in
set_option maxHeartbeats 4000000 in
theorem c_whCold_2 (l : Launch) (g : kG) (a q : Nat) (f : Nat → Int32) (lim : Int32) (d : Int32) : kM l yX8_coldAt cX8_coldAt 4 (some .int) (rmK 1 0 0 21) g [.ref a, .int d] [(a, .inr (2, [.ref q, .int lim])), (q, .inl (g.2 0, 5, .inl f))] (kDi g (kwc f d) [(a, .inr (2, [.ref q, .int lim])), (q, .inl (g.2 0, 5, .inl f))]) := by
  refine k_enter (by decide) (Nat.le_of_ble_eq_true rfl) ?_
  intro p e s m args below meth c A F
  refine k_iload_n (n := 1) F dX8_coldAt_0 rfl 1 rfl rfl ?_
  refine k_bipush (n := 3) (v := 10) F dX8_coldAt_1 rfl rfl ?_
  refine k_idiv (n := 4) F dX8_coldAt_3 (by decide) rfl ?_
  refine k_istore_n (n := 5) (lv' := [(2, .int (d / 10)), (0, .ref a), (1, .int d)]) F dX8_coldAt_4 rfl (by decide) rfl rfl ?_
  refine k_iload_n (n := 6) F dX8_coldAt_5 rfl 2 rfl rfl ?_
  refine k_bipush (n := 8) (v := 10) F dX8_coldAt_6 rfl rfl ?_
  refine k_irem (n := 9) F dX8_coldAt_8 (by decide) rfl ?_
  refine k_istore_n (n := 10) (lv' := [(3, .int (d - d / 10 * 10)), (2, .int (d / 10)), (0, .ref a), (1, .int d)]) F dX8_coldAt_9 rfl (by decide) rfl rfl ?_
  refine k_aload_n (n := 11) F dX8_coldAt_10 rfl 2 rfl rfl ?_
  refine k_iload_n (n := 12) F dX8_coldAt_11 rfl 3 rfl rfl ?_
  refine k_ciR (n := 15) F (k_rSU (k := 1) (b := a) (As := [.int d]) (rest := []) F (c_thCold_2 l g a q f lim d) [0, 1] rfl rfl 0 rfl rfl mw_329 mw_320 mw_313 mw_265 mw_311 mw_10 (by decide) (by decide) ⟨by decide, by decide⟩ rfl (Nat.le_of_ble_eq_true rfl) ⟨by decide, by decide⟩ dX8_coldAt_12) [0, 1] rfl rfl ?_
  refine k_bipush (n := 17) (v := 10) F dX8_coldAt_15 rfl rfl ?_
  refine k_iload_n (n := 18) F dX8_coldAt_17 rfl 0 rfl rfl ?_
  refine k_isub (n := 19) F dX8_coldAt_18 rfl ?_
  refine k_aload_n (n := 20) F dX8_coldAt_19 rfl 2 rfl rfl ?_
  refine k_iload_n (n := 21) F dX8_coldAt_20 rfl 1 rfl rfl ?_
  refine k_ciR (n := 24) F (k_rV (k := 1) (b := a) (As := [.int (d / 10)]) (rest := [.int (10 - (d - d / 10 * 10)), .int (d / 4)]) F (c_corner_2 l g a q f lim (d / 10)) [0, 1] rfl rfl 0 rfl rfl mw_324 mw_321 mw_323 mw_x mw_11 (by decide) ⟨by decide, by decide⟩ rfl (Nat.le_of_ble_eq_true rfl) ⟨by decide, by decide⟩ dX8_coldAt_21) [0, 1] rfl rfl ?_
  refine k_imul (n := 25) F dX8_coldAt_24 rfl ?_
  refine k_iload_n (n := 26) F dX8_coldAt_25 rfl 0 rfl rfl ?_
  refine k_aload_n (n := 27) F dX8_coldAt_26 rfl 2 rfl rfl ?_
  refine k_iload_n (n := 28) F dX8_coldAt_27 rfl 1 rfl rfl ?_
  refine k_iconst (n := 29) (v := 1) F dX8_coldAt_28 rfl rfl ?_
  refine k_iadd (n := 30) F dX8_coldAt_29 rfl ?_
  refine k_ciR (n := 33) F (k_rV (k := 1) (b := a) (As := [.int ((d / 10) + 1)]) (rest := [.int (d - d / 10 * 10), .int ((10 - (d - d / 10 * 10)) * (kcn f (d / 10))), .int (d / 4)]) F (c_corner_2 l g a q f lim ((d / 10) + 1)) [0, 1] rfl rfl 0 rfl rfl mw_324 mw_321 mw_323 mw_x mw_11 (by decide) ⟨by decide, by decide⟩ rfl (Nat.le_of_ble_eq_true rfl) ⟨by decide, by decide⟩ dX8_coldAt_30) [0, 1] rfl rfl ?_
  refine k_imul (n := 34) F dX8_coldAt_33 rfl ?_
  refine k_iadd (n := 35) F dX8_coldAt_34 rfl ?_
  refine k_bipush (n := 37) (v := 10) F dX8_coldAt_35 rfl rfl ?_
  refine k_idiv (n := 38) F dX8_coldAt_37 (by decide) rfl ?_
  refine k_iadd (n := 39) F dX8_coldAt_38 rfl ?_
  exact k_iret F (by first | rfl | (simp [kwc]; done) | (simp_all [kwc]; done)) (by first | rfl | (simp [kwc]; done) | (simp_all [kwc]; done)) dX8_coldAt_39
set_option maxRecDepth 100000 in
set_option maxHeartbeats 4000000 in
theorem c_whTrace_1 (l : Launch) (g : kG) (a q : Nat) (f : Nat → Int32) : kM l yX8_traceWeight cX8_traceWeight 1 (some .int) (rmK 1 0 0 20) g [.ref a] [(a, .inr (8, [.ref q])), (q, .inl (g.2 0, 5, .inl f))] (kDi g 11 [(a, .inr (8, [.ref q])), (q, .inl (g.2 0, 5, .inl f))]) := by
  refine k_enter (by decide) (Nat.le_of_ble_eq_true rfl) ?_
  intro p e s m args below meth c A F
  refine k_aload_n (n := 1) F dX8_traceWeight_0 rfl 0 rfl rfl ?_
  refine k_ciR (n := 4) F (k_rSU (k := 0) (b := a) (As := []) (rest := []) F (c_thTrace_1 l g a q f) [0, 1] rfl rfl 0 rfl rfl mw_305 mw_303 mw_296 mw_265 mw_294 mw_10 (by decide) (by decide) ⟨by decide, by decide⟩ rfl (Nat.le_of_ble_eq_true rfl) ⟨by decide, by decide⟩ dX8_traceWeight_1) [0, 1] rfl rfl ?_
  refine k_bipush (n := 6) (v := 10) F dX8_traceWeight_4 rfl rfl ?_
  refine k_iadd (n := 7) F dX8_traceWeight_6 rfl ?_
  exact k_iret F rfl rfl dX8_traceWeight_7
set_option maxRecDepth 100000 in
set_option maxHeartbeats 4000000 in
theorem c_whTrace_2 (l : Launch) (g : kG) (a q : Nat) (f : Nat → Int32) (lim : Int32) : kM l yX8_traceWeight cX8_traceWeight 1 (some .int) (rmK 1 0 0 20) g [.ref a] [(a, .inr (2, [.ref q, .int lim])), (q, .inl (g.2 0, 5, .inl f))] (kDi g 11 [(a, .inr (2, [.ref q, .int lim])), (q, .inl (g.2 0, 5, .inl f))]) := by
  refine k_enter (by decide) (Nat.le_of_ble_eq_true rfl) ?_
  intro p e s m args below meth c A F
  refine k_aload_n (n := 1) F dX8_traceWeight_0 rfl 0 rfl rfl ?_
  refine k_ciR (n := 4) F (k_rSU (k := 0) (b := a) (As := []) (rest := []) F (c_thTrace_2 l g a q f lim) [0, 1] rfl rfl 0 rfl rfl mw_305 mw_303 mw_296 mw_265 mw_294 mw_10 (by decide) (by decide) ⟨by decide, by decide⟩ rfl (Nat.le_of_ble_eq_true rfl) ⟨by decide, by decide⟩ dX8_traceWeight_1) [0, 1] rfl rfl ?_
  refine k_bipush (n := 6) (v := 10) F dX8_traceWeight_4 rfl rfl ?_
  refine k_iadd (n := 7) F dX8_traceWeight_6 rfl ?_
  exact k_iret F rfl rfl dX8_traceWeight_7
set_option maxRecDepth 100000 in
set_option maxHeartbeats 4000000 in
theorem c_brCold_2 (l : Launch) (g : kG) (a q : Nat) (f : Nat → Int32) (lim : Int32) (d : Int32) : kM l yX2_coldAt cX2_coldAt 2 (some .int) (rmK 2 0 0 44) g [.ref a, .int d] [(a, .inr (2, [.ref q, .int lim])), (q, .inl (g.2 0, 5, .inl f))] (kDi g (if lim < kwc f d then lim else kwc f d) [(a, .inr (2, [.ref q, .int lim])), (q, .inl (g.2 0, 5, .inl f))]) := by
  refine k_enter (by decide) (Nat.le_of_ble_eq_true rfl) ?_
  intro p e s m args below meth c A F
  refine k_aload_n (n := 1) F dX2_coldAt_0 rfl 0 rfl rfl ?_
  refine k_iload_n (n := 2) F dX2_coldAt_1 rfl 1 rfl rfl ?_
  refine k_ciR (n := 5) F (k_rSU (k := 1) (b := a) (As := [.int d]) (rest := []) F (c_whCold_2 l g a q f lim d) [0, 1] rfl rfl 0 rfl rfl mw_319 mw_317 mw_827 mw_276 mw_318 mw_11 (by decide) (by decide) ⟨by decide, by decide⟩ rfl (Nat.le_of_ble_eq_true rfl) ⟨by decide, by decide⟩ dX2_coldAt_2) [0, 1] rfl rfl ?_
  refine k_aload_n (n := 6) F dX2_coldAt_5 rfl 0 rfl rfl ?_
  refine k_get (n := 9) (v := .int lim) F uX2 0 1 rfl rfl (by decide) mw_272 rfl dX2_coldAt_6 rfl ?_
  refine k_mmin (n := 12) F mw_325 mw_326 mw_13 mw_327 dX2_coldAt_9 (by decide) (Nat.le_of_ble_eq_true rfl) (by decide) (by decide) rfl ?_
  exact k_iret F rfl rfl dX2_coldAt_12
set_option maxRecDepth 100000 in
set_option maxHeartbeats 4000000 in
theorem c_brTrace_2 (l : Launch) (g : kG) (a q : Nat) (f : Nat → Int32) (lim : Int32) : kM l yX2_traceWeight cX2_traceWeight 1 (some .int) (rmK 2 0 0 40) g [.ref a] [(a, .inr (2, [.ref q, .int lim])), (q, .inl (g.2 0, 5, .inl f))] (kDi g 111 [(a, .inr (2, [.ref q, .int lim])), (q, .inl (g.2 0, 5, .inl f))]) := by
  refine k_enter (by decide) (Nat.le_of_ble_eq_true rfl) ?_
  intro p e s m args below meth c A F
  refine k_aload_n (n := 1) F dX2_traceWeight_0 rfl 0 rfl rfl ?_
  refine k_ciR (n := 4) F (k_rSU (k := 0) (b := a) (As := []) (rest := []) F (c_whTrace_2 l g a q f lim) [0, 1] rfl rfl 0 rfl rfl mw_302 mw_300 mw_826 mw_276 mw_301 mw_11 (by decide) (by decide) ⟨by decide, by decide⟩ rfl (Nat.le_of_ble_eq_true rfl) ⟨by decide, by decide⟩ dX2_traceWeight_1) [0, 1] rfl rfl ?_
  refine k_bipush (n := 6) (v := 100) F dX2_traceWeight_4 rfl rfl ?_
  refine k_iadd (n := 7) F dX2_traceWeight_6 rfl ?_
  exact k_iret F rfl rfl dX2_traceWeight_7
