set_option maxRecDepth 100000 in
set_option maxHeartbeats 4000000 in
theorem c_flow (l : Launch) (g : kG) (ad ca cb : Nat → Nat) (i : Nat → Int32) (l_ : Nat → Int64) (a : Nat → Nat → Int32) (h : Nat → Int64) (h2 : 0 ≤ i 2 ∧ i 2 ≤ 6) (h6 : 1 ≤ i 6 ∧ i 6 ≤ 8) : kM l yX9_flow cX9_flow 3 (some .int) (rmK 4 0 0 107) g [.ref ((ad 0))] (wK g ad ca cb (i, l_, a, h)) (kDi g (fl_R (i, l_, a, h)) (wK g ad ca cb (fw_S (i, l_, a, h)))) := by
  refine k_enter (by decide) (Nat.le_of_ble_eq_true rfl) ?_
  intro p e s m args below meth c A F
  refine k_world (ws' := (wC g ad (i, l_, a, h) (coolF ca (i 2).toNatClampNeg) ++ coolW g ca cb (a 3) (a 4) (a 5) (i 2).toNatClampNeg)) rfl ?_
  refine k_aload_n (n := 1) F dX9_flow_0 rfl 0 rfl rfl ?_
  refine k_get (n := 4) (v := .ref ((ad 2))) F uX9 0 1 rfl rfl (by decide) mw_197 rfl dX9_flow_1 rfl ?_
  refine k_aload_n (n := 5) F dX9_flow_4 rfl 0 rfl rfl ?_
  refine k_get (n := 8) (v := .int (a 10 2)) F uX9 0 10 rfl rfl (by decide) mw_206 rfl dX9_flow_5 rfl ?_
  refine k_aload_n (n := 9) F dX9_flow_8 rfl 0 rfl rfl ?_
  refine k_aload_n (n := 10) F dX9_flow_9 rfl 0 rfl rfl ?_
  refine k_get (n := 13) (v := .int (a 10 0)) F uX9 0 8 rfl rfl (by decide) mw_204 rfl dX9_flow_10 rfl ?_
  refine k_aload_n (n := 14) F dX9_flow_13 rfl 0 rfl rfl ?_
  refine k_get (n := 17) (v := .int (a 10 1)) F uX9 0 9 rfl rfl (by decide) mw_205 rfl dX9_flow_14 rfl ?_
  refine k_ciR (n := 20) F (k_rV (k := 2) (b := (ad 0)) (As := [.int (a 10 0), .int (a 10 1)]) (rest := [.int (a 10 2), .ref ((ad 2))]) F (c_coldOf l g ad ca cb i l_ a h (a 10 0) (a 10 1) h2) (List.range (wC g ad (i, l_, a, h) (coolF ca (i 2).toNatClampNeg) ++ coolW g ca cb (a 3) (a 4) (a 5) (i 2).toNatClampNeg).length) (all_is _) (all_nd _) 0 rfl rfl mw_309 mw_306 mw_308 mw_s3 mw_1 (by decide) ⟨by decide, by decide⟩ rfl (Nat.le_of_ble_eq_true rfl) ⟨by decide, by decide⟩ dX9_flow_17) (List.range (wC g ad (i, l_, a, h) (coolF ca (i 2).toNatClampNeg) ++ coolW g ca cb (a 3) (a 4) (a 5) (i 2).toNatClampNeg).length) (all_is _) rfl ?_
  refine k_ciT (n := 23) (ws := wC g ad (i, l_, a, h) (coolF ca (i 2).toNatClampNeg)) (tl := coolW g ca cb (a 3) (a 4) (a 5) (i 2).toNatClampNeg) (ws' := wC g ad (i, l_, va_up (va_up a 7 (mvW (exW (a 7) (a 8) (i 9) (i 6).toNatClampNeg) (i 6).toNatClampNeg (a 10 2))) 8 (mvC (exC (a 7) (a 8) (i 9) (i 6).toNatClampNeg) (i 6).toNatClampNeg (psG (a 7) (a 8) (i 9) (i 6).toNatClampNeg (kcold (i, l_, a, h) (a 10 0) (a 10 1)))), vp_updL (vp_updL (vp_updL (vp_updL h 0 ((h 0) + (a 10 2).toInt64)) 1 ((h 1) + (exC (a 7) (a 8) (i 9) (i 6).toNatClampNeg 0).toInt64)) 2 ((h 2) + (psL (a 7) (a 8) (i 9) (i 6).toNatClampNeg - psG (a 7) (a 8) (i 9) (i 6).toNatClampNeg (kcold (i, l_, a, h) (a 10 0) (a 10 1))).toInt64)) 3 ((h 3) + 1)) (coolF ca (i 2).toNatClampNeg)) F (k_rV (k := 2) (b := (ad 2)) (As := [.int (a 10 2), .int (kcold (i, l_, a, h) (a 10 0) (a 10 1))]) (rest := []) F (c_pass l g (ad 2) (ad 3) (ad 4) (i 6) (i 9) (h 0) (h 1) (h 2) (h 3) (a 7) (a 8) (i 6).toNatClampNeg (kclamp (k1le h6.1)) (kcl1 h6.1) (kclamp8 (k1le h6.1) h6.2) (a 10 2) (kcold (i, l_, a, h) (a 10 0) (a 10 1))) [2, 3, 4] rfl rfl 0 rfl rfl mw_446 mw_443 mw_444 mw_445 mw_2 (by decide) ⟨by decide, by decide⟩ rfl (Nat.le_of_ble_eq_true rfl) ⟨by decide, by decide⟩ dX9_flow_20) [2, 3, 4] [0, 1, 5, 6, 7, 8, 9, 10, 11, 12, 13, 14] [0, 1, 12, 13, 14, 2, 3, 4, 5, 6, 7, 8, 9, 10, 11] rfl rfl rfl rfl (by decide) rfl rfl rfl ?_
  refine k_world (ws' := wK g ad ca cb (fl_S (i, l_, a, h))) rfl ?_
  refine k_valI (y := fl_R (i, l_, a, h)) rfl ?_
  have eS : fw_S (i, l_, a, h) = fwB (fl_S (i, l_, a, h)) (fl_R (i, l_, a, h)) := rfl
  rw [eS]
  generalize fl_R (i, l_, a, h) = q
  generalize fl_S (i, l_, a, h) = u1
  obtain ⟨i1, l1, a1, h1⟩ := u1
  have hj : KW p l e ((rmK 4 0 0 107)) s m args below meth c (MQ below ((kDi g q (wK g ad ca cb (fwB (i1, l1, a1, h1) q))) A) args s ((rmK 4 0 0 107)).cells ((rmK 4 0 0 107)).slots A) g A 3 (wK g ad ca cb (fw_1 (i1, l1, a1, h1) q)) 0 0 56 [(1, .int q), (0, .ref ((ad 0)))] [] := by
    have eB : fwB (i1, l1, a1, h1) q = fwC (fw_1 (i1, l1, a1, h1) q) := rfl
    rw [eB]
    generalize fw_1 (i1, l1, a1, h1) q = u2
    obtain ⟨i2, l2, a2, h2v⟩ := u2
    refine k_world (ws' := (wC g ad (i2, l2, a2, h2v) (coolF ca (i2 2).toNatClampNeg) ++ coolW g ca cb (a2 3) (a2 4) (a2 5) (i2 2).toNatClampNeg)) rfl ?_
    refine k_aload_n (n := 57) F dX9_flow_56 rfl 1 rfl rfl ?_
    refine k_get (n := 60) (v := .ref ((ad 6))) F uX9 0 3 rfl rfl (by decide) mw_199 rfl dX9_flow_57 rfl ?_
    refine k_ciT (n := 63) (ws := wC g ad (i2, l2, a2, h2v) (coolF ca (i2 2).toNatClampNeg)) (tl := coolW g ca cb (a2 3) (a2 4) (a2 5) (i2 2).toNatClampNeg) (ws' := wC g ad (i2, l2, va_up (va_up (va_up a2 22 (upd (upd (a2 22) 0 (ldH0 (a2 22 0) (a2 23 0) (a2 22 1) (a2 23 1) (a2 10 4))) 1 (ldH1 (a2 22 0) (a2 23 0) (a2 22 1) (a2 23 1) (a2 10 4)))) 23 (upd (upd (a2 23) 0 (ldL0 (a2 22 0) (a2 23 0))) 1 (ldL1 (a2 22 0) (a2 22 1) (a2 23 1)))) 24 (upd (upd (a2 24) 0 (ldT0 (a2 22 0) (a2 23 0) (a2 24 0) (a2 22 1) (a2 23 1) (a2 10 4))) 1 (ldT1 (a2 22 0) (a2 23 0) (a2 22 1) (a2 23 1) (a2 24 1) (a2 10 4))), h2v) (coolF ca (i2 2).toNatClampNeg)) F (k_rV (k := 0) (b := (ad 6)) (As := []) (rest := []) F (c_load l g (ad 6) (ad 7) (ad 8) (a2 22 0) (a2 23 0) (a2 24 0) (a2 22 1) (a2 23 1) (a2 24 1) (a2 10 4) (a2 10 5)) [6, 7, 8] rfl rfl 0 rfl rfl mw_470 mw_467 mw_468 mw_469 mw_5 (by decide) ⟨by decide, by decide⟩ rfl (Nat.le_of_ble_eq_true rfl) ⟨by decide, by decide⟩ dX9_flow_60) [6, 7, 8] [0, 1, 2, 3, 4, 5, 9, 10, 11, 12, 13, 14] [0, 1, 2, 3, 4, 5, 12, 13, 14, 6, 7, 8, 9, 10, 11] rfl rfl rfl rfl (by decide) rfl rfl rfl ?_
    refine k_istore_n (n := 64) (lv' := [(2, .int (ldR (a2 22 0) (a2 23 0) (a2 22 1) (a2 23 1) (a2 10 4))), (1, .int q), (0, .ref ((ad 0)))]) F dX9_flow_63 rfl (by decide) rfl rfl ?_
    refine k_iload_n (n := 65) F dX9_flow_64 rfl 0 rfl rfl ?_
    refine k_if_eq (n := 68) (tgt := 78) F dX9_flow_65 (by decide) rfl (fun hc1 => ?_) (fun hc1 => ?_)
    · refine k_aload_n (n := 79) F dX9_flow_78 rfl 2 rfl rfl ?_
      refine k_get (n := 82) (v := .ref ((ad 5))) F uX9 0 2 rfl rfl (by decide) mw_198 rfl dX9_flow_79 rfl ?_
      refine k_ciT (n := 85) (ws := wC g ad (i2, l2, va_up (va_up (va_up a2 22 (upd (upd (a2 22) 0 (ldH0 (a2 22 0) (a2 23 0) (a2 22 1) (a2 23 1) (a2 10 4))) 1 (ldH1 (a2 22 0) (a2 23 0) (a2 22 1) (a2 23 1) (a2 10 4)))) 23 (upd (upd (a2 23) 0 (ldL0 (a2 22 0) (a2 23 0))) 1 (ldL1 (a2 22 0) (a2 22 1) (a2 23 1)))) 24 (upd (upd (a2 24) 0 (ldT0 (a2 22 0) (a2 23 0) (a2 24 0) (a2 22 1) (a2 23 1) (a2 10 4))) 1 (ldT1 (a2 22 0) (a2 23 0) (a2 22 1) (a2 23 1) (a2 24 1) (a2 10 4))), h2v) (coolF ca (i2 2).toNatClampNeg)) (tl := coolW g ca cb (a2 3) (a2 4) (a2 5) (i2 2).toNatClampNeg) (ws' := wC g ad (upd (upd (upd i2 12 4) 34 0) 32 ((i2 32) + 1), l2, va_up (va_up (va_up a2 22 (upd (upd (a2 22) 0 (ldH0 (a2 22 0) (a2 23 0) (a2 22 1) (a2 23 1) (a2 10 4))) 1 (ldH1 (a2 22 0) (a2 23 0) (a2 22 1) (a2 23 1) (a2 10 4)))) 23 (upd (upd (a2 23) 0 (ldL0 (a2 22 0) (a2 23 0))) 1 (ldL1 (a2 22 0) (a2 22 1) (a2 23 1)))) 24 (upd (upd (a2 24) 0 (ldT0 (a2 22 0) (a2 23 0) (a2 24 0) (a2 22 1) (a2 23 1) (a2 10 4))) 1 (ldT1 (a2 22 0) (a2 23 0) (a2 22 1) (a2 23 1) (a2 24 1) (a2 10 4))), h2v) (coolF ca (i2 2).toNatClampNeg)) F (k_rV (k := 0) (b := (ad 5)) (As := []) (rest := []) F (c_shutDown l g (ad 5) (i2 12) (i2 34) (i2 32) (i2 14) (i2 15) (i2 16)) [5] rfl rfl 0 rfl rfl mw_396 mw_393 mw_394 mw_395 mw_4 (by decide) ⟨by decide, by decide⟩ rfl (Nat.le_of_ble_eq_true rfl) ⟨by decide, by decide⟩ dX9_flow_82) [5] [0, 1, 2, 3, 4, 6, 7, 8, 9, 10, 11, 12, 13, 14] [0, 1, 2, 3, 4, 14, 5, 6, 7, 8, 9, 10, 11, 12, 13] rfl rfl rfl rfl (by decide) rfl rfl rfl ?_
      refine k_pop (n := 86) F dX9_flow_85 rfl rfl ?_
      refine k_iload_n (n := 87) F dX9_flow_86 rfl 1 rfl rfl ?_
      have e2 : fwC (i2, l2, a2, h2v) = s_trip (ld_S (i2, l2, a2, h2v)) := if_pos hc1
      exact k_iret F rfl (by rw [e2]; simp only [wK, wC, s_trip, ld_S, upd, va_up, vp_updL, reduceIte, Nat.reduceEqDiff]) dX9_flow_87
    · refine k_aload_n (n := 69) F dX9_flow_68 rfl 2 rfl rfl ?_
      refine k_get (n := 72) (v := .ref ((ad 9))) F uX9 0 4 rfl rfl (by decide) mw_200 rfl dX9_flow_69 rfl ?_
      refine k_ciR (n := 75) F (k_rV (k := 0) (b := (ad 9)) (As := []) (rest := []) F (c_isFull l g (ad 9) (a2 10 3) (i2 17) (i2 18) (l2 19) (l2 20) (l2 21)) [9] rfl rfl 0 rfl rfl mw_371 mw_368 mw_369 mw_370 mw_7 (by decide) ⟨by decide, by decide⟩ rfl (Nat.le_of_ble_eq_true rfl) ⟨by decide, by decide⟩ dX9_flow_72) [9] rfl rfl ?_
      refine k_if_eq (n := 78) (tgt := 86) F dX9_flow_75 (by decide) rfl (fun hc2 => ?_) (fun hc2 => ?_)
      · replace hc2 := kiteBt hc2
        refine k_iload_n (n := 87) F dX9_flow_86 rfl 1 rfl rfl ?_
        have e2 : fwC (i2, l2, a2, h2v) = ld_S (i2, l2, a2, h2v) := (if_neg hc1).trans (if_neg hc2)
        exact k_iret F rfl (by rw [e2]; simp only [wK, wC, s_trip, ld_S, upd, va_up, vp_updL, reduceIte, Nat.reduceEqDiff]) dX9_flow_87
      · replace hc2 := kiteBf hc2
        refine k_aload_n (n := 79) F dX9_flow_78 rfl 2 rfl rfl ?_
        refine k_get (n := 82) (v := .ref ((ad 5))) F uX9 0 2 rfl rfl (by decide) mw_198 rfl dX9_flow_79 rfl ?_
        refine k_ciT (n := 85) (ws := wC g ad (i2, l2, va_up (va_up (va_up a2 22 (upd (upd (a2 22) 0 (ldH0 (a2 22 0) (a2 23 0) (a2 22 1) (a2 23 1) (a2 10 4))) 1 (ldH1 (a2 22 0) (a2 23 0) (a2 22 1) (a2 23 1) (a2 10 4)))) 23 (upd (upd (a2 23) 0 (ldL0 (a2 22 0) (a2 23 0))) 1 (ldL1 (a2 22 0) (a2 22 1) (a2 23 1)))) 24 (upd (upd (a2 24) 0 (ldT0 (a2 22 0) (a2 23 0) (a2 24 0) (a2 22 1) (a2 23 1) (a2 10 4))) 1 (ldT1 (a2 22 0) (a2 23 0) (a2 22 1) (a2 23 1) (a2 24 1) (a2 10 4))), h2v) (coolF ca (i2 2).toNatClampNeg)) (tl := coolW g ca cb (a2 3) (a2 4) (a2 5) (i2 2).toNatClampNeg) (ws' := wC g ad (upd (upd (upd i2 12 4) 34 0) 32 ((i2 32) + 1), l2, va_up (va_up (va_up a2 22 (upd (upd (a2 22) 0 (ldH0 (a2 22 0) (a2 23 0) (a2 22 1) (a2 23 1) (a2 10 4))) 1 (ldH1 (a2 22 0) (a2 23 0) (a2 22 1) (a2 23 1) (a2 10 4)))) 23 (upd (upd (a2 23) 0 (ldL0 (a2 22 0) (a2 23 0))) 1 (ldL1 (a2 22 0) (a2 22 1) (a2 23 1)))) 24 (upd (upd (a2 24) 0 (ldT0 (a2 22 0) (a2 23 0) (a2 24 0) (a2 22 1) (a2 23 1) (a2 10 4))) 1 (ldT1 (a2 22 0) (a2 23 0) (a2 22 1) (a2 23 1) (a2 24 1) (a2 10 4))), h2v) (coolF ca (i2 2).toNatClampNeg)) F (k_rV (k := 0) (b := (ad 5)) (As := []) (rest := []) F (c_shutDown l g (ad 5) (i2 12) (i2 34) (i2 32) (i2 14) (i2 15) (i2 16)) [5] rfl rfl 0 rfl rfl mw_396 mw_393 mw_394 mw_395 mw_4 (by decide) ⟨by decide, by decide⟩ rfl (Nat.le_of_ble_eq_true rfl) ⟨by decide, by decide⟩ dX9_flow_82) [5] [0, 1, 2, 3, 4, 6, 7, 8, 9, 10, 11, 12, 13, 14] [0, 1, 2, 3, 4, 14, 5, 6, 7, 8, 9, 10, 11, 12, 13] rfl rfl rfl rfl (by decide) rfl rfl rfl ?_
        refine k_pop (n := 86) F dX9_flow_85 rfl rfl ?_
        refine k_iload_n (n := 87) F dX9_flow_86 rfl 1 rfl rfl ?_
        have e2 : fwC (i2, l2, a2, h2v) = s_trip (ld_S (i2, l2, a2, h2v)) := (if_neg hc1).trans (if_pos hc2)
        exact k_iret F rfl (by rw [e2]; simp only [wK, wC, s_trip, ld_S, upd, va_up, vp_updL, reduceIte, Nat.reduceEqDiff]) dX9_flow_87
  refine k_world (ws' := (wC g ad (i1, l1, a1, h1) (coolF ca (i1 2).toNatClampNeg) ++ coolW g ca cb (a1 3) (a1 4) (a1 5) (i1 2).toNatClampNeg)) rfl ?_
  refine k_istore_n (n := 24) (lv' := [(1, .int q), (0, .ref ((ad 0)))]) F dX9_flow_23 rfl (by decide) rfl rfl ?_
  refine k_aload_n (n := 25) F dX9_flow_24 rfl 1 rfl rfl ?_
  refine k_get (n := 28) (v := .ref ((ad 9))) F uX9 0 4 rfl rfl (by decide) mw_200 rfl dX9_flow_25 rfl ?_
  refine k_iload_n (n := 29) F dX9_flow_28 rfl 0 rfl rfl ?_
  refine k_cvT (n := 32) (ws := wC g ad (i1, l1, a1, h1) (coolF ca (i1 2).toNatClampNeg)) (tl := coolW g ca cb (a1 3) (a1 4) (a1 5) (i1 2).toNatClampNeg) (ws' := wC g ad (upd (upd i1 17 ((i1 17) + tkT (a1 10 3) (i1 17) q)) 18 ((i1 18) + tkB (a1 10 3) (i1 17) (i1 18) q), vp_updL (vp_updL (vp_updL l1 19 ((l1 19) + q.toInt64)) 20 ((l1 20))) 21 ((l1 21) + (q - tkT (a1 10 3) (i1 17) q - tkB (a1 10 3) (i1 17) (i1 18) q).toInt64), va_up a1 10 (upd (a1 10) 3 ((a1 10 3))), h1) (coolF ca (i1 2).toNatClampNeg)) F (k_rV (k := 1) (b := (ad 9)) (As := [.int q]) (rest := []) F (c_takeIn l g (ad 9) (a1 10 3) (i1 17) (i1 18) q (l1 19) (l1 20) (l1 21)) [9] rfl rfl 0 rfl rfl mw_465 mw_462 mw_463 mw_464 mw_7 (by decide) ⟨by decide, by decide⟩ rfl (Nat.le_of_ble_eq_true rfl) ⟨by decide, by decide⟩ dX9_flow_29) [9] [0, 1, 2, 3, 4, 5, 6, 7, 8, 10, 11, 12, 13, 14] [0, 1, 2, 3, 4, 5, 6, 7, 8, 14, 9, 10, 11, 12, 13] rfl rfl rfl rfl (by decide) rfl rfl rfl ?_
  refine k_iload_n (n := 33) F dX9_flow_32 rfl 0 rfl rfl ?_
  refine k_if_le (n := 36) (tgt := 56) F dX9_flow_33 (by decide) rfl (fun hc3 => ?_) (fun hc3 => ?_)
  · have e1 : fw_1 (i1, l1, a1, h1) q = tk_S (i1, l1, a1, h1) q := if_pos hc3
    refine k_world (ws' := wK g ad ca cb (fw_1 (i1, l1, a1, h1) q)) (by rw [e1]; simp only [wK, wC, tk_S, upd, va_up, vp_updL, reduceIte, Nat.reduceEqDiff]) ?_
    exact hj
  · refine k_aload_n (n := 37) F dX9_flow_36 rfl 1 rfl rfl ?_
    refine k_get (n := 40) (v := .ref ((ad 5))) F uX9 0 2 rfl rfl (by decide) mw_198 rfl dX9_flow_37 rfl ?_
    refine k_getN (n := 43) (v := .int (i1 12)) F uX3 5 0 rfl rfl (by decide) nw_8 rfl dX9_flow_40 rfl ?_
    refine k_iconst (n := 44) (v := 1) F dX9_flow_43 rfl rfl ?_
    refine k_icmp_ne (n := 47) (tgt := 56) F dX9_flow_44 (by decide) rfl (fun hc4 => ?_) (fun hc4 => ?_)
    · have e1 : fw_1 (i1, l1, a1, h1) q = tk_S (i1, l1, a1, h1) q := (if_neg hc3).trans (if_neg hc4)
      refine k_world (ws' := wK g ad ca cb (fw_1 (i1, l1, a1, h1) q)) (by rw [e1]; simp only [wK, wC, tk_S, upd, va_up, vp_updL, reduceIte, Nat.reduceEqDiff]) ?_
      exact hj
    · refine k_aload_n (n := 48) F dX9_flow_47 rfl 1 rfl rfl ?_
      refine k_get (n := 51) (v := .ref ((ad 5))) F uX9 0 2 rfl rfl (by decide) mw_198 rfl dX9_flow_48 rfl ?_
      refine k_iconst (n := 52) (v := 2) F dX9_flow_51 rfl rfl ?_
      refine k_ciT (n := 55) (ws := wC g ad (upd (upd i1 17 ((i1 17) + tkT (a1 10 3) (i1 17) q)) 18 ((i1 18) + tkB (a1 10 3) (i1 17) (i1 18) q), vp_updL (vp_updL (vp_updL l1 19 ((l1 19) + q.toInt64)) 20 ((l1 20))) 21 ((l1 21) + (q - tkT (a1 10 3) (i1 17) q - tkB (a1 10 3) (i1 17) (i1 18) q).toInt64), va_up a1 10 (upd (a1 10) 3 ((a1 10 3))), h1) (coolF ca (i1 2).toNatClampNeg)) (tl := coolW g ca cb (a1 3) (a1 4) (a1 5) (i1 2).toNatClampNeg) (ws' := wC g ad (upd (upd (upd (upd i1 17 ((i1 17) + tkT (a1 10 3) (i1 17) q)) 18 ((i1 18) + tkB (a1 10 3) (i1 17) (i1 18) q)) 12 2) 34 0, vp_updL (vp_updL (vp_updL l1 19 ((l1 19) + q.toInt64)) 20 ((l1 20))) 21 ((l1 21) + (q - tkT (a1 10 3) (i1 17) q - tkB (a1 10 3) (i1 17) (i1 18) q).toInt64), va_up a1 10 (upd (a1 10) 3 ((a1 10 3))), h1) (coolF ca (i1 2).toNatClampNeg)) F (k_rV (k := 1) (b := (ad 5)) (As := [.int 2]) (rest := []) F (c_enter l g (ad 5) (i1 12) (i1 34) (i1 32) (i1 14) (i1 15) (i1 16) 2) [5] rfl rfl 0 rfl rfl mw_379 mw_384 mw_377 mw_378 mw_4 (by decide) ⟨by decide, by decide⟩ rfl (Nat.le_of_ble_eq_true rfl) ⟨by decide, by decide⟩ dX9_flow_52) [5] [0, 1, 2, 3, 4, 6, 7, 8, 9, 10, 11, 12, 13, 14] [0, 1, 2, 3, 4, 14, 5, 6, 7, 8, 9, 10, 11, 12, 13] rfl rfl rfl rfl (by decide) rfl rfl rfl ?_
      refine k_pop (n := 56) F dX9_flow_55 rfl rfl ?_
      have e1 : fw_1 (i1, l1, a1, h1) q = (upd (upd (tk_S (i1, l1, a1, h1) q).1 12 2) 34 0, (tk_S (i1, l1, a1, h1) q).2) := (if_neg hc3).trans (if_pos hc4)
      refine k_world (ws' := wK g ad ca cb (fw_1 (i1, l1, a1, h1) q)) (by rw [e1]; simp only [wK, wC, tk_S, upd, va_up, vp_updL, reduceIte, Nat.reduceEqDiff]) ?_
      exact hj
set_option maxRecDepth 100000 in
set_option maxHeartbeats 4000000 in
theorem c_oneTick (l : Launch) (g : kG) (ad ca cb : Nat → Nat) (i : Nat → Int32) (l_ : Nat → Int64) (a : Nat → Nat → Int32) (h : Nat → Int64) (h2 : 0 ≤ i 2 ∧ i 2 ≤ 6) (h6 : 1 ≤ i 6 ∧ i 6 ≤ 8) : kM l yX9_oneTick cX9_oneTick 1 (some .int) (rmK 5 0 0 129) g [.ref ((ad 0))] (wK g ad ca cb (i, l_, a, h)) (kDi g (ot_S (i, l_, a, h)).1 (wK g ad ca cb (ot_S (i, l_, a, h)).2)) := by
  refine k_enter (by decide) (Nat.le_of_ble_eq_true rfl) ?_
  intro p e s m args below meth c A F
  refine k_world (ws' := (wC g ad (i, l_, a, h) (coolF ca (i 2).toNatClampNeg) ++ coolW g ca cb (a 3) (a 4) (a 5) (i 2).toNatClampNeg)) rfl ?_
  refine k_aload_n (n := 1) F dX9_oneTick_0 rfl 0 rfl rfl ?_
  refine k_dup (n := 2) F dX9_oneTick_1 rfl rfl ?_
  refine k_get (n := 5) (v := .int (i 31)) F uX9 0 11 rfl rfl (by decide) mw_207 rfl dX9_oneTick_2 rfl ?_
  refine k_iconst (n := 6) (v := 1) F dX9_oneTick_5 rfl rfl ?_
  refine k_iadd (n := 7) F dX9_oneTick_6 rfl ?_
  refine k_put (n := 10) (ws' := (wC g ad (upd i 31 ((i 31) + 1), l_, a, h) (coolF ca (i 2).toNatClampNeg) ++ coolW g ca cb (a 3) (a 4) (a 5) (i 2).toNatClampNeg)) F uX9 tyX9_ok nmX9 0 11 rfl rfl (by decide) mw_207 rfl rfl rfl (Nat.le_of_ble_eq_true rfl) rfl dX9_oneTick_7 rfl ?_
  refine k_aload_n (n := 11) F dX9_oneTick_10 rfl 0 rfl rfl ?_
  refine k_get (n := 14) (v := .ref ((ad 6))) F uX9 0 3 rfl rfl (by decide) mw_199 rfl dX9_oneTick_11 rfl ?_
  refine k_cvT (n := 17) (ws := wC g ad (upd i 31 ((i 31) + 1), l_, a, h) (coolF ca (i 2).toNatClampNeg)) (tl := coolW g ca cb (a 3) (a 4) (a 5) (i 2).toNatClampNeg) (ws' := wC g ad (upd i 31 ((i 31) + 1), l_, va_up (va_up (va_up a 22 (upd (upd (a 22) 0 (stH (a 22 0) (a 24 0) (a 10 5) (a 22 1))) 1 (stH (a 22 1) (a 24 1) (a 10 5) (stH (a 22 0) (a 24 0) (a 10 5) (a 22 1))))) 23 (upd (upd (a 23) 0 (goL (a 22 0) (a 23 0) (a 24 0) (a 10 5))) 1 (goL (a 22 1) (a 23 1) (a 24 1) (a 10 5)))) 24 (upd (upd (a 24) 0 (stT (a 22 0) (a 24 0) (a 10 5) (a 22 1))) 1 (stT (a 22 1) (a 24 1) (a 10 5) (stH (a 22 0) (a 24 0) (a 10 5) (a 22 1)))), h) (coolF ca (i 2).toNatClampNeg)) F (k_rV (k := 0) (b := (ad 6)) (As := []) (rest := []) F (c_regenerate l g (ad 6) (ad 7) (ad 8) (a 22 0) (a 23 0) (a 24 0) (a 22 1) (a 23 1) (a 24 1) (a 10 4) (a 10 5)) [6, 7, 8] rfl rfl 0 rfl rfl mw_416 mw_413 mw_414 mw_415 mw_5 (by decide) ⟨by decide, by decide⟩ rfl (Nat.le_of_ble_eq_true rfl) ⟨by decide, by decide⟩ dX9_oneTick_14) [6, 7, 8] [0, 1, 2, 3, 4, 5, 9, 10, 11, 12, 13, 14] [0, 1, 2, 3, 4, 5, 12, 13, 14, 6, 7, 8, 9, 10, 11] rfl rfl rfl rfl (by decide) rfl rfl rfl ?_
  refine k_aload_n (n := 18) F dX9_oneTick_17 rfl 0 rfl rfl ?_
  refine k_get (n := 21) (v := .ref ((ad 5))) F uX9 0 2 rfl rfl (by decide) mw_198 rfl dX9_oneTick_18 rfl ?_
  refine k_ciT (n := 24) (ws := wC g ad (upd i 31 ((i 31) + 1), l_, va_up (va_up (va_up a 22 (upd (upd (a 22) 0 (stH (a 22 0) (a 24 0) (a 10 5) (a 22 1))) 1 (stH (a 22 1) (a 24 1) (a 10 5) (stH (a 22 0) (a 24 0) (a 10 5) (a 22 1))))) 23 (upd (upd (a 23) 0 (goL (a 22 0) (a 23 0) (a 24 0) (a 10 5))) 1 (goL (a 22 1) (a 23 1) (a 24 1) (a 10 5)))) 24 (upd (upd (a 24) 0 (stT (a 22 0) (a 24 0) (a 10 5) (a 22 1))) 1 (stT (a 22 1) (a 24 1) (a 10 5) (stH (a 22 0) (a 24 0) (a 10 5) (a 22 1)))), h) (coolF ca (i 2).toNatClampNeg)) (tl := coolW g ca cb (a 3) (a 4) (a 5) (i 2).toNatClampNeg) (ws' := wC g ad (upd (upd (upd (upd (upd i 31 ((i 31) + 1)) 34 ((i 34) + 1)) 14 (ptF (i 12) (i 34) (i 14))) 15 (ptP (i 12) (i 34) (i 15))) 16 (ptV (i 12) (i 34) (i 16)), l_, va_up (va_up (va_up a 22 (upd (upd (a 22) 0 (stH (a 22 0) (a 24 0) (a 10 5) (a 22 1))) 1 (stH (a 22 1) (a 24 1) (a 10 5) (stH (a 22 0) (a 24 0) (a 10 5) (a 22 1))))) 23 (upd (upd (a 23) 0 (goL (a 22 0) (a 23 0) (a 24 0) (a 10 5))) 1 (goL (a 22 1) (a 23 1) (a 24 1) (a 10 5)))) 24 (upd (upd (a 24) 0 (stT (a 22 0) (a 24 0) (a 10 5) (a 22 1))) 1 (stT (a 22 1) (a 24 1) (a 10 5) (stH (a 22 0) (a 24 0) (a 10 5) (a 22 1)))), h) (coolF ca (i 2).toNatClampNeg)) F (k_rV (k := 0) (b := (ad 5)) (As := []) (rest := []) F (c_passTick l g (ad 5) (i 12) (i 34) (i 32) (i 14) (i 15) (i 16)) [5] rfl rfl 0 rfl rfl mw_434 mw_431 mw_432 mw_433 mw_4 (by decide) ⟨by decide, by decide⟩ rfl (Nat.le_of_ble_eq_true rfl) ⟨by decide, by decide⟩ dX9_oneTick_21) [5] [0, 1, 2, 3, 4, 6, 7, 8, 9, 10, 11, 12, 13, 14] [0, 1, 2, 3, 4, 14, 5, 6, 7, 8, 9, 10, 11, 12, 13] rfl rfl rfl rfl (by decide) rfl rfl rfl ?_
  refine k_if_eq (n := 27) (tgt := 34) F dX9_oneTick_24 (by decide) rfl (fun hc1 => ?_) (fun hc1 => ?_)
  · refine k_iconst (n := 35) (v := 0) F dX9_oneTick_34 rfl rfl ?_
    have e1 : ot_S (i, l_, a, h) = (0, pt_S (ot_1 (i, l_, a, h))) := if_pos hc1
    exact k_iret F (by rw [e1]) (by rw [e1]; simp only [wK, wC, pt_S, ot_1, rg_S, upd, va_up, vp_updL, reduceIte, Nat.reduceEqDiff]) dX9_oneTick_35
  · refine k_aload_n (n := 28) F dX9_oneTick_27 rfl 0 rfl rfl ?_
    refine k_world (ws' := wK g ad ca cb (pt_S (ot_1 (i, l_, a, h)))) (by simp only [wK, wC, pt_S, ot_1, rg_S, upd, va_up, vp_updL, reduceIte, Nat.reduceEqDiff]) ?_
    refine k_ciA (n := 31) (w0 := wK g ad ca cb (fw_S (pt_S (ot_1 (i, l_, a, h))))) F (k_rV (k := 0) (b := (ad 0)) (As := []) (rest := []) F (c_flow l g ad ca cb (pt_S (ot_1 (i, l_, a, h))).1 (pt_S (ot_1 (i, l_, a, h))).2.1 (pt_S (ot_1 (i, l_, a, h))).2.2.1 (pt_S (ot_1 (i, l_, a, h))).2.2.2 h2 h6) (List.range (wK g ad ca cb (pt_S (ot_1 (i, l_, a, h)))).length) (all_is _) (all_nd _) 0 rfl rfl mw_442 mw_439 mw_441 mw_s11 mw_1 (by decide) ⟨by decide, by decide⟩ rfl (Nat.le_of_ble_eq_true rfl) ⟨by decide, by decide⟩ dX9_oneTick_28) (all_is _) rfl ?_
    refine k_goto (tgt := 35) F dX9_oneTick_31 (by decide) ?_
    have e1 : ot_S (i, l_, a, h) = (fl_R (pt_S (ot_1 (i, l_, a, h))), fw_S (pt_S (ot_1 (i, l_, a, h)))) := if_neg hc1
    exact k_iret F (by rw [e1]) (by rw [e1]) dX9_oneTick_35
