set_option maxRecDepth 100000 in
set_option maxHeartbeats 4000000 in
theorem c_enter (l : Launch) (g : kG) (a : Nat) (st tk tr fe pr ve nx : Int32) : kM l yX3_enter cX3_enter 2 (some .int) (rmK 0 0 0 0) g [.ref a, .int nx] [(a, .inr (3, [.int st, .int tk, .int tr, .int fe, .int pr, .int ve]))] (kDi g nx [(a, .inr (3, [.int nx, .int 0, .int tr, .int fe, .int pr, .int ve]))]) := by
  refine k_enter (by decide) (Nat.le_of_ble_eq_true rfl) ?_
  intro p e s m args below meth c A F
  refine k_aload_n (n := 1) F dX3_enter_0 rfl 0 rfl rfl ?_
  refine k_iload_n (n := 2) F dX3_enter_1 rfl 1 rfl rfl ?_
  refine k_put (n := 5) (ws' := [(a, .inr (3, [.int nx, .int tk, .int tr, .int fe, .int pr, .int ve]))]) F uX3 tyX3_ok nmX3 0 0 rfl rfl (by decide) mw_77 rfl rfl rfl (Nat.le_of_ble_eq_true rfl) rfl dX3_enter_2 rfl ?_
  refine k_aload_n (n := 6) F dX3_enter_5 rfl 0 rfl rfl ?_
  refine k_iconst (n := 7) (v := 0) F dX3_enter_6 rfl rfl ?_
  refine k_put (n := 10) (ws' := [(a, .inr (3, [.int nx, .int 0, .int tr, .int fe, .int pr, .int ve]))]) F uX3 tyX3_ok nmX3 0 1 rfl rfl (by decide) mw_79 rfl rfl rfl (Nat.le_of_ble_eq_true rfl) rfl dX3_enter_7 rfl ?_
  refine k_iload_n (n := 11) F dX3_enter_10 rfl 1 rfl rfl ?_
  exact k_iret F rfl rfl dX3_enter_11
set_option maxRecDepth 100000 in
set_option maxHeartbeats 4000000 in
theorem c_begin (l : Launch) (g : kG) (a : Nat) (st tk tr fe pr ve : Int32) : kM l yX3_begin cX3_begin 1 (some .int) (rmK 1 0 0 21) g [.ref a] [(a, .inr (3, [.int st, .int tk, .int tr, .int fe, .int pr, .int ve]))] (kDi g 1 [(a, .inr (3, [.int 1, .int 0, .int tr, .int 1, .int 1, .int ve]))]) := by
  refine k_enter (by decide) (Nat.le_of_ble_eq_true rfl) ?_
  intro p e s m args below meth c A F
  refine k_aload_n (n := 1) F dX3_begin_0 rfl 0 rfl rfl ?_
  refine k_iconst (n := 2) (v := 1) F dX3_begin_1 rfl rfl ?_
  refine k_put (n := 5) (ws' := [(a, .inr (3, [.int st, .int tk, .int tr, .int 1, .int pr, .int ve]))]) F uX3 tyX3_ok nmX3 0 3 rfl rfl (by decide) mw_82 rfl rfl rfl (Nat.le_of_ble_eq_true rfl) rfl dX3_begin_2 rfl ?_
  refine k_aload_n (n := 6) F dX3_begin_5 rfl 0 rfl rfl ?_
  refine k_iconst (n := 7) (v := 1) F dX3_begin_6 rfl rfl ?_
  refine k_put (n := 10) (ws' := [(a, .inr (3, [.int st, .int tk, .int tr, .int 1, .int 1, .int ve]))]) F uX3 tyX3_ok nmX3 0 4 rfl rfl (by decide) mw_84 rfl rfl rfl (Nat.le_of_ble_eq_true rfl) rfl dX3_begin_7 rfl ?_
  refine k_aload_n (n := 11) F dX3_begin_10 rfl 0 rfl rfl ?_
  refine k_iconst (n := 12) (v := 1) F dX3_begin_11 rfl rfl ?_
  refine k_ci (n := 15) (ws' := [(a, .inr (3, [.int 1, .int 0, .int tr, .int 1, .int 1, .int ve]))]) F (k_rV (k := 1) (b := a) (As := [.int 1]) (rest := []) F (c_enter l g a st tk tr 1 1 ve 1) [0] rfl rfl 0 rfl rfl mw_379 mw_376 mw_377 mw_378 mw_4 (by decide) ⟨by decide, by decide⟩ rfl (Nat.le_of_ble_eq_true rfl) ⟨by decide, by decide⟩ dX3_begin_12) [0] [] [0] rfl rfl rfl (by decide) rfl rfl rfl ?_
  exact k_iret F rfl rfl dX3_begin_15
set_option maxRecDepth 100000 in
set_option maxHeartbeats 4000000 in
theorem c_shutDown (l : Launch) (g : kG) (a : Nat) (st tk tr fe pr ve : Int32) : kM l yX3_shutDown cX3_shutDown 1 (some .int) (rmK 1 0 0 21) g [.ref a] [(a, .inr (3, [.int st, .int tk, .int tr, .int fe, .int pr, .int ve]))] (kDi g 4 [(a, .inr (3, [.int 4, .int 0, .int (tr + 1), .int fe, .int pr, .int ve]))]) := by
  refine k_enter (by decide) (Nat.le_of_ble_eq_true rfl) ?_
  intro p e s m args below meth c A F
  refine k_aload_n (n := 1) F dX3_shutDown_0 rfl 0 rfl rfl ?_
  refine k_dup (n := 2) F dX3_shutDown_1 rfl rfl ?_
  refine k_get (n := 5) (v := .int tr) F uX3 0 2 rfl rfl (by decide) mw_80 rfl dX3_shutDown_2 rfl ?_
  refine k_iconst (n := 6) (v := 1) F dX3_shutDown_5 rfl rfl ?_
  refine k_iadd (n := 7) F dX3_shutDown_6 rfl ?_
  refine k_put (n := 10) (ws' := [(a, .inr (3, [.int st, .int tk, .int (tr + 1), .int fe, .int pr, .int ve]))]) F uX3 tyX3_ok nmX3 0 2 rfl rfl (by decide) mw_80 rfl rfl rfl (Nat.le_of_ble_eq_true rfl) rfl dX3_shutDown_7 rfl ?_
  refine k_aload_n (n := 11) F dX3_shutDown_10 rfl 0 rfl rfl ?_
  refine k_iconst (n := 12) (v := 4) F dX3_shutDown_11 rfl rfl ?_
  refine k_ci (n := 15) (ws' := [(a, .inr (3, [.int 4, .int 0, .int (tr + 1), .int fe, .int pr, .int ve]))]) F (k_rV (k := 1) (b := a) (As := [.int 4]) (rest := []) F (c_enter l g a st tk (tr + 1) fe pr ve 4) [0] rfl rfl 0 rfl rfl mw_379 mw_376 mw_377 mw_378 mw_4 (by decide) ⟨by decide, by decide⟩ rfl (Nat.le_of_ble_eq_true rfl) ⟨by decide, by decide⟩ dX3_shutDown_12) [0] [] [0] rfl rfl rfl (by decide) rfl rfl rfl ?_
  exact k_iret F rfl rfl dX3_shutDown_15
set_option maxRecDepth 100000 in
set_option maxHeartbeats 4000000 in
theorem c_settle (l : Launch) (g : kG) (a : Nat) (st tk tr fe pr ve : Int32) : kM l yX3_settle cX3_settle 1 (some .int) (rmK 1 0 0 21) g [.ref a] [(a, .inr (3, [.int st, .int tk, .int tr, .int fe, .int pr, .int ve]))] (kDi g 0 [(a, .inr (3, [.int 0, .int 0, .int tr, .int fe, .int pr, .int 0]))]) := by
  refine k_enter (by decide) (Nat.le_of_ble_eq_true rfl) ?_
  intro p e s m args below meth c A F
  refine k_aload_n (n := 1) F dX3_settle_0 rfl 0 rfl rfl ?_
  refine k_iconst (n := 2) (v := 0) F dX3_settle_1 rfl rfl ?_
  refine k_put (n := 5) (ws' := [(a, .inr (3, [.int st, .int tk, .int tr, .int fe, .int pr, .int 0]))]) F uX3 tyX3_ok nmX3 0 5 rfl rfl (by decide) mw_86 rfl rfl rfl (Nat.le_of_ble_eq_true rfl) rfl dX3_settle_2 rfl ?_
  refine k_aload_n (n := 6) F dX3_settle_5 rfl 0 rfl rfl ?_
  refine k_iconst (n := 7) (v := 0) F dX3_settle_6 rfl rfl ?_
  refine k_ci (n := 10) (ws' := [(a, .inr (3, [.int 0, .int 0, .int tr, .int fe, .int pr, .int 0]))]) F (k_rV (k := 1) (b := a) (As := [.int 0]) (rest := []) F (c_enter l g a st tk tr fe pr 0 0) [0] rfl rfl 0 rfl rfl mw_379 mw_376 mw_377 mw_378 mw_4 (by decide) ⟨by decide, by decide⟩ rfl (Nat.le_of_ble_eq_true rfl) ⟨by decide, by decide⟩ dX3_settle_7) [0] [] [0] rfl rfl rfl (by decide) rfl rfl rfl ?_
  exact k_iret F rfl rfl dX3_settle_10
set_option maxRecDepth 100000 in
set_option maxHeartbeats 4000000 in
theorem c_moveValve (l : Launch) (g : kG) (a : Nat) (st tk tr fe pr ve : Int32) : kM l yX3_moveValve cX3_moveValve 1 none (rmK 0 0 0 0) g [.ref a] [(a, .inr (3, [.int st, .int tk, .int tr, .int fe, .int pr, .int ve]))] (kDv g [(a, .inr (3, [.int st, .int tk, .int tr, .int (mvF tk fe), .int (mvP tk pr), .int (mvV tk ve)]))]) := by
  refine k_enter (by decide) (Nat.le_of_ble_eq_true rfl) ?_
  intro p e s m args below meth c A F
  refine k_aload_n (n := 1) F dX3_moveValve_0 rfl 0 rfl rfl ?_
  refine k_get (n := 4) (v := .int tk) F uX3 0 1 rfl rfl (by decide) mw_79 rfl dX3_moveValve_1 rfl ?_
  by_cases hc1 : tk = 1
  · refine k_tableIn (off := 28) (tgt := 32) F dX3_moveValve_4 (by rw [hc1]; decide) (by rw [hc1]; decide) (by rw [hc1]; rfl) (by decide) ?_
    refine k_aload_n (n := 33) F dX3_moveValve_32 rfl 0 rfl rfl ?_
    refine k_iconst (n := 34) (v := 0) F dX3_moveValve_33 rfl rfl ?_
    refine k_put (n := 37) (ws' := [(a, .inr (3, [.int st, .int tk, .int tr, .int 0, .int pr, .int ve]))]) F uX3 tyX3_ok nmX3 0 3 rfl rfl (by decide) mw_82 rfl rfl rfl (Nat.le_of_ble_eq_true rfl) rfl dX3_moveValve_34 rfl ?_
    refine k_goto (tgt := 56) F dX3_moveValve_37 (by decide) ?_
    exact k_vret F (by first | rfl | (simp [mvF, mvP, mvV, hc1]; done) | (simp_all [mvF, mvP, mvV, hc1]; done)) dX3_moveValve_56
  by_cases hc2 : tk = 2
  · refine k_tableIn (off := 36) (tgt := 40) F dX3_moveValve_4 (by rw [hc2]; decide) (by rw [hc2]; decide) (by rw [hc2]; rfl) (by decide) ?_
    refine k_aload_n (n := 41) F dX3_moveValve_40 rfl 0 rfl rfl ?_
    refine k_iconst (n := 42) (v := 0) F dX3_moveValve_41 rfl rfl ?_
    refine k_put (n := 45) (ws' := [(a, .inr (3, [.int st, .int tk, .int tr, .int fe, .int 0, .int ve]))]) F uX3 tyX3_ok nmX3 0 4 rfl rfl (by decide) mw_84 rfl rfl rfl (Nat.le_of_ble_eq_true rfl) rfl dX3_moveValve_42 rfl ?_
    refine k_goto (tgt := 56) F dX3_moveValve_45 (by decide) ?_
    exact k_vret F (by first | rfl | (simp [mvF, mvP, mvV, hc1, hc2]; done) | (simp_all [mvF, mvP, mvV, hc1, hc2]; done)) dX3_moveValve_56
  by_cases hc3 : tk = 3
  · refine k_tableIn (off := 44) (tgt := 48) F dX3_moveValve_4 (by rw [hc3]; decide) (by rw [hc3]; decide) (by rw [hc3]; rfl) (by decide) ?_
    refine k_aload_n (n := 49) F dX3_moveValve_48 rfl 0 rfl rfl ?_
    refine k_iconst (n := 50) (v := 1) F dX3_moveValve_49 rfl rfl ?_
    refine k_put (n := 53) (ws' := [(a, .inr (3, [.int st, .int tk, .int tr, .int fe, .int pr, .int 1]))]) F uX3 tyX3_ok nmX3 0 5 rfl rfl (by decide) mw_86 rfl rfl rfl (Nat.le_of_ble_eq_true rfl) rfl dX3_moveValve_50 rfl ?_
    refine k_goto (tgt := 56) F dX3_moveValve_53 (by decide) ?_
    exact k_vret F (by first | rfl | (simp [mvF, mvP, mvV, hc1, hc2, hc3]; done) | (simp_all [mvF, mvP, mvV, hc1, hc2, hc3]; done)) dX3_moveValve_56
  refine k_tableOut (tgt := 56) F dX3_moveValve_4 (by have z0 := lv_neT hc1 (show (1 : Int32).toInt = 1 from rfl); have z1 := lv_neT hc2 (show (2 : Int32).toInt = 2 from rfl); have z2 := lv_neT hc3 (show (3 : Int32).toInt = 3 from rfl); omega) (by decide) ?_
  exact k_vret F (by first | rfl | (simp [mvF, mvP, mvV, hc1, hc2, hc3]; done) | (simp_all [mvF, mvP, mvV, hc1, hc2, hc3]; done)) dX3_moveValve_56
set_option maxRecDepth 100000 in
set_option maxHeartbeats 4000000 in
theorem c_passTick (l : Launch) (g : kG) (a : Nat) (st tk tr fe pr ve : Int32) : kM l yX3_passTick cX3_passTick 1 (some .boolean) (rmK 1 0 0 20) g [.ref a] [(a, .inr (3, [.int st, .int tk, .int tr, .int fe, .int pr, .int ve]))] (kDi g (ptR st tk) [(a, .inr (3, [.int st, .int (tk + 1), .int tr, .int (ptF st tk fe), .int (ptP st tk pr), .int (ptV st tk ve)]))]) := by
  refine k_enter (by decide) (Nat.le_of_ble_eq_true rfl) ?_
  intro p e s m args below meth c A F
  refine k_aload_n (n := 1) F dX3_passTick_0 rfl 0 rfl rfl ?_
  refine k_dup (n := 2) F dX3_passTick_1 rfl rfl ?_
  refine k_get (n := 5) (v := .int tk) F uX3 0 1 rfl rfl (by decide) mw_79 rfl dX3_passTick_2 rfl ?_
  refine k_iconst (n := 6) (v := 1) F dX3_passTick_5 rfl rfl ?_
  refine k_iadd (n := 7) F dX3_passTick_6 rfl ?_
  refine k_put (n := 10) (ws' := [(a, .inr (3, [.int st, .int (tk + 1), .int tr, .int fe, .int pr, .int ve]))]) F uX3 tyX3_ok nmX3 0 1 rfl rfl (by decide) mw_79 rfl rfl rfl (Nat.le_of_ble_eq_true rfl) rfl dX3_passTick_7 rfl ?_
  refine k_aload_n (n := 11) F dX3_passTick_10 rfl 0 rfl rfl ?_
  refine k_get (n := 14) (v := .int st) F uX3 0 0 rfl rfl (by decide) mw_77 rfl dX3_passTick_11 rfl ?_
  by_cases hc1 : st = 1
  · refine k_tableIn (off := 30) (tgt := 44) F dX3_passTick_14 (by rw [hc1]; decide) (by rw [hc1]; decide) (by rw [hc1]; rfl) (by decide) ?_
    refine k_iconst (n := 45) (v := 1) F dX3_passTick_44 rfl rfl ?_
    exact k_zret F rfl (by first | rfl | (simp [ptR, ptF, ptP, ptV, hc1]; done) | (simp_all [ptR, ptF, ptP, ptV, hc1]; done)) (by first | rfl | (simp [ptR, ptF, ptP, ptV, hc1]; done) | (simp_all [ptR, ptF, ptP, ptV, hc1]; done)) dX3_passTick_45
  by_cases hc2 : st = 2
  · refine k_tableIn (off := 30) (tgt := 44) F dX3_passTick_14 (by rw [hc2]; decide) (by rw [hc2]; decide) (by rw [hc2]; rfl) (by decide) ?_
    refine k_iconst (n := 45) (v := 1) F dX3_passTick_44 rfl rfl ?_
    exact k_zret F rfl (by first | rfl | (simp [ptR, ptF, ptP, ptV, hc1, hc2]; done) | (simp_all [ptR, ptF, ptP, ptV, hc1, hc2]; done)) (by first | rfl | (simp [ptR, ptF, ptP, ptV, hc1, hc2]; done) | (simp_all [ptR, ptF, ptP, ptV, hc1, hc2]; done)) dX3_passTick_45
  by_cases hc3 : st = 3
  · refine k_tableIn (off := 32) (tgt := 46) F dX3_passTick_14 (by rw [hc3]; decide) (by rw [hc3]; decide) (by rw [hc3]; rfl) (by decide) ?_
    refine k_aload_n (n := 47) F dX3_passTick_46 rfl 0 rfl rfl ?_
    refine k_get (n := 50) (v := .int (tk + 1)) F uX3 0 1 rfl rfl (by decide) mw_79 rfl dX3_passTick_47 rfl ?_
    refine k_iconst (n := 51) (v := 2) F dX3_passTick_50 rfl rfl ?_
    refine k_irem (n := 52) F dX3_passTick_51 (by decide) rfl ?_
    refine k_iconst (n := 53) (v := 1) F dX3_passTick_52 rfl rfl ?_
    refine k_icmp_ne (n := 56) (tgt := 60) F dX3_passTick_53 (by decide) rfl (fun hc4 => ?_) (fun hc4 => ?_)
    · refine k_iconst (n := 61) (v := 0) F dX3_passTick_60 rfl rfl ?_
      exact k_zret F rfl (by first | rfl | (simp [ptR, ptF, ptP, ptV, hc1, hc2, hc3, hc4]; done) | (simp_all [ptR, ptF, ptP, ptV, hc1, hc2, hc3, hc4]; done)) (by first | rfl | (simp [ptR, ptF, ptP, ptV, hc1, hc2, hc3, hc4]; done) | (simp_all [ptR, ptF, ptP, ptV, hc1, hc2, hc3, hc4]; done)) dX3_passTick_61
    · refine k_iconst (n := 57) (v := 1) F dX3_passTick_56 rfl rfl ?_
      refine k_goto (tgt := 61) F dX3_passTick_57 (by decide) ?_
      exact k_zret F rfl (by first | rfl | (simp [ptR, ptF, ptP, ptV, hc1, hc2, hc3, hc4]; done) | (simp_all [ptR, ptF, ptP, ptV, hc1, hc2, hc3, hc4]; done)) (by first | rfl | (simp [ptR, ptF, ptP, ptV, hc1, hc2, hc3, hc4]; done) | (simp_all [ptR, ptF, ptP, ptV, hc1, hc2, hc3, hc4]; done)) dX3_passTick_61
  by_cases hc5 : st = 4
  · refine k_tableIn (off := 48) (tgt := 62) F dX3_passTick_14 (by rw [hc5]; decide) (by rw [hc5]; decide) (by rw [hc5]; rfl) (by decide) ?_
    refine k_aload_n (n := 63) F dX3_passTick_62 rfl 0 rfl rfl ?_
    refine k_cv (n := 66) (ws' := [(a, .inr (3, [.int st, .int (tk + 1), .int tr, .int (mvF (tk + 1) fe), .int (mvP (tk + 1) pr), .int (mvV (tk + 1) ve)]))]) F (k_rV (k := 0) (b := a) (As := []) (rest := []) F (c_moveValve l g a st (tk + 1) tr fe pr ve) [0] rfl rfl 0 rfl rfl mw_438 mw_435 mw_437 mw_s10 mw_4 (by decide) ⟨by decide, by decide⟩ rfl (Nat.le_of_ble_eq_true rfl) ⟨by decide, by decide⟩ dX3_passTick_63) [0] [] [0] rfl rfl rfl (by decide) rfl rfl rfl ?_
    refine k_iconst (n := 67) (v := 0) F dX3_passTick_66 rfl rfl ?_
    exact k_zret F rfl (by first | rfl | (simp [ptR, ptF, ptP, ptV, hc1, hc2, hc3, hc5]; done) | (simp_all [ptR, ptF, ptP, ptV, hc1, hc2, hc3, hc5]; done)) (by first | rfl | (simp [ptR, ptF, ptP, ptV, hc1, hc2, hc3, hc5]; done) | (simp_all [ptR, ptF, ptP, ptV, hc1, hc2, hc3, hc5]; done)) dX3_passTick_67
  refine k_tableOut (tgt := 68) F dX3_passTick_14 (by have z0 := lv_neT hc1 (show (1 : Int32).toInt = 1 from rfl); have z1 := lv_neT hc2 (show (2 : Int32).toInt = 2 from rfl); have z2 := lv_neT hc3 (show (3 : Int32).toInt = 3 from rfl); have z3 := lv_neT hc5 (show (4 : Int32).toInt = 4 from rfl); omega) (by decide) ?_
  refine k_iconst (n := 69) (v := 0) F dX3_passTick_68 rfl rfl ?_
  exact k_zret F rfl (by first | rfl | (simp [ptR, ptF, ptP, ptV, hc1, hc2, hc3, hc5]; done) | (simp_all [ptR, ptF, ptP, ptV, hc1, hc2, hc3, hc5]; done)) (by first | rfl | (simp [ptR, ptF, ptP, ptV, hc1, hc2, hc3, hc5]; done) | (simp_all [ptR, ptF, ptP, ptV, hc1, hc2, hc3, hc5]; done)) dX3_passTick_69
