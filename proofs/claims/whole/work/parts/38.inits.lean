/-- addresses by a row -/
def adL (l : List Nat) (k : Nat) : Nat := l.getD k 0
/-- the state of new works; before: ahead of the reference's fresh -/
def u0r : kS := (upd (upd (fun _ => 0) 6 4) 9 20, fun _ => 0, va_up (va_up (fun _ _ => 0) 10 (upd (upd (upd (upd (upd (fun _ => 0) 0 (-9)) 2 300) 3 500) 4 20) 5 6)) 22 (upd (fun _ => 0) 0 1), fun _ => 0)
def u0 : kS := s_fresh u0r
set_option maxRecDepth 100000 in
set_option maxHeartbeats 4000000 in
theorem c_iAdsorber (l : Launch) (g : kG) (a : Nat) (x : Int32) : kM l yX0_init cX0_init 2 none (rmK 1 0 0 12) g [.ref a, .int x] [(a, .inr (0, [.int 0, .int 0, .int 0]))] (kDv g [(a, .inr (0, [.int x, .int 0, .int 0]))]) := by
  refine k_enter (by decide) (Nat.le_of_ble_eq_true rfl) ?_
  intro p e s m args below meth c A F
  refine k_aload_n (n := 1) F dX0_init_0 rfl 0 rfl rfl ?_
  refine k_objInit (n := 4) F mw_112 mw_21 mw_22 dX0_init_1 (by decide) (Nat.le_of_ble_eq_true rfl) rfl ?_
  refine k_aload_n (n := 5) F dX0_init_4 rfl 0 rfl rfl ?_
  refine k_iconst (n := 6) (v := 0) F dX0_init_5 rfl rfl ?_
  refine k_put (n := 9) (ws' := [(a, .inr (0, [.int 0, .int 0, .int 0]))]) F uX0 tyX0_ok nmX0 0 1 rfl rfl (by decide) mw_115 rfl rfl rfl (Nat.le_of_ble_eq_true rfl) rfl dX0_init_6 rfl ?_
  refine k_aload_n (n := 10) F dX0_init_9 rfl 0 rfl rfl ?_
  refine k_iconst (n := 11) (v := 0) F dX0_init_10 rfl rfl ?_
  refine k_put (n := 14) (ws' := [(a, .inr (0, [.int 0, .int 0, .int 0]))]) F uX0 tyX0_ok nmX0 0 2 rfl rfl (by decide) mw_117 rfl rfl rfl (Nat.le_of_ble_eq_true rfl) rfl dX0_init_11 rfl ?_
  refine k_aload_n (n := 15) F dX0_init_14 rfl 0 rfl rfl ?_
  refine k_iload_n (n := 16) F dX0_init_15 rfl 1 rfl rfl ?_
  refine k_put (n := 19) (ws' := [(a, .inr (0, [.int x, .int 0, .int 0]))]) F uX0 tyX0_ok nmX0 0 0 rfl rfl (by decide) mw_113 rfl rfl rfl (Nat.le_of_ble_eq_true rfl) rfl dX0_init_16 rfl ?_
  exact k_vret F rfl dX0_init_19
set_option maxRecDepth 100000 in
set_option maxHeartbeats 4000000 in
theorem c_iControls (l : Launch) (g : kG) (a : Nat) : kM l yX3_init cX3_init 1 none (rmK 1 0 0 12) g [.ref a] [(a, .inr (3, [.int 0, .int 0, .int 0, .int 0, .int 0, .int 0]))] (kDv g [(a, .inr (3, [.int 0, .int 0, .int 0, .int 0, .int 0, .int 0]))]) := by
  refine k_enter (by decide) (Nat.le_of_ble_eq_true rfl) ?_
  intro p e s m args below meth c A F
  refine k_aload_n (n := 1) F dX3_init_0 rfl 0 rfl rfl ?_
  refine k_objInit (n := 4) F mw_76 mw_21 mw_22 dX3_init_1 (by decide) (Nat.le_of_ble_eq_true rfl) rfl ?_
  refine k_aload_n (n := 5) F dX3_init_4 rfl 0 rfl rfl ?_
  refine k_iconst (n := 6) (v := 0) F dX3_init_5 rfl rfl ?_
  refine k_put (n := 9) (ws' := [(a, .inr (3, [.int 0, .int 0, .int 0, .int 0, .int 0, .int 0]))]) F uX3 tyX3_ok nmX3 0 0 rfl rfl (by decide) mw_77 rfl rfl rfl (Nat.le_of_ble_eq_true rfl) rfl dX3_init_6 rfl ?_
  refine k_aload_n (n := 10) F dX3_init_9 rfl 0 rfl rfl ?_
  refine k_iconst (n := 11) (v := 0) F dX3_init_10 rfl rfl ?_
  refine k_put (n := 14) (ws' := [(a, .inr (3, [.int 0, .int 0, .int 0, .int 0, .int 0, .int 0]))]) F uX3 tyX3_ok nmX3 0 1 rfl rfl (by decide) mw_79 rfl rfl rfl (Nat.le_of_ble_eq_true rfl) rfl dX3_init_11 rfl ?_
  refine k_aload_n (n := 15) F dX3_init_14 rfl 0 rfl rfl ?_
  refine k_iconst (n := 16) (v := 0) F dX3_init_15 rfl rfl ?_
  refine k_put (n := 19) (ws' := [(a, .inr (3, [.int 0, .int 0, .int 0, .int 0, .int 0, .int 0]))]) F uX3 tyX3_ok nmX3 0 2 rfl rfl (by decide) mw_80 rfl rfl rfl (Nat.le_of_ble_eq_true rfl) rfl dX3_init_16 rfl ?_
  refine k_aload_n (n := 20) F dX3_init_19 rfl 0 rfl rfl ?_
  refine k_iconst (n := 21) (v := 0) F dX3_init_20 rfl rfl ?_
  refine k_put (n := 24) (ws' := [(a, .inr (3, [.int 0, .int 0, .int 0, .int 0, .int 0, .int 0]))]) F uX3 tyX3_ok nmX3 0 3 rfl rfl (by decide) mw_82 rfl rfl rfl (Nat.le_of_ble_eq_true rfl) rfl dX3_init_21 rfl ?_
  refine k_aload_n (n := 25) F dX3_init_24 rfl 0 rfl rfl ?_
  refine k_iconst (n := 26) (v := 0) F dX3_init_25 rfl rfl ?_
  refine k_put (n := 29) (ws' := [(a, .inr (3, [.int 0, .int 0, .int 0, .int 0, .int 0, .int 0]))]) F uX3 tyX3_ok nmX3 0 4 rfl rfl (by decide) mw_84 rfl rfl rfl (Nat.le_of_ble_eq_true rfl) rfl dX3_init_26 rfl ?_
  refine k_aload_n (n := 30) F dX3_init_29 rfl 0 rfl rfl ?_
  refine k_iconst (n := 31) (v := 0) F dX3_init_30 rfl rfl ?_
  refine k_put (n := 34) (ws' := [(a, .inr (3, [.int 0, .int 0, .int 0, .int 0, .int 0, .int 0]))]) F uX3 tyX3_ok nmX3 0 5 rfl rfl (by decide) mw_86 rfl rfl rfl (Nat.le_of_ble_eq_true rfl) rfl dX3_init_31 rfl ?_
  exact k_vret F rfl dX3_init_34
set_option maxRecDepth 100000 in
set_option maxHeartbeats 4000000 in
theorem c_iStore (l : Launch) (g : kG) (a : Nat) : kM l yX6_init cX6_init 1 none (rmK 1 0 0 12) g [.ref a] [(a, .inr (6, [.int 0, .int 0, .int 0, .long 0, .long 0, .long 0]))] (kDv g [(a, .inr (6, [.int 500, .int 0, .int 0, .long 0, .long 0, .long 0]))]) := by
  refine k_enter (by decide) (Nat.le_of_ble_eq_true rfl) ?_
  intro p e s m args below meth c A F
  refine k_aload_n (n := 1) F dX6_init_0 rfl 0 rfl rfl ?_
  refine k_objInit (n := 4) F mw_145 mw_21 mw_22 dX6_init_1 (by decide) (Nat.le_of_ble_eq_true rfl) rfl ?_
  refine k_aload_n (n := 5) F dX6_init_4 rfl 0 rfl rfl ?_
  refine k_sipush (n := 8) (v := 500) F dX6_init_5 rfl rfl ?_
  refine k_put (n := 11) (ws' := [(a, .inr (6, [.int 500, .int 0, .int 0, .long 0, .long 0, .long 0]))]) F uX6 tyX6_ok nmX6 0 0 rfl rfl (by decide) mw_146 rfl rfl rfl (Nat.le_of_ble_eq_true rfl) rfl dX6_init_8 rfl ?_
  refine k_aload_n (n := 12) F dX6_init_11 rfl 0 rfl rfl ?_
  refine k_iconst (n := 13) (v := 0) F dX6_init_12 rfl rfl ?_
  refine k_put (n := 16) (ws' := [(a, .inr (6, [.int 500, .int 0, .int 0, .long 0, .long 0, .long 0]))]) F uX6 tyX6_ok nmX6 0 1 rfl rfl (by decide) mw_148 rfl rfl rfl (Nat.le_of_ble_eq_true rfl) rfl dX6_init_13 rfl ?_
  refine k_aload_n (n := 17) F dX6_init_16 rfl 0 rfl rfl ?_
  refine k_iconst (n := 18) (v := 0) F dX6_init_17 rfl rfl ?_
  refine k_put (n := 21) (ws' := [(a, .inr (6, [.int 500, .int 0, .int 0, .long 0, .long 0, .long 0]))]) F uX6 tyX6_ok nmX6 0 2 rfl rfl (by decide) mw_150 rfl rfl rfl (Nat.le_of_ble_eq_true rfl) rfl dX6_init_18 rfl ?_
  refine k_aload_n (n := 22) F dX6_init_21 rfl 0 rfl rfl ?_
  refine k_lconst (n := 23) (v := 0) F dX6_init_22 rfl rfl ?_
  refine k_put (n := 26) (ws' := [(a, .inr (6, [.int 500, .int 0, .int 0, .long 0, .long 0, .long 0]))]) F uX6 tyX6_ok nmX6 0 3 rfl rfl (by decide) mw_152 rfl rfl rfl (Nat.le_of_ble_eq_true rfl) rfl dX6_init_23 rfl ?_
  refine k_aload_n (n := 27) F dX6_init_26 rfl 0 rfl rfl ?_
  refine k_lconst (n := 28) (v := 0) F dX6_init_27 rfl rfl ?_
  refine k_put (n := 31) (ws' := [(a, .inr (6, [.int 500, .int 0, .int 0, .long 0, .long 0, .long 0]))]) F uX6 tyX6_ok nmX6 0 4 rfl rfl (by decide) mw_153 rfl rfl rfl (Nat.le_of_ble_eq_true rfl) rfl dX6_init_28 rfl ?_
  refine k_aload_n (n := 32) F dX6_init_31 rfl 0 rfl rfl ?_
  refine k_lconst (n := 33) (v := 0) F dX6_init_32 rfl rfl ?_
  refine k_put (n := 36) (ws' := [(a, .inr (6, [.int 500, .int 0, .int 0, .long 0, .long 0, .long 0]))]) F uX6 tyX6_ok nmX6 0 5 rfl rfl (by decide) mw_154 rfl rfl rfl (Nat.le_of_ble_eq_true rfl) rfl dX6_init_33 rfl ?_
  exact k_vret F rfl dX6_init_36
set_option maxRecDepth 100000 in
set_option maxHeartbeats 4000000 in
theorem c_iThrottle_7 (l : Launch) (g : kG) (a : Nat) : kM l yX7_init cX7_init 1 none (rmK 1 0 0 12) g [.ref a] [(a, .inr (7, []))] (kDv g [(a, .inr (7, []))]) := by
  refine k_enter (by decide) (Nat.le_of_ble_eq_true rfl) ?_
  intro p e s m args below meth c A F
  refine k_aload_n (n := 1) F dX7_init_0 rfl 0 rfl rfl ?_
  refine k_objInit (n := 4) F mw_254 mw_21 mw_22 dX7_init_1 (by decide) (Nat.le_of_ble_eq_true rfl) rfl ?_
  exact k_vret F rfl dX7_init_4
set_option maxRecDepth 100000 in
set_option maxHeartbeats 4000000 in
theorem c_iThrottle_8 (l : Launch) (g : kG) (a : Nat) : kM l yX7_init cX7_init 1 none (rmK 1 0 0 12) g [.ref a] [(a, .inr (8, [.null]))] (kDv g [(a, .inr (8, [.null]))]) := by
  refine k_enter (by decide) (Nat.le_of_ble_eq_true rfl) ?_
  intro p e s m args below meth c A F
  refine k_aload_n (n := 1) F dX7_init_0 rfl 0 rfl rfl ?_
  refine k_objInit (n := 4) F mw_254 mw_21 mw_22 dX7_init_1 (by decide) (Nat.le_of_ble_eq_true rfl) rfl ?_
  exact k_vret F rfl dX7_init_4
set_option maxRecDepth 100000 in
set_option maxHeartbeats 4000000 in
theorem c_iThrottle_2 (l : Launch) (g : kG) (a : Nat) : kM l yX7_init cX7_init 1 none (rmK 1 0 0 12) g [.ref a] [(a, .inr (2, [.null, .int 0]))] (kDv g [(a, .inr (2, [.null, .int 0]))]) := by
  refine k_enter (by decide) (Nat.le_of_ble_eq_true rfl) ?_
  intro p e s m args below meth c A F
  refine k_aload_n (n := 1) F dX7_init_0 rfl 0 rfl rfl ?_
  refine k_objInit (n := 4) F mw_254 mw_21 mw_22 dX7_init_1 (by decide) (Nat.le_of_ble_eq_true rfl) rfl ?_
  exact k_vret F rfl dX7_init_4
set_option maxRecDepth 100000 in
set_option maxHeartbeats 4000000 in
theorem c_iWheel_8 (l : Launch) (g : kG) (a : Nat) (q : Nat) : kM l yX8_init cX8_init 2 none (rmK 2 0 0 32) g [.ref a, .ref q] [(a, .inr (8, [.null]))] (kDv g [(a, .inr (8, [.ref q]))]) := by
  refine k_enter (by decide) (Nat.le_of_ble_eq_true rfl) ?_
  intro p e s m args below meth c A F
  refine k_aload_n (n := 1) F dX8_init_0 rfl 0 rfl rfl ?_
  refine k_cv (n := 4) (ws' := [(a, .inr (8, [.null]))]) F (k_rIN (k := 0) (b := a) (As := []) (rest := []) F (c_iThrottle_8 l g a) [0] rfl rfl mw_253 nw_27 mw_252 mw_10 rfl (by decide) ⟨by decide, by decide⟩ rfl (Nat.le_of_ble_eq_true rfl) ⟨by decide, by decide⟩ dX8_init_1) [0] [] [0] rfl rfl rfl (by decide) rfl rfl rfl ?_
  refine k_aload_n (n := 5) F dX8_init_4 rfl 0 rfl rfl ?_
  refine k_aload_n (n := 6) F dX8_init_5 rfl 1 rfl rfl ?_
  refine k_putF (n := 9) (ws' := [(a, .inr (8, [.ref q]))]) F uX8 tyX8_ok nmX8 0 0 rfl rfl (by decide) mw_262 rfl rfl rfl rfl rfl (Nat.le_of_ble_eq_true rfl) rfl dX8_init_6 rfl ?_
  exact k_vret F rfl dX8_init_9
set_option maxRecDepth 100000 in
set_option maxHeartbeats 4000000 in
theorem c_iWheel_2 (l : Launch) (g : kG) (a : Nat) (q : Nat) : kM l yX8_init cX8_init 2 none (rmK 2 0 0 32) g [.ref a, .ref q] [(a, .inr (2, [.null, .int 0]))] (kDv g [(a, .inr (2, [.ref q, .int 0]))]) := by
  refine k_enter (by decide) (Nat.le_of_ble_eq_true rfl) ?_
  intro p e s m args below meth c A F
  refine k_aload_n (n := 1) F dX8_init_0 rfl 0 rfl rfl ?_
  refine k_cv (n := 4) (ws' := [(a, .inr (2, [.null, .int 0]))]) F (k_rIN (k := 0) (b := a) (As := []) (rest := []) F (c_iThrottle_2 l g a) [0] rfl rfl mw_253 nw_27 mw_252 mw_10 rfl (by decide) ⟨by decide, by decide⟩ rfl (Nat.le_of_ble_eq_true rfl) ⟨by decide, by decide⟩ dX8_init_1) [0] [] [0] rfl rfl rfl (by decide) rfl rfl rfl ?_
  refine k_aload_n (n := 5) F dX8_init_4 rfl 0 rfl rfl ?_
  refine k_aload_n (n := 6) F dX8_init_5 rfl 1 rfl rfl ?_
  refine k_putF (n := 9) (ws' := [(a, .inr (2, [.ref q, .int 0]))]) F uX2 tyX2_ok nmX2 0 0 rfl rfl (by decide) mw_262 rfl rfl rfl rfl rfl (Nat.le_of_ble_eq_true rfl) rfl dX8_init_6 rfl ?_
  exact k_vret F rfl dX8_init_9
set_option maxRecDepth 100000 in
set_option maxHeartbeats 4000000 in
theorem c_iBraked (l : Launch) (g : kG) (a : Nat) (q : Nat) (lm : Int32) : kM l yX2_init cX2_init 3 none (rmK 3 0 0 53) g [.ref a, .ref q, .int lm] [(a, .inr (2, [.null, .int 0]))] (kDv g [(a, .inr (2, [.ref q, .int lm]))]) := by
  refine k_enter (by decide) (Nat.le_of_ble_eq_true rfl) ?_
  intro p e s m args below meth c A F
  refine k_aload_n (n := 1) F dX2_init_0 rfl 0 rfl rfl ?_
  refine k_aload_n (n := 2) F dX2_init_1 rfl 1 rfl rfl ?_
  refine k_cv (n := 5) (ws' := [(a, .inr (2, [.ref q, .int 0]))]) F (k_rI (k := 1) (b := a) (As := [.ref q]) (rest := []) F (c_iWheel_2 l g a q) [0] rfl rfl mw_260 mw_271 mw_259 mw_11 rfl (by decide) ⟨by decide, by decide⟩ rfl (Nat.le_of_ble_eq_true rfl) ⟨by decide, by decide⟩ dX2_init_2) [0] [] [0] rfl rfl rfl (by decide) rfl rfl rfl ?_
  refine k_aload_n (n := 6) F dX2_init_5 rfl 0 rfl rfl ?_
  refine k_iload_n (n := 7) F dX2_init_6 rfl 2 rfl rfl ?_
  refine k_putF (n := 10) (ws' := [(a, .inr (2, [.ref q, .int lm]))]) F uX2 tyX2_ok nmX2 0 1 rfl rfl (by decide) mw_272 rfl rfl rfl rfl rfl (Nat.le_of_ble_eq_true rfl) rfl dX2_init_7 rfl ?_
  exact k_vret F rfl dX2_init_10
set_option maxRecDepth 100000 in
set_option maxHeartbeats 4000000 in
theorem c_iAdsorbers (l : Launch) (g : kG) (a : Nat) : kM l yX1_init cX1_init 1 none (rmK 2 2 6 33) g [.ref a] [(a, .inr (1, [.null, .null, .int 0, .int 0]))] (kEv g (fun w => ∃ z o : Nat, w = [(a, .inr (1, [.ref z, .ref o, .int 20, .int 6])), (z, .inr (0, [.int 1, .int 0, .int 0])), (o, .inr (0, [.int 0, .int 0, .int 0]))])) := by
  refine k_enter (by decide) (Nat.le_of_ble_eq_true rfl) ?_
  intro p e s m args below meth c A F
  refine k_aload_n (n := 1) F dX1_init_0 rfl 0 rfl rfl ?_
  refine k_objInit (n := 4) F mw_106 mw_21 mw_22 dX1_init_1 (by decide) (Nat.le_of_ble_eq_true rfl) rfl ?_
  refine k_aload_n (n := 5) F dX1_init_4 rfl 0 rfl rfl ?_
  refine k_new (n := 8) (ci := 0) (fs := [.int 0, .int 0, .int 0]) F uX0 tyX0_ok mw_107 mw_108 mw_6 rfl (fun j hj => by match j, hj with | 0, _ => rfl | 1, _ => rfl | 2, _ => rfl) (Nat.le_of_ble_eq_true rfl) (Nat.le_of_ble_eq_true rfl) dX1_init_5 rfl (fun q1 => ?_)
  refine k_world (ws' := [(a, .inr (1, [.null, .null, .int 0, .int 0])), (q1, .inr (0, [.int 0, .int 0, .int 0]))]) rfl ?_
  refine k_dup (n := 9) F dX1_init_8 rfl rfl ?_
  refine k_iconst (n := 10) (v := 1) F dX1_init_9 rfl rfl ?_
  refine k_cv (n := 13) (ws' := [(a, .inr (1, [.null, .null, .int 0, .int 0])), (q1, .inr (0, [.int 1, .int 0, .int 0]))]) F (k_rI (k := 1) (b := q1) (As := [.int 1]) (rest := [.ref q1, .ref a]) F (c_iAdsorber l g q1 1) [1] rfl rfl mw_111 mw_109 mw_110 mw_6 rfl (by decide) ⟨by decide, by decide⟩ rfl (Nat.le_of_ble_eq_true rfl) ⟨by decide, by decide⟩ dX1_init_10) [1] [0] [0, 1] rfl rfl rfl (by decide) rfl rfl rfl ?_
  refine k_putF (n := 16) (ws' := [(a, .inr (1, [.ref q1, .null, .int 0, .int 0])), (q1, .inr (0, [.int 1, .int 0, .int 0]))]) F uX1 tyX1_ok nmX1 0 0 rfl rfl (by decide) mw_125 rfl rfl rfl rfl rfl (Nat.le_of_ble_eq_true rfl) rfl dX1_init_13 rfl ?_
  refine k_aload_n (n := 17) F dX1_init_16 rfl 0 rfl rfl ?_
  refine k_new (n := 20) (ci := 0) (fs := [.int 0, .int 0, .int 0]) F uX0 tyX0_ok mw_107 mw_108 mw_6 rfl (fun j hj => by match j, hj with | 0, _ => rfl | 1, _ => rfl | 2, _ => rfl) (Nat.le_of_ble_eq_true rfl) (Nat.le_of_ble_eq_true rfl) dX1_init_17 rfl (fun q2 => ?_)
  refine k_world (ws' := [(a, .inr (1, [.ref q1, .null, .int 0, .int 0])), (q1, .inr (0, [.int 1, .int 0, .int 0])), (q2, .inr (0, [.int 0, .int 0, .int 0]))]) rfl ?_
  refine k_dup (n := 21) F dX1_init_20 rfl rfl ?_
  refine k_iconst (n := 22) (v := 0) F dX1_init_21 rfl rfl ?_
  refine k_cv (n := 25) (ws' := [(a, .inr (1, [.ref q1, .null, .int 0, .int 0])), (q1, .inr (0, [.int 1, .int 0, .int 0])), (q2, .inr (0, [.int 0, .int 0, .int 0]))]) F (k_rI (k := 1) (b := q2) (As := [.int 0]) (rest := [.ref q2, .ref a]) F (c_iAdsorber l g q2 0) [2] rfl rfl mw_111 mw_109 mw_110 mw_6 rfl (by decide) ⟨by decide, by decide⟩ rfl (Nat.le_of_ble_eq_true rfl) ⟨by decide, by decide⟩ dX1_init_22) [2] [0, 1] [0, 1, 2] rfl rfl rfl (by decide) rfl rfl rfl ?_
  refine k_putF (n := 28) (ws' := [(a, .inr (1, [.ref q1, .ref q2, .int 0, .int 0])), (q1, .inr (0, [.int 1, .int 0, .int 0])), (q2, .inr (0, [.int 0, .int 0, .int 0]))]) F uX1 tyX1_ok nmX1 0 1 rfl rfl (by decide) mw_126 rfl rfl rfl rfl rfl (Nat.le_of_ble_eq_true rfl) rfl dX1_init_25 rfl ?_
  refine k_aload_n (n := 29) F dX1_init_28 rfl 0 rfl rfl ?_
  refine k_bipush (n := 31) (v := 20) F dX1_init_29 rfl rfl ?_
  refine k_put (n := 34) (ws' := [(a, .inr (1, [.ref q1, .ref q2, .int 20, .int 0])), (q1, .inr (0, [.int 1, .int 0, .int 0])), (q2, .inr (0, [.int 0, .int 0, .int 0]))]) F uX1 tyX1_ok nmX1 0 2 rfl rfl (by decide) mw_127 rfl rfl rfl (Nat.le_of_ble_eq_true rfl) rfl dX1_init_31 rfl ?_
  refine k_aload_n (n := 35) F dX1_init_34 rfl 0 rfl rfl ?_
  refine k_bipush (n := 37) (v := 6) F dX1_init_35 rfl rfl ?_
  refine k_put (n := 40) (ws' := [(a, .inr (1, [.ref q1, .ref q2, .int 20, .int 6])), (q1, .inr (0, [.int 1, .int 0, .int 0])), (q2, .inr (0, [.int 0, .int 0, .int 0]))]) F uX1 tyX1_ok nmX1 0 3 rfl rfl (by decide) mw_129 rfl rfl rfl (Nat.le_of_ble_eq_true rfl) rfl dX1_init_37 rfl ?_
  exact k_vretE F ⟨q1, q2, rfl⟩ dX1_init_40
set_option maxRecDepth 100000 in
set_option maxHeartbeats 4000000 in
theorem c_iOrders (l : Launch) (g : kG) (a : Nat) : kM l yX5_init cX5_init 1 none (rmK 1 3 24 12) g [.ref a] [(a, .inr (5, [.null, .null, .null, .int 0, .int 0, .int 0]))] (kEv g (fun w => ∃ w1 d1 b1 : Nat, w = [(a, .inr (5, [.ref w1, .ref d1, .ref b1, .int 0, .int 0, .int 0])), (w1, .inl (g.2 0, 8, .inl (fun _ => 0))), (d1, .inl (g.2 0, 8, .inl (fun _ => 0))), (b1, .inl (g.2 0, 8, .inl (fun _ => 0)))])) := by
  refine k_enter (by decide) (Nat.le_of_ble_eq_true rfl) ?_
  intro p e s m args below meth c A F
  refine k_aload_n (n := 1) F dX5_init_0 rfl 0 rfl rfl ?_
  refine k_objInit (n := 4) F mw_173 mw_21 mw_22 dX5_init_1 (by decide) (Nat.le_of_ble_eq_true rfl) rfl ?_
  refine k_aload_n (n := 5) F dX5_init_4 rfl 0 rfl rfl ?_
  refine k_bipush (n := 7) (v := 8) F dX5_init_5 rfl rfl ?_
  refine k_newI (n := 9) (N := 8) F mw_70 (by decide) rfl (by decide) (Nat.le_of_ble_eq_true rfl) (Nat.le_of_ble_eq_true rfl) dX5_init_7 rfl (fun q1 => ?_)
  refine k_world (ws' := [(a, .inr (5, [.null, .null, .null, .int 0, .int 0, .int 0])), (q1, .inl (g.2 0, 8, .inl (fun _ => 0)))]) rfl ?_
  refine k_putF (n := 12) (ws' := [(a, .inr (5, [.ref q1, .null, .null, .int 0, .int 0, .int 0])), (q1, .inl (g.2 0, 8, .inl (fun _ => 0)))]) F uX5 tyX5_ok nmX5 0 0 rfl rfl (by decide) mw_174 rfl rfl rfl rfl rfl (Nat.le_of_ble_eq_true rfl) rfl dX5_init_9 rfl ?_
  refine k_aload_n (n := 13) F dX5_init_12 rfl 0 rfl rfl ?_
  refine k_bipush (n := 15) (v := 8) F dX5_init_13 rfl rfl ?_
  refine k_newI (n := 17) (N := 8) F mw_70 (by decide) rfl (by decide) (Nat.le_of_ble_eq_true rfl) (Nat.le_of_ble_eq_true rfl) dX5_init_15 rfl (fun q2 => ?_)
  refine k_world (ws' := [(a, .inr (5, [.ref q1, .null, .null, .int 0, .int 0, .int 0])), (q1, .inl (g.2 0, 8, .inl (fun _ => 0))), (q2, .inl (g.2 0, 8, .inl (fun _ => 0)))]) rfl ?_
  refine k_putF (n := 20) (ws' := [(a, .inr (5, [.ref q1, .ref q2, .null, .int 0, .int 0, .int 0])), (q1, .inl (g.2 0, 8, .inl (fun _ => 0))), (q2, .inl (g.2 0, 8, .inl (fun _ => 0)))]) F uX5 tyX5_ok nmX5 0 1 rfl rfl (by decide) mw_175 rfl rfl rfl rfl rfl (Nat.le_of_ble_eq_true rfl) rfl dX5_init_17 rfl ?_
  refine k_aload_n (n := 21) F dX5_init_20 rfl 0 rfl rfl ?_
  refine k_bipush (n := 23) (v := 8) F dX5_init_21 rfl rfl ?_
  refine k_newI (n := 25) (N := 8) F mw_70 (by decide) rfl (by decide) (Nat.le_of_ble_eq_true rfl) (Nat.le_of_ble_eq_true rfl) dX5_init_23 rfl (fun q3 => ?_)
  refine k_world (ws' := [(a, .inr (5, [.ref q1, .ref q2, .null, .int 0, .int 0, .int 0])), (q1, .inl (g.2 0, 8, .inl (fun _ => 0))), (q2, .inl (g.2 0, 8, .inl (fun _ => 0))), (q3, .inl (g.2 0, 8, .inl (fun _ => 0)))]) rfl ?_
  refine k_putF (n := 28) (ws' := [(a, .inr (5, [.ref q1, .ref q2, .ref q3, .int 0, .int 0, .int 0])), (q1, .inl (g.2 0, 8, .inl (fun _ => 0))), (q2, .inl (g.2 0, 8, .inl (fun _ => 0))), (q3, .inl (g.2 0, 8, .inl (fun _ => 0)))]) F uX5 tyX5_ok nmX5 0 2 rfl rfl (by decide) mw_176 rfl rfl rfl rfl rfl (Nat.le_of_ble_eq_true rfl) rfl dX5_init_25 rfl ?_
  refine k_aload_n (n := 29) F dX5_init_28 rfl 0 rfl rfl ?_
  refine k_iconst (n := 30) (v := 0) F dX5_init_29 rfl rfl ?_
  refine k_put (n := 33) (ws' := [(a, .inr (5, [.ref q1, .ref q2, .ref q3, .int 0, .int 0, .int 0])), (q1, .inl (g.2 0, 8, .inl (fun _ => 0))), (q2, .inl (g.2 0, 8, .inl (fun _ => 0))), (q3, .inl (g.2 0, 8, .inl (fun _ => 0)))]) F uX5 tyX5_ok nmX5 0 3 rfl rfl (by decide) mw_177 rfl rfl rfl (Nat.le_of_ble_eq_true rfl) rfl dX5_init_30 rfl ?_
  refine k_aload_n (n := 34) F dX5_init_33 rfl 0 rfl rfl ?_
  refine k_iconst (n := 35) (v := 0) F dX5_init_34 rfl rfl ?_
  refine k_put (n := 38) (ws' := [(a, .inr (5, [.ref q1, .ref q2, .ref q3, .int 0, .int 0, .int 0])), (q1, .inl (g.2 0, 8, .inl (fun _ => 0))), (q2, .inl (g.2 0, 8, .inl (fun _ => 0))), (q3, .inl (g.2 0, 8, .inl (fun _ => 0)))]) F uX5 tyX5_ok nmX5 0 4 rfl rfl (by decide) mw_179 rfl rfl rfl (Nat.le_of_ble_eq_true rfl) rfl dX5_init_35 rfl ?_
  refine k_aload_n (n := 39) F dX5_init_38 rfl 0 rfl rfl ?_
  refine k_iconst (n := 40) (v := 0) F dX5_init_39 rfl rfl ?_
  refine k_put (n := 43) (ws' := [(a, .inr (5, [.ref q1, .ref q2, .ref q3, .int 0, .int 0, .int 0])), (q1, .inl (g.2 0, 8, .inl (fun _ => 0))), (q2, .inl (g.2 0, 8, .inl (fun _ => 0))), (q3, .inl (g.2 0, 8, .inl (fun _ => 0)))]) F uX5 tyX5_ok nmX5 0 5 rfl rfl (by decide) mw_181 rfl rfl rfl (Nat.le_of_ble_eq_true rfl) rfl dX5_init_40 rfl ?_
  exact k_vretE F ⟨q1, q2, q3, rfl⟩ dX5_init_43
set_option maxRecDepth 100000 in
set_option maxHeartbeats 4000000 in
theorem c_iExchanger (l : Launch) (g : kG) (a : Nat) : kM l yX4_init cX4_init 1 none (rmK 2 2 16 45) g [.ref a] [(a, .inr (4, [.null, .null, .int 0, .int 0, .long 0, .long 0, .long 0, .long 0]))] (kEv g (fun w => ∃ w1 c1 : Nat, w = [(a, .inr (4, [.ref w1, .ref c1, .int 4, .int 20, .long 0, .long 0, .long 0, .long 0])), (w1, .inl (g.2 0, 8, .inl (kfill 300 (fun _ => 0) 8))), (c1, .inl (g.2 0, 8, .inl (kfill 300 (fun _ => 0) 8)))])) := by
  refine k_enter (by decide) (Nat.le_of_ble_eq_true rfl) ?_
  intro p e s m args below meth c A F
  refine k_aload_n (n := 1) F dX4_init_0 rfl 0 rfl rfl ?_
  refine k_objInit (n := 4) F mw_30 mw_21 mw_22 dX4_init_1 (by decide) (Nat.le_of_ble_eq_true rfl) rfl ?_
  refine k_aload_n (n := 5) F dX4_init_4 rfl 0 rfl rfl ?_
  refine k_bipush (n := 7) (v := 8) F dX4_init_5 rfl rfl ?_
  refine k_newI (n := 9) (N := 8) F mw_70 (by decide) rfl (by decide) (Nat.le_of_ble_eq_true rfl) (Nat.le_of_ble_eq_true rfl) dX4_init_7 rfl (fun q1 => ?_)
  refine k_world (ws' := [(a, .inr (4, [.null, .null, .int 0, .int 0, .long 0, .long 0, .long 0, .long 0])), (q1, .inl (g.2 0, 8, .inl (fun _ => 0)))]) rfl ?_
  refine k_putF (n := 12) (ws' := [(a, .inr (4, [.ref q1, .null, .int 0, .int 0, .long 0, .long 0, .long 0, .long 0])), (q1, .inl (g.2 0, 8, .inl (fun _ => 0)))]) F uX4 tyX4_ok nmX4 0 0 rfl rfl (by decide) mw_38 rfl rfl rfl rfl rfl (Nat.le_of_ble_eq_true rfl) rfl dX4_init_9 rfl ?_
  refine k_aload_n (n := 13) F dX4_init_12 rfl 0 rfl rfl ?_
  refine k_bipush (n := 15) (v := 8) F dX4_init_13 rfl rfl ?_
  refine k_newI (n := 17) (N := 8) F mw_70 (by decide) rfl (by decide) (Nat.le_of_ble_eq_true rfl) (Nat.le_of_ble_eq_true rfl) dX4_init_15 rfl (fun q2 => ?_)
  refine k_world (ws' := [(a, .inr (4, [.ref q1, .null, .int 0, .int 0, .long 0, .long 0, .long 0, .long 0])), (q1, .inl (g.2 0, 8, .inl (fun _ => 0))), (q2, .inl (g.2 0, 8, .inl (fun _ => 0)))]) rfl ?_
  refine k_putF (n := 20) (ws' := [(a, .inr (4, [.ref q1, .ref q2, .int 0, .int 0, .long 0, .long 0, .long 0, .long 0])), (q1, .inl (g.2 0, 8, .inl (fun _ => 0))), (q2, .inl (g.2 0, 8, .inl (fun _ => 0)))]) F uX4 tyX4_ok nmX4 0 1 rfl rfl (by decide) mw_40 rfl rfl rfl rfl rfl (Nat.le_of_ble_eq_true rfl) rfl dX4_init_17 rfl ?_
  refine k_aload_n (n := 21) F dX4_init_20 rfl 0 rfl rfl ?_
  refine k_iconst (n := 22) (v := 4) F dX4_init_21 rfl rfl ?_
  refine k_bipush (n := 24) (v := 20) F dX4_init_22 rfl rfl ?_
  refine k_cv (n := 27) (ws' := [(a, .inr (4, [.ref q1, .ref q2, .int 4, .int 20, .long 0, .long 0, .long 0, .long 0])), (q1, .inl (g.2 0, 8, .inl (kfill 300 (fun _ => 0) 8))), (q2, .inl (g.2 0, 8, .inl (kfill 300 (fun _ => 0) 8)))]) F (k_rV (k := 2) (b := a) (As := [.int 4, .int 20]) (rest := []) F (c_rebuild l g a q1 q2 0 0 0 0 0 0 (fun _ => 0) (fun _ => 0) 4 20) [0, 1, 2] rfl rfl 0 rfl rfl mw_34 mw_31 mw_32 mw_33 mw_2 (by decide) ⟨by decide, by decide⟩ rfl (Nat.le_of_ble_eq_true rfl) ⟨by decide, by decide⟩ dX4_init_24) [0, 1, 2] [] [0, 1, 2] rfl rfl rfl (by decide) rfl rfl rfl ?_
  exact k_vretE F ⟨q1, q2, rfl⟩ dX4_init_27
set_option maxRecDepth 100000 in
set_option maxHeartbeats 4000000 in
theorem c_init (l : Launch) (g : kG) (a : Nat) : kM l yX9_init cX9_init 1 none (rmK 3 14 86 65) g [.ref a] [(a, .inr (9, [.null, .null, .null, .null, .null, .null, .null, .int 0, .int 0, .int 0, .int 0, .int 0, .long 0]))] (kEv g (fun w => ∃ ad : Nat → Nat, ad 0 = a ∧ w = wC g ad u0 (fun _ => none))) := by
  refine k_enter (by decide) (Nat.le_of_ble_eq_true rfl) ?_
  intro p e s m args below meth c A F
  refine k_aload_n (n := 1) F dX9_init_0 rfl 0 rfl rfl ?_
  refine k_objInit (n := 4) F mw_20 mw_21 mw_22 dX9_init_1 (by decide) (Nat.le_of_ble_eq_true rfl) rfl ?_
  refine k_aload_n (n := 5) F dX9_init_4 rfl 0 rfl rfl ?_
  refine k_bipush (n := 7) (v := 6) F dX9_init_5 rfl rfl ?_
  refine k_newQ (n := 10) (N := 6) F mw_23 (by decide) rfl (by decide) (Nat.le_of_ble_eq_true rfl) (Nat.le_of_ble_eq_true rfl) dX9_init_7 rfl (fun q1 => ?_)
  refine k_world (ws' := [(a, .inr (9, [.null, .null, .null, .null, .null, .null, .null, .int 0, .int 0, .int 0, .int 0, .int 0, .long 0])), (q1, .inl (g.2 3, 6, .inr (.inr (.inr (.inr (fun _ => none))))))]) rfl ?_
  refine k_putF (n := 13) (ws' := [(a, .inr (9, [.ref q1, .null, .null, .null, .null, .null, .null, .int 0, .int 0, .int 0, .int 0, .int 0, .long 0])), (q1, .inl (g.2 3, 6, .inr (.inr (.inr (.inr (fun _ => none))))))]) F uX9 tyX9_ok nmX9 0 0 rfl rfl (by decide) mw_196 rfl rfl rfl rfl rfl (Nat.le_of_ble_eq_true rfl) rfl dX9_init_10 rfl ?_
  refine k_aload_n (n := 14) F dX9_init_13 rfl 0 rfl rfl ?_
  refine k_new (n := 17) (ci := 4) (fs := [.null, .null, .int 0, .int 0, .long 0, .long 0, .long 0, .long 0]) F uX4 tyX4_ok mw_25 mw_26 mw_2 rfl (fun j hj => by match j, hj with | 0, _ => rfl | 1, _ => rfl | 2, _ => rfl | 3, _ => rfl | 4, _ => rfl | 5, _ => rfl | 6, _ => rfl | 7, _ => rfl) (Nat.le_of_ble_eq_true rfl) (Nat.le_of_ble_eq_true rfl) dX9_init_14 rfl (fun q2 => ?_)
  refine k_world (ws' := [(a, .inr (9, [.ref q1, .null, .null, .null, .null, .null, .null, .int 0, .int 0, .int 0, .int 0, .int 0, .long 0])), (q1, .inl (g.2 3, 6, .inr (.inr (.inr (.inr (fun _ => none)))))), (q2, .inr (4, [.null, .null, .int 0, .int 0, .long 0, .long 0, .long 0, .long 0]))]) rfl ?_
  refine k_dup (n := 18) F dX9_init_17 rfl rfl ?_
  refine k_ev (n := 21) (wr := [(a, .inr (9, [.ref q1, .null, .null, .null, .null, .null, .null, .int 0, .int 0, .int 0, .int 0, .int 0, .long 0])), (q1, .inl (g.2 3, 6, .inr (.inr (.inr (.inr (fun _ => none))))))]) F (k_rI (k := 0) (b := q2) (As := []) (rest := [.ref q2, .ref a]) F (c_iExchanger l g q2) [2] rfl rfl mw_29 mw_27 mw_28 mw_2 rfl (by decide) ⟨by decide, by decide⟩ rfl (Nat.le_of_ble_eq_true rfl) ⟨by decide, by decide⟩ dX9_init_18) [2] [0, 1] rfl rfl rfl (by decide) rfl ?_
  intro u9 hu9
  obtain ⟨q3, q4, rfl⟩ := hu9
  refine k_world (ws' := [(a, .inr (9, [.ref q1, .null, .null, .null, .null, .null, .null, .int 0, .int 0, .int 0, .int 0, .int 0, .long 0])), (q1, .inl (g.2 3, 6, .inr (.inr (.inr (.inr (fun _ => none)))))), (q2, .inr (4, [.ref q3, .ref q4, .int 4, .int 20, .long 0, .long 0, .long 0, .long 0])), (q3, .inl (g.2 0, 8, .inl (kfill 300 (fun _ => 0) 8))), (q4, .inl (g.2 0, 8, .inl (kfill 300 (fun _ => 0) 8)))]) rfl ?_
  refine k_putF (n := 24) (ws' := [(a, .inr (9, [.ref q1, .ref q2, .null, .null, .null, .null, .null, .int 0, .int 0, .int 0, .int 0, .int 0, .long 0])), (q1, .inl (g.2 3, 6, .inr (.inr (.inr (.inr (fun _ => none)))))), (q2, .inr (4, [.ref q3, .ref q4, .int 4, .int 20, .long 0, .long 0, .long 0, .long 0])), (q3, .inl (g.2 0, 8, .inl (kfill 300 (fun _ => 0) 8))), (q4, .inl (g.2 0, 8, .inl (kfill 300 (fun _ => 0) 8)))]) F uX9 tyX9_ok nmX9 0 1 rfl rfl (by decide) mw_197 rfl rfl rfl rfl rfl (Nat.le_of_ble_eq_true rfl) rfl dX9_init_21 rfl ?_
  refine k_aload_n (n := 25) F dX9_init_24 rfl 0 rfl rfl ?_
  refine k_new (n := 28) (ci := 3) (fs := [.int 0, .int 0, .int 0, .int 0, .int 0, .int 0]) F uX3 tyX3_ok mw_71 mw_72 mw_4 rfl (fun j hj => by match j, hj with | 0, _ => rfl | 1, _ => rfl | 2, _ => rfl | 3, _ => rfl | 4, _ => rfl | 5, _ => rfl) (Nat.le_of_ble_eq_true rfl) (Nat.le_of_ble_eq_true rfl) dX9_init_25 rfl (fun q5 => ?_)
  refine k_world (ws' := [(a, .inr (9, [.ref q1, .ref q2, .null, .null, .null, .null, .null, .int 0, .int 0, .int 0, .int 0, .int 0, .long 0])), (q1, .inl (g.2 3, 6, .inr (.inr (.inr (.inr (fun _ => none)))))), (q2, .inr (4, [.ref q3, .ref q4, .int 4, .int 20, .long 0, .long 0, .long 0, .long 0])), (q3, .inl (g.2 0, 8, .inl (kfill 300 (fun _ => 0) 8))), (q4, .inl (g.2 0, 8, .inl (kfill 300 (fun _ => 0) 8))), (q5, .inr (3, [.int 0, .int 0, .int 0, .int 0, .int 0, .int 0]))]) rfl ?_
  refine k_dup (n := 29) F dX9_init_28 rfl rfl ?_
  refine k_cv (n := 32) (ws' := [(a, .inr (9, [.ref q1, .ref q2, .null, .null, .null, .null, .null, .int 0, .int 0, .int 0, .int 0, .int 0, .long 0])), (q1, .inl (g.2 3, 6, .inr (.inr (.inr (.inr (fun _ => none)))))), (q2, .inr (4, [.ref q3, .ref q4, .int 4, .int 20, .long 0, .long 0, .long 0, .long 0])), (q3, .inl (g.2 0, 8, .inl (kfill 300 (fun _ => 0) 8))), (q4, .inl (g.2 0, 8, .inl (kfill 300 (fun _ => 0) 8))), (q5, .inr (3, [.int 0, .int 0, .int 0, .int 0, .int 0, .int 0]))]) F (k_rIN (k := 0) (b := q5) (As := []) (rest := [.ref q5, .ref a]) F (c_iControls l g q5) [5] rfl rfl mw_75 nw_7 mw_74 mw_4 rfl (by decide) ⟨by decide, by decide⟩ rfl (Nat.le_of_ble_eq_true rfl) ⟨by decide, by decide⟩ dX9_init_29) [5] [0, 1, 2, 3, 4] [0, 1, 2, 3, 4, 5] rfl rfl rfl (by decide) rfl rfl rfl ?_
  refine k_putF (n := 35) (ws' := [(a, .inr (9, [.ref q1, .ref q2, .ref q5, .null, .null, .null, .null, .int 0, .int 0, .int 0, .int 0, .int 0, .long 0])), (q1, .inl (g.2 3, 6, .inr (.inr (.inr (.inr (fun _ => none)))))), (q2, .inr (4, [.ref q3, .ref q4, .int 4, .int 20, .long 0, .long 0, .long 0, .long 0])), (q3, .inl (g.2 0, 8, .inl (kfill 300 (fun _ => 0) 8))), (q4, .inl (g.2 0, 8, .inl (kfill 300 (fun _ => 0) 8))), (q5, .inr (3, [.int 0, .int 0, .int 0, .int 0, .int 0, .int 0]))]) F uX9 tyX9_ok nmX9 0 2 rfl rfl (by decide) mw_198 rfl rfl rfl rfl rfl (Nat.le_of_ble_eq_true rfl) rfl dX9_init_32 rfl ?_
  refine k_aload_n (n := 36) F dX9_init_35 rfl 0 rfl rfl ?_
  refine k_new (n := 39) (ci := 1) (fs := [.null, .null, .int 0, .int 0]) F uX1 tyX1_ok mw_101 mw_102 mw_5 rfl (fun j hj => by match j, hj with | 0, _ => rfl | 1, _ => rfl | 2, _ => rfl | 3, _ => rfl) (Nat.le_of_ble_eq_true rfl) (Nat.le_of_ble_eq_true rfl) dX9_init_36 rfl (fun q6 => ?_)
  refine k_world (ws' := [(a, .inr (9, [.ref q1, .ref q2, .ref q5, .null, .null, .null, .null, .int 0, .int 0, .int 0, .int 0, .int 0, .long 0])), (q1, .inl (g.2 3, 6, .inr (.inr (.inr (.inr (fun _ => none)))))), (q2, .inr (4, [.ref q3, .ref q4, .int 4, .int 20, .long 0, .long 0, .long 0, .long 0])), (q3, .inl (g.2 0, 8, .inl (kfill 300 (fun _ => 0) 8))), (q4, .inl (g.2 0, 8, .inl (kfill 300 (fun _ => 0) 8))), (q5, .inr (3, [.int 0, .int 0, .int 0, .int 0, .int 0, .int 0])), (q6, .inr (1, [.null, .null, .int 0, .int 0]))]) rfl ?_
  refine k_dup (n := 40) F dX9_init_39 rfl rfl ?_
  refine k_ev (n := 43) (wr := [(a, .inr (9, [.ref q1, .ref q2, .ref q5, .null, .null, .null, .null, .int 0, .int 0, .int 0, .int 0, .int 0, .long 0])), (q1, .inl (g.2 3, 6, .inr (.inr (.inr (.inr (fun _ => none)))))), (q2, .inr (4, [.ref q3, .ref q4, .int 4, .int 20, .long 0, .long 0, .long 0, .long 0])), (q3, .inl (g.2 0, 8, .inl (kfill 300 (fun _ => 0) 8))), (q4, .inl (g.2 0, 8, .inl (kfill 300 (fun _ => 0) 8))), (q5, .inr (3, [.int 0, .int 0, .int 0, .int 0, .int 0, .int 0]))]) F (k_rIN (k := 0) (b := q6) (As := []) (rest := [.ref q6, .ref a]) F (c_iAdsorbers l g q6) [6] rfl rfl mw_105 nw_13 mw_104 mw_5 rfl (by decide) ⟨by decide, by decide⟩ rfl (Nat.le_of_ble_eq_true rfl) ⟨by decide, by decide⟩ dX9_init_40) [6] [0, 1, 2, 3, 4, 5] rfl rfl rfl (by decide) rfl ?_
  intro u9 hu9
  obtain ⟨q7, q8, rfl⟩ := hu9
  refine k_world (ws' := [(a, .inr (9, [.ref q1, .ref q2, .ref q5, .null, .null, .null, .null, .int 0, .int 0, .int 0, .int 0, .int 0, .long 0])), (q1, .inl (g.2 3, 6, .inr (.inr (.inr (.inr (fun _ => none)))))), (q2, .inr (4, [.ref q3, .ref q4, .int 4, .int 20, .long 0, .long 0, .long 0, .long 0])), (q3, .inl (g.2 0, 8, .inl (kfill 300 (fun _ => 0) 8))), (q4, .inl (g.2 0, 8, .inl (kfill 300 (fun _ => 0) 8))), (q5, .inr (3, [.int 0, .int 0, .int 0, .int 0, .int 0, .int 0])), (q6, .inr (1, [.ref q7, .ref q8, .int 20, .int 6])), (q7, .inr (0, [.int 1, .int 0, .int 0])), (q8, .inr (0, [.int 0, .int 0, .int 0]))]) rfl ?_
  refine k_putF (n := 46) (ws' := [(a, .inr (9, [.ref q1, .ref q2, .ref q5, .ref q6, .null, .null, .null, .int 0, .int 0, .int 0, .int 0, .int 0, .long 0])), (q1, .inl (g.2 3, 6, .inr (.inr (.inr (.inr (fun _ => none)))))), (q2, .inr (4, [.ref q3, .ref q4, .int 4, .int 20, .long 0, .long 0, .long 0, .long 0])), (q3, .inl (g.2 0, 8, .inl (kfill 300 (fun _ => 0) 8))), (q4, .inl (g.2 0, 8, .inl (kfill 300 (fun _ => 0) 8))), (q5, .inr (3, [.int 0, .int 0, .int 0, .int 0, .int 0, .int 0])), (q6, .inr (1, [.ref q7, .ref q8, .int 20, .int 6])), (q7, .inr (0, [.int 1, .int 0, .int 0])), (q8, .inr (0, [.int 0, .int 0, .int 0]))]) F uX9 tyX9_ok nmX9 0 3 rfl rfl (by decide) mw_199 rfl rfl rfl rfl rfl (Nat.le_of_ble_eq_true rfl) rfl dX9_init_43 rfl ?_
  refine k_aload_n (n := 47) F dX9_init_46 rfl 0 rfl rfl ?_
  refine k_new (n := 50) (ci := 6) (fs := [.int 0, .int 0, .int 0, .long 0, .long 0, .long 0]) F uX6 tyX6_ok mw_140 mw_141 mw_7 rfl (fun j hj => by match j, hj with | 0, _ => rfl | 1, _ => rfl | 2, _ => rfl | 3, _ => rfl | 4, _ => rfl | 5, _ => rfl) (Nat.le_of_ble_eq_true rfl) (Nat.le_of_ble_eq_true rfl) dX9_init_47 rfl (fun q9 => ?_)
  refine k_world (ws' := [(a, .inr (9, [.ref q1, .ref q2, .ref q5, .ref q6, .null, .null, .null, .int 0, .int 0, .int 0, .int 0, .int 0, .long 0])), (q1, .inl (g.2 3, 6, .inr (.inr (.inr (.inr (fun _ => none)))))), (q2, .inr (4, [.ref q3, .ref q4, .int 4, .int 20, .long 0, .long 0, .long 0, .long 0])), (q3, .inl (g.2 0, 8, .inl (kfill 300 (fun _ => 0) 8))), (q4, .inl (g.2 0, 8, .inl (kfill 300 (fun _ => 0) 8))), (q5, .inr (3, [.int 0, .int 0, .int 0, .int 0, .int 0, .int 0])), (q6, .inr (1, [.ref q7, .ref q8, .int 20, .int 6])), (q7, .inr (0, [.int 1, .int 0, .int 0])), (q8, .inr (0, [.int 0, .int 0, .int 0])), (q9, .inr (6, [.int 0, .int 0, .int 0, .long 0, .long 0, .long 0]))]) rfl ?_
  refine k_dup (n := 51) F dX9_init_50 rfl rfl ?_
  refine k_cv (n := 54) (ws' := [(a, .inr (9, [.ref q1, .ref q2, .ref q5, .ref q6, .null, .null, .null, .int 0, .int 0, .int 0, .int 0, .int 0, .long 0])), (q1, .inl (g.2 3, 6, .inr (.inr (.inr (.inr (fun _ => none)))))), (q2, .inr (4, [.ref q3, .ref q4, .int 4, .int 20, .long 0, .long 0, .long 0, .long 0])), (q3, .inl (g.2 0, 8, .inl (kfill 300 (fun _ => 0) 8))), (q4, .inl (g.2 0, 8, .inl (kfill 300 (fun _ => 0) 8))), (q5, .inr (3, [.int 0, .int 0, .int 0, .int 0, .int 0, .int 0])), (q6, .inr (1, [.ref q7, .ref q8, .int 20, .int 6])), (q7, .inr (0, [.int 1, .int 0, .int 0])), (q8, .inr (0, [.int 0, .int 0, .int 0])), (q9, .inr (6, [.int 500, .int 0, .int 0, .long 0, .long 0, .long 0]))]) F (k_rIN (k := 0) (b := q9) (As := []) (rest := [.ref q9, .ref a]) F (c_iStore l g q9) [9] rfl rfl mw_144 nw_18 mw_143 mw_7 rfl (by decide) ⟨by decide, by decide⟩ rfl (Nat.le_of_ble_eq_true rfl) ⟨by decide, by decide⟩ dX9_init_51) [9] [0, 1, 2, 3, 4, 5, 6, 7, 8] [0, 1, 2, 3, 4, 5, 6, 7, 8, 9] rfl rfl rfl (by decide) rfl rfl rfl ?_
  refine k_putF (n := 57) (ws' := [(a, .inr (9, [.ref q1, .ref q2, .ref q5, .ref q6, .ref q9, .null, .null, .int 0, .int 0, .int 0, .int 0, .int 0, .long 0])), (q1, .inl (g.2 3, 6, .inr (.inr (.inr (.inr (fun _ => none)))))), (q2, .inr (4, [.ref q3, .ref q4, .int 4, .int 20, .long 0, .long 0, .long 0, .long 0])), (q3, .inl (g.2 0, 8, .inl (kfill 300 (fun _ => 0) 8))), (q4, .inl (g.2 0, 8, .inl (kfill 300 (fun _ => 0) 8))), (q5, .inr (3, [.int 0, .int 0, .int 0, .int 0, .int 0, .int 0])), (q6, .inr (1, [.ref q7, .ref q8, .int 20, .int 6])), (q7, .inr (0, [.int 1, .int 0, .int 0])), (q8, .inr (0, [.int 0, .int 0, .int 0])), (q9, .inr (6, [.int 500, .int 0, .int 0, .long 0, .long 0, .long 0]))]) F uX9 tyX9_ok nmX9 0 4 rfl rfl (by decide) mw_200 rfl rfl rfl rfl rfl (Nat.le_of_ble_eq_true rfl) rfl dX9_init_54 rfl ?_
  refine k_aload_n (n := 58) F dX9_init_57 rfl 0 rfl rfl ?_
  refine k_new (n := 61) (ci := 5) (fs := [.null, .null, .null, .int 0, .int 0, .int 0]) F uX5 tyX5_ok mw_168 mw_169 mw_8 rfl (fun j hj => by match j, hj with | 0, _ => rfl | 1, _ => rfl | 2, _ => rfl | 3, _ => rfl | 4, _ => rfl | 5, _ => rfl) (Nat.le_of_ble_eq_true rfl) (Nat.le_of_ble_eq_true rfl) dX9_init_58 rfl (fun q10 => ?_)
  refine k_world (ws' := [(a, .inr (9, [.ref q1, .ref q2, .ref q5, .ref q6, .ref q9, .null, .null, .int 0, .int 0, .int 0, .int 0, .int 0, .long 0])), (q1, .inl (g.2 3, 6, .inr (.inr (.inr (.inr (fun _ => none)))))), (q2, .inr (4, [.ref q3, .ref q4, .int 4, .int 20, .long 0, .long 0, .long 0, .long 0])), (q3, .inl (g.2 0, 8, .inl (kfill 300 (fun _ => 0) 8))), (q4, .inl (g.2 0, 8, .inl (kfill 300 (fun _ => 0) 8))), (q5, .inr (3, [.int 0, .int 0, .int 0, .int 0, .int 0, .int 0])), (q6, .inr (1, [.ref q7, .ref q8, .int 20, .int 6])), (q7, .inr (0, [.int 1, .int 0, .int 0])), (q8, .inr (0, [.int 0, .int 0, .int 0])), (q9, .inr (6, [.int 500, .int 0, .int 0, .long 0, .long 0, .long 0])), (q10, .inr (5, [.null, .null, .null, .int 0, .int 0, .int 0]))]) rfl ?_
  refine k_dup (n := 62) F dX9_init_61 rfl rfl ?_
  refine k_ev (n := 65) (wr := [(a, .inr (9, [.ref q1, .ref q2, .ref q5, .ref q6, .ref q9, .null, .null, .int 0, .int 0, .int 0, .int 0, .int 0, .long 0])), (q1, .inl (g.2 3, 6, .inr (.inr (.inr (.inr (fun _ => none)))))), (q2, .inr (4, [.ref q3, .ref q4, .int 4, .int 20, .long 0, .long 0, .long 0, .long 0])), (q3, .inl (g.2 0, 8, .inl (kfill 300 (fun _ => 0) 8))), (q4, .inl (g.2 0, 8, .inl (kfill 300 (fun _ => 0) 8))), (q5, .inr (3, [.int 0, .int 0, .int 0, .int 0, .int 0, .int 0])), (q6, .inr (1, [.ref q7, .ref q8, .int 20, .int 6])), (q7, .inr (0, [.int 1, .int 0, .int 0])), (q8, .inr (0, [.int 0, .int 0, .int 0])), (q9, .inr (6, [.int 500, .int 0, .int 0, .long 0, .long 0, .long 0]))]) F (k_rIN (k := 0) (b := q10) (As := []) (rest := [.ref q10, .ref a]) F (c_iOrders l g q10) [10] rfl rfl mw_172 nw_22 mw_171 mw_8 rfl (by decide) ⟨by decide, by decide⟩ rfl (Nat.le_of_ble_eq_true rfl) ⟨by decide, by decide⟩ dX9_init_62) [10] [0, 1, 2, 3, 4, 5, 6, 7, 8, 9] rfl rfl rfl (by decide) rfl ?_
  intro u9 hu9
  obtain ⟨q11, q12, q13, rfl⟩ := hu9
  refine k_world (ws' := [(a, .inr (9, [.ref q1, .ref q2, .ref q5, .ref q6, .ref q9, .null, .null, .int 0, .int 0, .int 0, .int 0, .int 0, .long 0])), (q1, .inl (g.2 3, 6, .inr (.inr (.inr (.inr (fun _ => none)))))), (q2, .inr (4, [.ref q3, .ref q4, .int 4, .int 20, .long 0, .long 0, .long 0, .long 0])), (q3, .inl (g.2 0, 8, .inl (kfill 300 (fun _ => 0) 8))), (q4, .inl (g.2 0, 8, .inl (kfill 300 (fun _ => 0) 8))), (q5, .inr (3, [.int 0, .int 0, .int 0, .int 0, .int 0, .int 0])), (q6, .inr (1, [.ref q7, .ref q8, .int 20, .int 6])), (q7, .inr (0, [.int 1, .int 0, .int 0])), (q8, .inr (0, [.int 0, .int 0, .int 0])), (q9, .inr (6, [.int 500, .int 0, .int 0, .long 0, .long 0, .long 0])), (q10, .inr (5, [.ref q11, .ref q12, .ref q13, .int 0, .int 0, .int 0])), (q11, .inl (g.2 0, 8, .inl (fun _ => 0))), (q12, .inl (g.2 0, 8, .inl (fun _ => 0))), (q13, .inl (g.2 0, 8, .inl (fun _ => 0)))]) rfl ?_
  refine k_putF (n := 68) (ws' := [(a, .inr (9, [.ref q1, .ref q2, .ref q5, .ref q6, .ref q9, .ref q10, .null, .int 0, .int 0, .int 0, .int 0, .int 0, .long 0])), (q1, .inl (g.2 3, 6, .inr (.inr (.inr (.inr (fun _ => none)))))), (q2, .inr (4, [.ref q3, .ref q4, .int 4, .int 20, .long 0, .long 0, .long 0, .long 0])), (q3, .inl (g.2 0, 8, .inl (kfill 300 (fun _ => 0) 8))), (q4, .inl (g.2 0, 8, .inl (kfill 300 (fun _ => 0) 8))), (q5, .inr (3, [.int 0, .int 0, .int 0, .int 0, .int 0, .int 0])), (q6, .inr (1, [.ref q7, .ref q8, .int 20, .int 6])), (q7, .inr (0, [.int 1, .int 0, .int 0])), (q8, .inr (0, [.int 0, .int 0, .int 0])), (q9, .inr (6, [.int 500, .int 0, .int 0, .long 0, .long 0, .long 0])), (q10, .inr (5, [.ref q11, .ref q12, .ref q13, .int 0, .int 0, .int 0])), (q11, .inl (g.2 0, 8, .inl (fun _ => 0))), (q12, .inl (g.2 0, 8, .inl (fun _ => 0))), (q13, .inl (g.2 0, 8, .inl (fun _ => 0)))]) F uX9 tyX9_ok nmX9 0 5 rfl rfl (by decide) mw_201 rfl rfl rfl rfl rfl (Nat.le_of_ble_eq_true rfl) rfl dX9_init_65 rfl ?_
  refine k_aload_n (n := 69) F dX9_init_68 rfl 0 rfl rfl ?_
  refine k_iconst (n := 70) (v := 4) F dX9_init_69 rfl rfl ?_
  refine k_newZ (n := 72) (N := 4) F mw_236 (by decide) rfl (by decide) (Nat.le_of_ble_eq_true rfl) (Nat.le_of_ble_eq_true rfl) dX9_init_70 rfl (fun q14 => ?_)
  refine k_world (ws' := [(a, .inr (9, [.ref q1, .ref q2, .ref q5, .ref q6, .ref q9, .ref q10, .null, .int 0, .int 0, .int 0, .int 0, .int 0, .long 0])), (q1, .inl (g.2 3, 6, .inr (.inr (.inr (.inr (fun _ => none)))))), (q2, .inr (4, [.ref q3, .ref q4, .int 4, .int 20, .long 0, .long 0, .long 0, .long 0])), (q3, .inl (g.2 0, 8, .inl (kfill 300 (fun _ => 0) 8))), (q4, .inl (g.2 0, 8, .inl (kfill 300 (fun _ => 0) 8))), (q5, .inr (3, [.int 0, .int 0, .int 0, .int 0, .int 0, .int 0])), (q6, .inr (1, [.ref q7, .ref q8, .int 20, .int 6])), (q7, .inr (0, [.int 1, .int 0, .int 0])), (q8, .inr (0, [.int 0, .int 0, .int 0])), (q9, .inr (6, [.int 500, .int 0, .int 0, .long 0, .long 0, .long 0])), (q10, .inr (5, [.ref q11, .ref q12, .ref q13, .int 0, .int 0, .int 0])), (q11, .inl (g.2 0, 8, .inl (fun _ => 0))), (q12, .inl (g.2 0, 8, .inl (fun _ => 0))), (q13, .inl (g.2 0, 8, .inl (fun _ => 0))), (q14, .inl (g.2 2, 4, .inl (fun _ => 0)))]) rfl ?_
  refine k_putF (n := 75) (ws' := [(a, .inr (9, [.ref q1, .ref q2, .ref q5, .ref q6, .ref q9, .ref q10, .ref q14, .int 0, .int 0, .int 0, .int 0, .int 0, .long 0])), (q1, .inl (g.2 3, 6, .inr (.inr (.inr (.inr (fun _ => none)))))), (q2, .inr (4, [.ref q3, .ref q4, .int 4, .int 20, .long 0, .long 0, .long 0, .long 0])), (q3, .inl (g.2 0, 8, .inl (kfill 300 (fun _ => 0) 8))), (q4, .inl (g.2 0, 8, .inl (kfill 300 (fun _ => 0) 8))), (q5, .inr (3, [.int 0, .int 0, .int 0, .int 0, .int 0, .int 0])), (q6, .inr (1, [.ref q7, .ref q8, .int 20, .int 6])), (q7, .inr (0, [.int 1, .int 0, .int 0])), (q8, .inr (0, [.int 0, .int 0, .int 0])), (q9, .inr (6, [.int 500, .int 0, .int 0, .long 0, .long 0, .long 0])), (q10, .inr (5, [.ref q11, .ref q12, .ref q13, .int 0, .int 0, .int 0])), (q11, .inl (g.2 0, 8, .inl (fun _ => 0))), (q12, .inl (g.2 0, 8, .inl (fun _ => 0))), (q13, .inl (g.2 0, 8, .inl (fun _ => 0))), (q14, .inl (g.2 2, 4, .inl (fun _ => 0)))]) F uX9 tyX9_ok nmX9 0 6 rfl rfl (by decide) mw_202 rfl rfl rfl rfl rfl (Nat.le_of_ble_eq_true rfl) rfl dX9_init_72 rfl ?_
  refine k_aload_n (n := 76) F dX9_init_75 rfl 0 rfl rfl ?_
  refine k_iconst (n := 77) (v := 0) F dX9_init_76 rfl rfl ?_
  refine k_put (n := 80) (ws' := [(a, .inr (9, [.ref q1, .ref q2, .ref q5, .ref q6, .ref q9, .ref q10, .ref q14, .int 0, .int 0, .int 0, .int 0, .int 0, .long 0])), (q1, .inl (g.2 3, 6, .inr (.inr (.inr (.inr (fun _ => none)))))), (q2, .inr (4, [.ref q3, .ref q4, .int 4, .int 20, .long 0, .long 0, .long 0, .long 0])), (q3, .inl (g.2 0, 8, .inl (kfill 300 (fun _ => 0) 8))), (q4, .inl (g.2 0, 8, .inl (kfill 300 (fun _ => 0) 8))), (q5, .inr (3, [.int 0, .int 0, .int 0, .int 0, .int 0, .int 0])), (q6, .inr (1, [.ref q7, .ref q8, .int 20, .int 6])), (q7, .inr (0, [.int 1, .int 0, .int 0])), (q8, .inr (0, [.int 0, .int 0, .int 0])), (q9, .inr (6, [.int 500, .int 0, .int 0, .long 0, .long 0, .long 0])), (q10, .inr (5, [.ref q11, .ref q12, .ref q13, .int 0, .int 0, .int 0])), (q11, .inl (g.2 0, 8, .inl (fun _ => 0))), (q12, .inl (g.2 0, 8, .inl (fun _ => 0))), (q13, .inl (g.2 0, 8, .inl (fun _ => 0))), (q14, .inl (g.2 2, 4, .inl (fun _ => 0)))]) F uX9 tyX9_ok nmX9 0 7 rfl rfl (by decide) mw_203 rfl rfl rfl (Nat.le_of_ble_eq_true rfl) rfl dX9_init_77 rfl ?_
  refine k_aload_n (n := 81) F dX9_init_80 rfl 0 rfl rfl ?_
  refine k_bipush (n := 83) (v := -9) F dX9_init_81 rfl rfl ?_
  refine k_put (n := 86) (ws' := [(a, .inr (9, [.ref q1, .ref q2, .ref q5, .ref q6, .ref q9, .ref q10, .ref q14, .int 0, .int (-9), .int 0, .int 0, .int 0, .long 0])), (q1, .inl (g.2 3, 6, .inr (.inr (.inr (.inr (fun _ => none)))))), (q2, .inr (4, [.ref q3, .ref q4, .int 4, .int 20, .long 0, .long 0, .long 0, .long 0])), (q3, .inl (g.2 0, 8, .inl (kfill 300 (fun _ => 0) 8))), (q4, .inl (g.2 0, 8, .inl (kfill 300 (fun _ => 0) 8))), (q5, .inr (3, [.int 0, .int 0, .int 0, .int 0, .int 0, .int 0])), (q6, .inr (1, [.ref q7, .ref q8, .int 20, .int 6])), (q7, .inr (0, [.int 1, .int 0, .int 0])), (q8, .inr (0, [.int 0, .int 0, .int 0])), (q9, .inr (6, [.int 500, .int 0, .int 0, .long 0, .long 0, .long 0])), (q10, .inr (5, [.ref q11, .ref q12, .ref q13, .int 0, .int 0, .int 0])), (q11, .inl (g.2 0, 8, .inl (fun _ => 0))), (q12, .inl (g.2 0, 8, .inl (fun _ => 0))), (q13, .inl (g.2 0, 8, .inl (fun _ => 0))), (q14, .inl (g.2 2, 4, .inl (fun _ => 0)))]) F uX9 tyX9_ok nmX9 0 8 rfl rfl (by decide) mw_204 rfl rfl rfl (Nat.le_of_ble_eq_true rfl) rfl dX9_init_83 rfl ?_
  refine k_aload_n (n := 87) F dX9_init_86 rfl 0 rfl rfl ?_
  refine k_iconst (n := 88) (v := 0) F dX9_init_87 rfl rfl ?_
  refine k_put (n := 91) (ws' := [(a, .inr (9, [.ref q1, .ref q2, .ref q5, .ref q6, .ref q9, .ref q10, .ref q14, .int 0, .int (-9), .int 0, .int 0, .int 0, .long 0])), (q1, .inl (g.2 3, 6, .inr (.inr (.inr (.inr (fun _ => none)))))), (q2, .inr (4, [.ref q3, .ref q4, .int 4, .int 20, .long 0, .long 0, .long 0, .long 0])), (q3, .inl (g.2 0, 8, .inl (kfill 300 (fun _ => 0) 8))), (q4, .inl (g.2 0, 8, .inl (kfill 300 (fun _ => 0) 8))), (q5, .inr (3, [.int 0, .int 0, .int 0, .int 0, .int 0, .int 0])), (q6, .inr (1, [.ref q7, .ref q8, .int 20, .int 6])), (q7, .inr (0, [.int 1, .int 0, .int 0])), (q8, .inr (0, [.int 0, .int 0, .int 0])), (q9, .inr (6, [.int 500, .int 0, .int 0, .long 0, .long 0, .long 0])), (q10, .inr (5, [.ref q11, .ref q12, .ref q13, .int 0, .int 0, .int 0])), (q11, .inl (g.2 0, 8, .inl (fun _ => 0))), (q12, .inl (g.2 0, 8, .inl (fun _ => 0))), (q13, .inl (g.2 0, 8, .inl (fun _ => 0))), (q14, .inl (g.2 2, 4, .inl (fun _ => 0)))]) F uX9 tyX9_ok nmX9 0 9 rfl rfl (by decide) mw_205 rfl rfl rfl (Nat.le_of_ble_eq_true rfl) rfl dX9_init_88 rfl ?_
  refine k_aload_n (n := 92) F dX9_init_91 rfl 0 rfl rfl ?_
  refine k_sipush (n := 95) (v := 300) F dX9_init_92 rfl rfl ?_
  refine k_put (n := 98) (ws' := [(a, .inr (9, [.ref q1, .ref q2, .ref q5, .ref q6, .ref q9, .ref q10, .ref q14, .int 0, .int (-9), .int 0, .int 300, .int 0, .long 0])), (q1, .inl (g.2 3, 6, .inr (.inr (.inr (.inr (fun _ => none)))))), (q2, .inr (4, [.ref q3, .ref q4, .int 4, .int 20, .long 0, .long 0, .long 0, .long 0])), (q3, .inl (g.2 0, 8, .inl (kfill 300 (fun _ => 0) 8))), (q4, .inl (g.2 0, 8, .inl (kfill 300 (fun _ => 0) 8))), (q5, .inr (3, [.int 0, .int 0, .int 0, .int 0, .int 0, .int 0])), (q6, .inr (1, [.ref q7, .ref q8, .int 20, .int 6])), (q7, .inr (0, [.int 1, .int 0, .int 0])), (q8, .inr (0, [.int 0, .int 0, .int 0])), (q9, .inr (6, [.int 500, .int 0, .int 0, .long 0, .long 0, .long 0])), (q10, .inr (5, [.ref q11, .ref q12, .ref q13, .int 0, .int 0, .int 0])), (q11, .inl (g.2 0, 8, .inl (fun _ => 0))), (q12, .inl (g.2 0, 8, .inl (fun _ => 0))), (q13, .inl (g.2 0, 8, .inl (fun _ => 0))), (q14, .inl (g.2 2, 4, .inl (fun _ => 0)))]) F uX9 tyX9_ok nmX9 0 10 rfl rfl (by decide) mw_206 rfl rfl rfl (Nat.le_of_ble_eq_true rfl) rfl dX9_init_95 rfl ?_
  refine k_aload_n (n := 99) F dX9_init_98 rfl 0 rfl rfl ?_
  refine k_iconst (n := 100) (v := 0) F dX9_init_99 rfl rfl ?_
  refine k_put (n := 103) (ws' := [(a, .inr (9, [.ref q1, .ref q2, .ref q5, .ref q6, .ref q9, .ref q10, .ref q14, .int 0, .int (-9), .int 0, .int 300, .int 0, .long 0])), (q1, .inl (g.2 3, 6, .inr (.inr (.inr (.inr (fun _ => none)))))), (q2, .inr (4, [.ref q3, .ref q4, .int 4, .int 20, .long 0, .long 0, .long 0, .long 0])), (q3, .inl (g.2 0, 8, .inl (kfill 300 (fun _ => 0) 8))), (q4, .inl (g.2 0, 8, .inl (kfill 300 (fun _ => 0) 8))), (q5, .inr (3, [.int 0, .int 0, .int 0, .int 0, .int 0, .int 0])), (q6, .inr (1, [.ref q7, .ref q8, .int 20, .int 6])), (q7, .inr (0, [.int 1, .int 0, .int 0])), (q8, .inr (0, [.int 0, .int 0, .int 0])), (q9, .inr (6, [.int 500, .int 0, .int 0, .long 0, .long 0, .long 0])), (q10, .inr (5, [.ref q11, .ref q12, .ref q13, .int 0, .int 0, .int 0])), (q11, .inl (g.2 0, 8, .inl (fun _ => 0))), (q12, .inl (g.2 0, 8, .inl (fun _ => 0))), (q13, .inl (g.2 0, 8, .inl (fun _ => 0))), (q14, .inl (g.2 2, 4, .inl (fun _ => 0)))]) F uX9 tyX9_ok nmX9 0 11 rfl rfl (by decide) mw_207 rfl rfl rfl (Nat.le_of_ble_eq_true rfl) rfl dX9_init_100 rfl ?_
  refine k_aload_n (n := 104) F dX9_init_103 rfl 0 rfl rfl ?_
  refine k_lconst (n := 105) (v := 0) F dX9_init_104 rfl rfl ?_
  refine k_put (n := 108) (ws' := [(a, .inr (9, [.ref q1, .ref q2, .ref q5, .ref q6, .ref q9, .ref q10, .ref q14, .int 0, .int (-9), .int 0, .int 300, .int 0, .long 0])), (q1, .inl (g.2 3, 6, .inr (.inr (.inr (.inr (fun _ => none)))))), (q2, .inr (4, [.ref q3, .ref q4, .int 4, .int 20, .long 0, .long 0, .long 0, .long 0])), (q3, .inl (g.2 0, 8, .inl (kfill 300 (fun _ => 0) 8))), (q4, .inl (g.2 0, 8, .inl (kfill 300 (fun _ => 0) 8))), (q5, .inr (3, [.int 0, .int 0, .int 0, .int 0, .int 0, .int 0])), (q6, .inr (1, [.ref q7, .ref q8, .int 20, .int 6])), (q7, .inr (0, [.int 1, .int 0, .int 0])), (q8, .inr (0, [.int 0, .int 0, .int 0])), (q9, .inr (6, [.int 500, .int 0, .int 0, .long 0, .long 0, .long 0])), (q10, .inr (5, [.ref q11, .ref q12, .ref q13, .int 0, .int 0, .int 0])), (q11, .inl (g.2 0, 8, .inl (fun _ => 0))), (q12, .inl (g.2 0, 8, .inl (fun _ => 0))), (q13, .inl (g.2 0, 8, .inl (fun _ => 0))), (q14, .inl (g.2 2, 4, .inl (fun _ => 0)))]) F uX9 tyX9_ok nmX9 0 12 rfl rfl (by decide) mw_208 rfl rfl rfl (Nat.le_of_ble_eq_true rfl) rfl dX9_init_105 rfl ?_
  exact k_vretE F ⟨adL [a, q1, q2, q3, q4, q5, q6, q7, q8, q9, q10, q11, q12, q13, q14], rfl, rfl⟩ dX9_init_108
