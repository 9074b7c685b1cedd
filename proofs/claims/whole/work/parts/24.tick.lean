theorem kin_nat {n : Int32} (h : ¬ kin n 1 60 = 0) : ∃ nn : Nat, n = nI nn ∧ nn ≤ 60 := by
  obtain ⟨a1, a2⟩ := kin_n.mp h
  obtain ⟨k, hk, rfl⟩ := nI_of (Int32.not_lt.mpr (k1le a1))
  exact ⟨k, rfl, (nI_leI hk (by decide)).mp (show nI k ≤ nI 60 from a2)⟩
theorem f_tick_e {u : kS} {nn : Nat} (h : ¬ kin (nI nn) 1 60 = 0) (hn : nn < 2 ^ 31) : f_tick u (nI nn) = tkL u nn := by rw [f_tick, if_neg h, nI_clamp hn]
theorem rn_2 (u : kS) (q : Int32) : (rn_S u q).1 2 = u.1 2 := by unfold rn_S; split; rfl; split <;> rfl
theorem rn_6 (u : kS) (q : Int32) : (rn_S u q).1 6 = u.1 6 := by unfold rn_S; split; rfl; split <;> rfl
theorem fw_2 (u : kS) : (fw_S u).1 2 = u.1 2 := by
  have e : (fw_1 (fl_S u) (fl_R u)).1 2 = u.1 2 := rn_2 _ _
  unfold fw_S fwB fwC
  split
  · exact e
  · split <;> exact e
theorem fw_6 (u : kS) : (fw_S u).1 6 = u.1 6 := by
  have e : (fw_1 (fl_S u) (fl_R u)).1 6 = u.1 6 := rn_6 _ _
  unfold fw_S fwB fwC
  split
  · exact e
  · split <;> exact e
theorem ot_2 (u : kS) : (ot_S u).2.1 2 = u.1 2 := by
  unfold ot_S
  split
  · rfl
  · exact fw_2 _
theorem ot_6 (u : kS) : (ot_S u).2.1 6 = u.1 6 := by
  unfold ot_S
  split
  · rfl
  · exact fw_6 _
theorem tkL_2 {u : kS} : ∀ {j : Nat}, (tkL u j).2.1 2 = u.1 2
  | 0 => rfl
  | j + 1 => (ot_2 _).trans tkL_2
theorem tkL_6 {u : kS} : ∀ {j : Nat}, (tkL u j).2.1 6 = u.1 6
  | 0 => rfl
  | j + 1 => (ot_6 _).trans tkL_6
set_option maxRecDepth 100000 in
set_option maxHeartbeats 4000000 in
theorem c_tick (l : Launch) (g : kG) (ad ca cb : Nat → Nat) (i : Nat → Int32) (l_ : Nat → Int64) (a : Nat → Nat → Int32) (h : Nat → Int64) (n : Int32) (h2 : 0 ≤ i 2 ∧ i 2 ≤ 6) (h6 : 1 ≤ i 6 ∧ i 6 ≤ 8) : kM l yX9_tick cX9_tick 4 (some .int) (rmK 6 0 0 149) g [.ref (ad 0), .int n] (wK g ad ca cb (i, l_, a, h)) (kDi g (f_tick (i, l_, a, h) n).1 (wK g ad ca cb (f_tick (i, l_, a, h) n).2)) := by
  refine k_enter (by decide) (Nat.le_of_ble_eq_true rfl) ?_
  intro p e s m args below meth c A F
  refine k_iload_n (n := 1) F dX9_tick_0 rfl 1 rfl rfl ?_
  refine k_iconst (n := 2) (v := 1) F dX9_tick_1 rfl rfl ?_
  refine k_bipush (n := 4) (v := 60) F dX9_tick_2 rfl rfl ?_
  refine k_ciR (n := 7) F (k_rS (k := 3) (As := [.int n, .int 1, .int 60]) (rest := []) F (c_within l g n 1 60) [] rfl rfl mw_243 mw_241 mw_242 mw_1 (by decide) ⟨by decide, by decide⟩ rfl (Nat.le_of_ble_eq_true rfl) ⟨by decide, by decide⟩ dX9_tick_4) [] rfl rfl ?_
  refine k_if_ne (n := 10) (tgt := 12) F dX9_tick_7 (by decide) rfl (fun hc1 => ?_) (fun hc1 => ?_)
  · refine k_iconst (n := 13) (v := 0) F dX9_tick_12 rfl rfl ?_
    refine k_istore_n (n := 14) (lv' := [(2, .int 0), (0, .ref ((ad 0))), (1, .int n)]) F dX9_tick_13 rfl (by decide) rfl rfl ?_
    refine k_iconst (n := 15) (v := 0) F dX9_tick_14 rfl rfl ?_
    refine k_istore_n (n := 16) (lv' := [(3, .int 0), (2, .int 0), (0, .ref ((ad 0))), (1, .int n)]) F dX9_tick_15 rfl (by decide) rfl rfl ?_
    obtain ⟨nn, hnn, hn60⟩ := kin_nat hc1
    subst hnn
    have hk := hc1
    have loop : ∀ (k j : Nat), j ≤ nn → nn + 1 ≤ j + k → KW p l e ((rmK 6 0 0 149)) s m args below meth c (MQ below ((kDi g (f_tick (i, l_, a, h) (nI nn)).1 (wK g ad ca cb (f_tick (i, l_, a, h) (nI nn)).2)) A) args s ((rmK 6 0 0 149)).cells ((rmK 6 0 0 149)).slots A) g A 4 (wK g ad ca cb ((tkL (i, l_, a, h) j).2)) 0 0 16 [(3, .int (nI j)), (2, .int ((tkL (i, l_, a, h) j).1)), (0, .ref ((ad 0))), (1, .int (nI nn))] [] := by
      intro k
      induction k with
      | zero =>
        intro j h1 h2_
        exact absurd h2_ (by omega)
      | succ k ih =>
        intro j h1 h2_
        refine k_iload_n (n := 17) F dX9_tick_16 rfl 0 rfl rfl ?_
        refine k_iload_n (n := 18) F dX9_tick_17 rfl 3 rfl rfl ?_
        refine k_icmp_ge (n := 21) (tgt := 34) F dX9_tick_18 (by decide) rfl (fun hc101 => ?_) (fun hc101 => ?_)
        · refine k_iload_n (n := 35) F dX9_tick_34 rfl 1 rfl rfl ?_
          have hj9 : j = nn := by have h9 := hc101; rw [nI_leI (by omega) (by omega)] at h9; omega
          subst hj9
          exact k_iret F (by rw [f_tick_e hk (by omega)]) (by rw [f_tick_e hk (by omega)]) dX9_tick_35
        · refine k_iload_n (n := 22) F dX9_tick_21 rfl 1 rfl rfl ?_
          refine k_aload_n (n := 23) F dX9_tick_22 rfl 2 rfl rfl ?_
          refine k_ciA (n := 26) (w0 := wK g ad ca cb (ot_S (tkL (i, l_, a, h) j).2).2) F (k_rV (k := 0) (b := (ad 0)) (As := []) (rest := [.int ((tkL (i, l_, a, h) j).1)]) F (c_oneTick l g ad ca cb (tkL (i, l_, a, h) j).2.1 (tkL (i, l_, a, h) j).2.2.1 (tkL (i, l_, a, h) j).2.2.2.1 (tkL (i, l_, a, h) j).2.2.2.2 (by rw [tkL_2]; exact h2) (by rw [tkL_6]; exact h6)) (List.range (wK g ad ca cb (tkL (i, l_, a, h) j).2).length) (all_is _) (all_nd _) 0 rfl rfl mw_412 mw_409 mw_411 mw_s8 mw_1 (by decide) ⟨by decide, by decide⟩ rfl (Nat.le_of_ble_eq_true rfl) ⟨by decide, by decide⟩ dX9_tick_23) (all_is _) rfl ?_
          refine k_iadd (n := 27) F dX9_tick_26 rfl ?_
          refine k_istore_n (n := 28) (lv' := [(2, .int (((tkL (i, l_, a, h) j).1) + ((ot_S (tkL (i, l_, a, h) j).2).1))), (3, .int (nI j)), (0, .ref ((ad 0))), (1, .int (nI nn))]) F dX9_tick_27 rfl (by decide) rfl rfl ?_
          refine k_iinc (n := 31) (j := 1) (v := nI (j + 1)) (lv' := [(3, .int (nI (j + 1))), (2, .int (((tkL (i, l_, a, h) j).1) + ((ot_S (tkL (i, l_, a, h) j).2).1))), (0, .ref ((ad 0))), (1, .int (nI nn))]) F dX9_tick_28 rfl (nI_1 j) (by decide) rfl rfl ?_
          refine k_goto (tgt := 16) F dX9_tick_31 (by decide) ?_
          have hj9 : j < nn := by have h9 := hc101; rw [nI_leI (by omega) (by omega)] at h9; omega
          refine k_lv (lv' := [(3, .int (nI (j + 1))), (2, .int (((tkL (i, l_, a, h) j).1) + ((ot_S (tkL (i, l_, a, h) j).2).1))), (0, .ref ((ad 0))), (1, .int (nI nn))]) [0, 1, 2, 3] rfl ?_
          exact ih (j + 1) (by omega) (by omega)
    refine k_lv (lv' := [(3, .int (nI 0)), (2, .int ((tkL (i, l_, a, h) 0).1)), (0, .ref ((ad 0))), (1, .int (nI nn))]) [0, 1, 2, 3] rfl ?_
    exact loop (nn + 1) 0 (by omega) (by omega)
  · refine k_iconst (n := 11) (v := -1) F dX9_tick_10 rfl rfl ?_
    exact k_iret F (by rw [f_tick, if_pos hc1]) (by rw [f_tick, if_pos hc1]) dX9_tick_11
