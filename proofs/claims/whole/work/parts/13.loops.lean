def kfill (v : Int32) (f : Nat → Int32) (i : Nat) : Nat → Int32 := fun j => if j < i then v else f j
theorem kfill_0 {v : Int32} {f : Nat → Int32} : kfill v f 0 = f := by funext j; simp [kfill]
theorem kfill_s {v : Int32} {f : Nat → Int32} {i : Nat} : upd (kfill v f i) i v = kfill v f (i + 1) := by
  funext j
  by_cases h : j = i
  · subst h; simp [upd, kfill]
  · simp only [upd, kfill, h, if_false]
    by_cases h2 : j < i
    · rw [if_pos h2, if_pos (by omega)]
    · rw [if_neg h2, if_neg (by omega)]
set_option maxRecDepth 100000 in
set_option maxHeartbeats 4000000 in
theorem c_fill (l : Launch) (g : kG) (a n : Nat) (f : Nat → Int32) (v : Int32) (hn : n < 2 ^ 31) : kM l yJ7_fill_53178 cJ7_fill_53178 4 none (rmK 0 0 0 0) g [.ref a, .int v] [(a, .inl (g.2 0, n, .inl f))] (kDv g [(a, .inl (g.2 0, n, .inl (kfill v f n)))]) := by
  refine k_enter (by decide) (Nat.le_of_ble_eq_true rfl) ?_
  intro p e s m args below meth c A F
  have loop : ∀ (k j : Nat), j ≤ n → n + 1 ≤ j + k → KW p l e ((rmK 0 0 0 0)) s m args below meth c (MQ below ((kDv g [(a, .inl (g.2 0, n, .inl (kfill v f n)))]) A) args s ((rmK 0 0 0 0)).cells ((rmK 0 0 0 0)).slots A) g A 4 ([(a, .inl (g.2 0, n, .inl (kfill v f j)))]) 0 0 5 [(2, .int (nI j)), (3, .int (nI n)), (0, .ref a), (1, .int v)] [] := by
    intro k
    induction k with
    | zero =>
      intro j h1 h2
      exact absurd h2 (by omega)
    | succ k ih =>
      intro j h1 h2
      refine k_iload_n (n := 6) F dJ7_fill_53178_5 rfl 0 rfl rfl ?_
      refine k_iload_n (n := 7) F dJ7_fill_53178_6 rfl 1 rfl rfl ?_
      refine k_icmp_ge (n := 10) (tgt := 20) F dJ7_fill_53178_7 (by decide) rfl (fun hc101 => ?_) (fun hc101 => ?_)
      · have hj9 : j = n := by have h9 := hc101; rw [nI_leI (by omega) (by omega)] at h9; omega
        subst hj9
        exact k_vret F rfl dJ7_fill_53178_20
      · refine k_aload_n (n := 11) F dJ7_fill_53178_10 rfl 2 rfl rfl ?_
        refine k_iload_n (n := 12) F dJ7_fill_53178_11 rfl 0 rfl rfl ?_
        refine k_iload_n (n := 13) F dJ7_fill_53178_12 rfl 3 rfl rfl ?_
        refine k_iast (n := 14) (N := j) (ws' := [(a, .inl (g.2 0, n, .inl (upd (kfill v f j) j v)))]) F 0 rfl (kIx_nI (by have h9 := hc101; rw [nI_leI (by omega) (by omega)] at h9; omega) hn) rfl dJ7_fill_53178_13 rfl ?_
        refine k_iinc (n := 17) (j := 0) (v := nI (j + 1)) (lv' := [(2, .int (nI (j + 1))), (3, .int (nI n)), (0, .ref a), (1, .int v)]) F dJ7_fill_53178_14 rfl (nI_1 j) (by decide) rfl rfl ?_
        refine k_goto (tgt := 5) F dJ7_fill_53178_17 (by decide) ?_
        have hj9 : j < n := by have h9 := hc101; rw [nI_leI (by omega) (by omega)] at h9; omega
        refine k_lv (lv' := [(2, .int (nI (j + 1))), (3, .int (nI n)), (0, .ref a), (1, .int v)]) [0, 1, 2, 3] rfl ?_
        refine k_world (ws' := [(a, .inl (g.2 0, n, .inl (kfill v f (j + 1))))]) (by rw [kfill_s]) ?_
        exact ih (j + 1) (by omega) (by omega)
  refine k_iconst (n := 1) (v := 0) F dJ7_fill_53178_0 rfl rfl ?_
  refine k_istore_n (n := 2) (lv' := [(2, .int 0), (0, .ref a), (1, .int v)]) F dJ7_fill_53178_1 rfl (by decide) rfl rfl ?_
  refine k_aload_n (n := 3) F dJ7_fill_53178_2 rfl 1 rfl rfl ?_
  refine k_alen (n := 4) (v := nI n) F 0 rfl rfl dJ7_fill_53178_3 rfl ?_
  refine k_istore_n (n := 5) (lv' := [(3, .int (nI n)), (2, .int 0), (0, .ref a), (1, .int v)]) F dJ7_fill_53178_4 rfl (by decide) rfl rfl ?_
  refine k_lv (lv' := [(2, .int (nI 0)), (3, .int (nI n)), (0, .ref a), (1, .int v)]) [1, 0, 2, 3] rfl ?_
  refine k_world (ws' := [(a, .inl (g.2 0, n, .inl (kfill v f 0)))]) (by rw [kfill_0]) ?_
  exact loop (n + 1) 0 (by omega) (by omega)
