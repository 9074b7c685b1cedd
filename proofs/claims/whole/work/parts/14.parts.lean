theorem kIx_pred {n m : Nat} (h1 : 1 ≤ n) (h2 : n ≤ m) (hm : m < 2 ^ 31) : kIx (nI n - 1) (n - 1) m := by
  have e : nI n - 1 = nI (n - 1) := pk_sub (b := 1) h1
  rw [e]
  exact kIx_nI (by omega) hm
theorem kcz {n : Nat} (h1 : 1 ≤ n) (h2 : n ≤ 8) : ¬ nI n - 1 < 0 ∧ (nI n - 1).toNatClampNeg = n - 1 := by
  have e : nI n - 1 = nI (n - 1) := pk_sub (b := 1) h1
  rw [e]
  exact ⟨nI_pos (by omega), nI_clamp (by omega)⟩
theorem kIx_le {x : Int32} {n : Nat} (h0 : 0 ≤ x) (h1 : x < nI n) (hn : n < 2 ^ 31) : kIx x x.toNatClampNeg n := by
  obtain ⟨j, hj, rfl⟩ := nI_of (Int32.not_lt.mpr h0)
  rw [nI_ltI hj hn] at h1
  rw [nI_clamp hj]
  exact kIx_nI h1 hn
theorem kIx_le2 {x t : Int32} (h0 : ¬ x < 0) (h1 : x < t) (h2 : t ≤ 8) : kIx x x.toNatClampNeg 8 :=
  kIx_le (Int32.not_lt.mp h0) (show x < nI 8 from Int32.lt_of_lt_of_le h1 h2) (by decide)
section
variable {p : Program} {l : Launch} {e : Env} {R : Room} {s : State} {m : MethodId} {args : Array Value} {below : List Frame} {meth : Method} {c : Code} {Q : State → Prop} {g : kG} {A : Nat → Prop} {nL : Nat} {ws : va_W} {cells slots pc : Nat} {lv lv' : List (Nat × Value)} {rest : List Value}
theorem k_lvv (h : lv = lv') (kk : KW p l e R s m args below meth c Q g A nL ws cells slots pc lv' rest) : KW p l e R s m args below meth c Q g A nL ws cells slots pc lv rest := h ▸ kk
end
/-! the exchanger -/
def exq (fw fc : Nat → Int32) (hu : Int32) (j : Nat) : Int32 := (fw j - fc j) * hu / 100
def exW (fw fc : Nat → Int32) (hu : Int32) (n : Nat) : Nat → Int32 := fun j => if j < n then fw j - exq fw fc hu j else fw j
def exC (fw fc : Nat → Int32) (hu : Int32) (n : Nat) : Nat → Int32 := fun j => if j < n then fc j + exq fw fc hu j else fc j
theorem exW_0 {fw fc : Nat → Int32} {hu : Int32} : exW fw fc hu 0 = fw := by funext j; simp [exW]
theorem exC_0 {fw fc : Nat → Int32} {hu : Int32} : exC fw fc hu 0 = fc := by funext j; simp [exC]
theorem exW_s {fw fc : Nat → Int32} {hu : Int32} {j : Nat} : upd (exW fw fc hu j) j (exW fw fc hu j j - (exW fw fc hu j j - exC fw fc hu j j) * hu / 100) = exW fw fc hu (j + 1) := by
  have e1 : exW fw fc hu j j = fw j := by simp [exW]
  have e2 : exC fw fc hu j j = fc j := by simp [exC]
  rw [e1, e2]
  funext k
  by_cases h : k = j
  · subst h; simp [upd, exW, exq]
  · simp only [upd, exW, h, if_false]
    by_cases h2 : k < j
    · rw [if_pos h2, if_pos (by omega)]
    · rw [if_neg h2, if_neg (by omega)]
theorem exC_s {fw fc : Nat → Int32} {hu : Int32} {j : Nat} : upd (exC fw fc hu j) j (exC fw fc hu j j + (exW fw fc hu j j - exC fw fc hu j j) * hu / 100) = exC fw fc hu (j + 1) := by
  have e1 : exW fw fc hu j j = fw j := by simp [exW]
  have e2 : exC fw fc hu j j = fc j := by simp [exC]
  rw [e1, e2]
  funext k
  by_cases h : k = j
  · subst h; simp [upd, exC, exq]
  · simp only [upd, exC, h, if_false]
    by_cases h2 : k < j
    · rw [if_pos h2, if_pos (by omega)]
    · rw [if_neg h2, if_neg (by omega)]
def mvW (f : Nat → Int32) (n : Nat) (v : Int32) : Nat → Int32 := fun j => if j = 0 then v else if j < n then f (j - 1) else f j
def mvC (f : Nat → Int32) (n : Nat) (v : Int32) : Nat → Int32 := fun j => if j = n - 1 then v else if j < n - 1 then f (j + 1) else f j
theorem mvW_e {f : Nat → Int32} {n : Nat} {v : Int32} (h1 : 1 ≤ n) (h8 : n ≤ 8) : upd (va_cpy f f 0 1 (n - 1)) 0 v = mvW f n v := by
  funext j
  by_cases h : j = 0
  · subst h; simp [upd, mvW]
  · simp only [upd, mvW, h, if_false]
    by_cases h2 : j < n
    · rw [if_pos h2, pk_cpy_in (by omega) (by omega)]
      congr 1
      omega
    · rw [if_neg h2, pk_cpy_out (by omega)]
theorem mvC_e {f : Nat → Int32} {n : Nat} {v : Int32} (h1 : 1 ≤ n) (h8 : n ≤ 8) : upd (va_cpy f f 1 0 (n - 1)) (n - 1) v = mvC f n v := by
  funext j
  by_cases h : j = n - 1
  · subst h; simp [upd, mvC]
  · simp only [upd, mvC, h, if_false]
    by_cases h2 : j < n - 1
    · rw [if_pos h2, pk_cpy_in (by omega) (by omega)]
      congr 1
      omega
    · rw [if_neg h2, pk_cpy_out (by omega)]
def psL (fw fc : Nat → Int32) (hu : Int32) (n : Nat) : Int32 := exW fw fc hu n (n - 1)
def psE (fw fc : Nat → Int32) (hu : Int32) (n : Nat) (co : Int32) : Int32 := psL fw fc hu n - co
def psG (fw fc : Nat → Int32) (hu : Int32) (n : Nat) (co : Int32) : Int32 := if psE fw fc hu n co < 80 then 80 else psE fw fc hu n co
def psR (fw fc : Nat → Int32) (hu : Int32) (n : Nat) (co : Int32) : Int32 := if 20 < (psG fw fc hu n co - psE fw fc hu n co) / 5 then 20 else (psG fw fc hu n co - psE fw fc hu n co) / 5
/-! a day's orders: how many were delivered, how each is, how many missed, the tank, all that was delivered -/
abbrev kE : Type := Int32 × (Nat → Int32) × Int32 × Int32 × Int64
def edS (fw fd : Nat → Int32) (nd : Int32) (j : Nat) (x : kE) : kE := if fd j = nd then (x.1 + (if x.2.2.2.1 < fw j then 0 else 1), upd x.2.1 j (if x.2.2.2.1 < fw j then 2 else 1), (if x.2.2.2.1 < fw j then x.2.2.1 + 1 else x.2.2.1), (if x.2.2.2.1 < fw j then x.2.2.2.1 else x.2.2.2.1 - fw j), (if x.2.2.2.1 < fw j then x.2.2.2.2 else x.2.2.2.2 + (fw j).toInt64)) else x
def edL (fw fd : Nat → Int32) (nd : Int32) (x : kE) : Nat → kE
  | 0 => x
  | j + 1 => edS fw fd nd j (edL fw fd nd x j)
def orR (tk : Int32) (fw fd fh : Nat → Int32) (x y : Int32) : Int32 := if x < 0 then -1 else if tk ≤ x then -1 else if y = 0 then fw x.toNatClampNeg else if y = 1 then fd x.toNatClampNeg else if y = 2 then fh x.toNatClampNeg else -1
set_option maxRecDepth 100000 in
set_option maxHeartbeats 4000000 in
theorem c_exchange (l : Launch) (g : kG) (a wa ca : Nat) (ln hu : Int32) (x0 x1 x2 x3 : Int64) (fw fc : Nat → Int32) (n : Nat) (hln : ln = nI n) (hn1 : 1 ≤ n) (hn8 : n ≤ 8) : kM l yX4_exchange cX4_exchange 3 none (rmK 0 0 0 0) g [.ref a] [(a, .inr (4, [.ref wa, .ref ca, .int ln, .int hu, .long x0, .long x1, .long x2, .long x3])), (wa, .inl (g.2 0, 8, .inl fw)), (ca, .inl (g.2 0, 8, .inl fc))] (kDv g [(a, .inr (4, [.ref wa, .ref ca, .int ln, .int hu, .long x0, .long x1, .long x2, .long x3])), (wa, .inl (g.2 0, 8, .inl (exW fw fc hu n))), (ca, .inl (g.2 0, 8, .inl (exC fw fc hu n)))]) := by
  subst hln
  refine k_enter (by decide) (Nat.le_of_ble_eq_true rfl) ?_
  intro p e s m args below meth c A F
  have loop : ∀ (k j : Nat), j ≤ n → n + 1 ≤ j + k → KW p l e ((rmK 0 0 0 0)) s m args below meth c (MQ below ((kDv g [(a, .inr (4, [.ref wa, .ref ca, .int (nI n), .int hu, .long x0, .long x1, .long x2, .long x3])), (wa, .inl (g.2 0, 8, .inl (exW fw fc hu n))), (ca, .inl (g.2 0, 8, .inl (exC fw fc hu n)))]) A) args s ((rmK 0 0 0 0)).cells ((rmK 0 0 0 0)).slots A) g A 3 ([(a, .inr (4, [.ref wa, .ref ca, .int (nI n), .int hu, .long x0, .long x1, .long x2, .long x3])), (wa, .inl (g.2 0, 8, .inl (exW fw fc hu j))), (ca, .inl (g.2 0, 8, .inl (exC fw fc hu j)))]) 0 0 2 [(1, .int (nI j)), (0, .ref a)] [] := by
    intro k
    induction k with
    | zero =>
      intro j h1 h2
      exact absurd h2 (by omega)
    | succ k ih =>
      intro j h1 h2
      refine k_iload_n (n := 3) F dX4_exchange_2 rfl 0 rfl rfl ?_
      refine k_aload_n (n := 4) F dX4_exchange_3 rfl 1 rfl rfl ?_
      refine k_get (n := 7) (v := .int (nI n)) F uX4 0 2 rfl rfl (by decide) mw_42 rfl dX4_exchange_4 rfl ?_
      refine k_icmp_ge (n := 10) (tgt := 58) F dX4_exchange_7 (by decide) rfl (fun hc101 => ?_) (fun hc101 => ?_)
      · have hj9 : j = n := by have h9 := hc101; rw [nI_leI (by omega) (by omega)] at h9; omega
        subst hj9
        exact k_vret F rfl dX4_exchange_58
      · refine k_aload_n (n := 11) F dX4_exchange_10 rfl 1 rfl rfl ?_
        refine k_get (n := 14) (v := .ref wa) F uX4 0 0 rfl rfl (by decide) mw_38 rfl dX4_exchange_11 rfl ?_
        refine k_iload_n (n := 15) F dX4_exchange_14 rfl 0 rfl rfl ?_
        refine k_iald (n := 16) (N := j) F 1 rfl (kIx_nI (by have h9 := hc101; rw [nI_leI (by omega) (by omega)] at h9; omega) (by decide)) dX4_exchange_15 rfl ?_
        refine k_aload_n (n := 17) F dX4_exchange_16 rfl 1 rfl rfl ?_
        refine k_get (n := 20) (v := .ref ca) F uX4 0 1 rfl rfl (by decide) mw_40 rfl dX4_exchange_17 rfl ?_
        refine k_iload_n (n := 21) F dX4_exchange_20 rfl 0 rfl rfl ?_
        refine k_iald (n := 22) (N := j) F 2 rfl (kIx_nI (by have h9 := hc101; rw [nI_leI (by omega) (by omega)] at h9; omega) (by decide)) dX4_exchange_21 rfl ?_
        refine k_isub (n := 23) F dX4_exchange_22 rfl ?_
        refine k_aload_n (n := 24) F dX4_exchange_23 rfl 1 rfl rfl ?_
        refine k_get (n := 27) (v := .int hu) F uX4 0 3 rfl rfl (by decide) mw_44 rfl dX4_exchange_24 rfl ?_
        refine k_imul (n := 28) F dX4_exchange_27 rfl ?_
        refine k_bipush (n := 30) (v := 100) F dX4_exchange_28 rfl rfl ?_
        refine k_idiv (n := 31) F dX4_exchange_30 (by decide) rfl ?_
        refine k_istore_n (n := 32) (lv' := [(2, .int (((((exW fw fc hu j) j) - ((exC fw fc hu j) j)) * hu) / 100)), (1, .int (nI j)), (0, .ref a)]) F dX4_exchange_31 rfl (by decide) rfl rfl ?_
        refine k_aload_n (n := 33) F dX4_exchange_32 rfl 2 rfl rfl ?_
        refine k_get (n := 36) (v := .ref wa) F uX4 0 0 rfl rfl (by decide) mw_38 rfl dX4_exchange_33 rfl ?_
        refine k_iload_n (n := 37) F dX4_exchange_36 rfl 1 rfl rfl ?_
        refine k_dup2_11 (n := 38) F dX4_exchange_37 rfl rfl rfl ?_
        refine k_iald (n := 39) (N := j) F 1 rfl (kIx_nI (by have h9 := hc101; rw [nI_leI (by omega) (by omega)] at h9; omega) (by decide)) dX4_exchange_38 rfl ?_
        refine k_iload_n (n := 40) F dX4_exchange_39 rfl 0 rfl rfl ?_
        refine k_isub (n := 41) F dX4_exchange_40 rfl ?_
        refine k_iast (n := 42) (N := j) (ws' := [(a, .inr (4, [.ref wa, .ref ca, .int (nI n), .int hu, .long x0, .long x1, .long x2, .long x3])), (wa, .inl (g.2 0, 8, .inl (upd (exW fw fc hu j) j (((exW fw fc hu j) j) - (((((exW fw fc hu j) j) - ((exC fw fc hu j) j)) * hu) / 100))))), (ca, .inl (g.2 0, 8, .inl (exC fw fc hu j)))]) F 1 rfl (kIx_nI (by have h9 := hc101; rw [nI_leI (by omega) (by omega)] at h9; omega) (by decide)) rfl dX4_exchange_41 rfl ?_
        refine k_aload_n (n := 43) F dX4_exchange_42 rfl 2 rfl rfl ?_
        refine k_get (n := 46) (v := .ref ca) F uX4 0 1 rfl rfl (by decide) mw_40 rfl dX4_exchange_43 rfl ?_
        refine k_iload_n (n := 47) F dX4_exchange_46 rfl 1 rfl rfl ?_
        refine k_dup2_11 (n := 48) F dX4_exchange_47 rfl rfl rfl ?_
        refine k_iald (n := 49) (N := j) F 2 rfl (kIx_nI (by have h9 := hc101; rw [nI_leI (by omega) (by omega)] at h9; omega) (by decide)) dX4_exchange_48 rfl ?_
        refine k_iload_n (n := 50) F dX4_exchange_49 rfl 0 rfl rfl ?_
        refine k_iadd (n := 51) F dX4_exchange_50 rfl ?_
        refine k_iast (n := 52) (N := j) (ws' := [(a, .inr (4, [.ref wa, .ref ca, .int (nI n), .int hu, .long x0, .long x1, .long x2, .long x3])), (wa, .inl (g.2 0, 8, .inl (upd (exW fw fc hu j) j (((exW fw fc hu j) j) - (((((exW fw fc hu j) j) - ((exC fw fc hu j) j)) * hu) / 100))))), (ca, .inl (g.2 0, 8, .inl (upd (exC fw fc hu j) j (((exC fw fc hu j) j) + (((((exW fw fc hu j) j) - ((exC fw fc hu j) j)) * hu) / 100)))))]) F 2 rfl (kIx_nI (by have h9 := hc101; rw [nI_leI (by omega) (by omega)] at h9; omega) (by decide)) rfl dX4_exchange_51 rfl ?_
        refine k_iinc (n := 55) (j := 1) (v := nI (j + 1)) (lv' := [(1, .int (nI (j + 1))), (2, .int (((((exW fw fc hu j) j) - ((exC fw fc hu j) j)) * hu) / 100)), (0, .ref a)]) F dX4_exchange_52 rfl (nI_1 j) (by decide) rfl rfl ?_
        refine k_goto (tgt := 2) F dX4_exchange_55 (by decide) ?_
        have hj9 : j < n := by have h9 := hc101; rw [nI_leI (by omega) (by omega)] at h9; omega
        refine k_lv (lv' := [(1, .int (nI (j + 1))), (0, .ref a)]) [0, 2] rfl ?_
        refine k_world (ws' := [(a, .inr (4, [.ref wa, .ref ca, .int (nI n), .int hu, .long x0, .long x1, .long x2, .long x3])), (wa, .inl (g.2 0, 8, .inl (exW fw fc hu (j + 1)))), (ca, .inl (g.2 0, 8, .inl (exC fw fc hu (j + 1))))]) (by rw [exW_s, exC_s]) ?_
        exact ih (j + 1) (by omega) (by omega)
  refine k_iconst (n := 1) (v := 0) F dX4_exchange_0 rfl rfl ?_
  refine k_istore_n (n := 2) (lv' := [(1, .int 0), (0, .ref a)]) F dX4_exchange_1 rfl (by decide) rfl rfl ?_
  refine k_lv (lv' := [(1, .int (nI 0)), (0, .ref a)]) [0, 1] rfl ?_
  refine k_world (ws' := [(a, .inr (4, [.ref wa, .ref ca, .int (nI n), .int hu, .long x0, .long x1, .long x2, .long x3])), (wa, .inl (g.2 0, 8, .inl (exW fw fc hu 0))), (ca, .inl (g.2 0, 8, .inl (exC fw fc hu 0)))]) (by rw [exW_0, exC_0]) ?_
  exact loop (n + 1) 0 (by omega) (by omega)
set_option maxRecDepth 100000 in
set_option maxHeartbeats 4000000 in
theorem c_moveOn (l : Launch) (g : kG) (a wa ca : Nat) (ln hu : Int32) (x0 x1 x2 x3 : Int64) (fw fc : Nat → Int32) (n : Nat) (hln : ln = nI n) (hn1 : 1 ≤ n) (hn8 : n ≤ 8) (il gb : Int32) : kM l yX4_moveOn cX4_moveOn 3 none (rmK 1 0 0 60) g [.ref a, .int il, .int gb] [(a, .inr (4, [.ref wa, .ref ca, .int ln, .int hu, .long x0, .long x1, .long x2, .long x3])), (wa, .inl (g.2 0, 8, .inl fw)), (ca, .inl (g.2 0, 8, .inl fc))] (kDv g [(a, .inr (4, [.ref wa, .ref ca, .int ln, .int hu, .long x0, .long x1, .long x2, .long x3])), (wa, .inl (g.2 0, 8, .inl (mvW fw n il))), (ca, .inl (g.2 0, 8, .inl (mvC fc n gb)))]) := by
  subst hln
  refine k_enter (by decide) (Nat.le_of_ble_eq_true rfl) ?_
  intro p e s m args below meth c A F
  refine k_aload_n (n := 1) F dX4_moveOn_0 rfl 0 rfl rfl ?_
  refine k_get (n := 4) (v := .ref wa) F uX4 0 0 rfl rfl (by decide) mw_38 rfl dX4_moveOn_1 rfl ?_
  refine k_iconst (n := 5) (v := 0) F dX4_moveOn_4 rfl rfl ?_
  refine k_aload_n (n := 6) F dX4_moveOn_5 rfl 0 rfl rfl ?_
  refine k_get (n := 9) (v := .ref wa) F uX4 0 0 rfl rfl (by decide) mw_38 rfl dX4_moveOn_6 rfl ?_
  refine k_iconst (n := 10) (v := 1) F dX4_moveOn_9 rfl rfl ?_
  refine k_aload_n (n := 11) F dX4_moveOn_10 rfl 0 rfl rfl ?_
  refine k_get (n := 14) (v := .int (nI n)) F uX4 0 2 rfl rfl (by decide) mw_42 rfl dX4_moveOn_11 rfl ?_
  refine k_iconst (n := 15) (v := 1) F dX4_moveOn_14 rfl rfl ?_
  refine k_isub (n := 16) F dX4_moveOn_15 rfl ?_
  refine k_copyi (n := 19) (S := 0) (D := 1) (N := n - 1) (ws' := [(a, .inr (4, [.ref wa, .ref ca, .int (nI n), .int hu, .long x0, .long x1, .long x2, .long x3])), (wa, .inl (g.2 0, 8, .inl (va_cpy fw fw 0 1 (n - 1)))), (ca, .inl (g.2 0, 8, .inl fc))]) F mw_458 mw_460 mw_459 mw_14 1 1 rfl rfl ⟨by decide, rfl⟩ ⟨by decide, rfl⟩ (kcz hn1 hn8) (by omega) (by omega) rfl dX4_moveOn_16 (by decide) (Nat.le_of_ble_eq_true rfl) rfl ?_
  refine k_aload_n (n := 20) F dX4_moveOn_19 rfl 0 rfl rfl ?_
  refine k_get (n := 23) (v := .ref wa) F uX4 0 0 rfl rfl (by decide) mw_38 rfl dX4_moveOn_20 rfl ?_
  refine k_iconst (n := 24) (v := 0) F dX4_moveOn_23 rfl rfl ?_
  refine k_iload_n (n := 25) F dX4_moveOn_24 rfl 1 rfl rfl ?_
  refine k_iast (n := 26) (N := 0) (ws' := [(a, .inr (4, [.ref wa, .ref ca, .int (nI n), .int hu, .long x0, .long x1, .long x2, .long x3])), (wa, .inl (g.2 0, 8, .inl (upd (va_cpy fw fw 0 1 (n - 1)) 0 il))), (ca, .inl (g.2 0, 8, .inl fc))]) F 1 rfl (kIx_nI (j := 0) (by decide) (by decide)) rfl dX4_moveOn_25 rfl ?_
  refine k_aload_n (n := 27) F dX4_moveOn_26 rfl 0 rfl rfl ?_
  refine k_get (n := 30) (v := .ref ca) F uX4 0 1 rfl rfl (by decide) mw_40 rfl dX4_moveOn_27 rfl ?_
  refine k_iconst (n := 31) (v := 1) F dX4_moveOn_30 rfl rfl ?_
  refine k_aload_n (n := 32) F dX4_moveOn_31 rfl 0 rfl rfl ?_
  refine k_get (n := 35) (v := .ref ca) F uX4 0 1 rfl rfl (by decide) mw_40 rfl dX4_moveOn_32 rfl ?_
  refine k_iconst (n := 36) (v := 0) F dX4_moveOn_35 rfl rfl ?_
  refine k_aload_n (n := 37) F dX4_moveOn_36 rfl 0 rfl rfl ?_
  refine k_get (n := 40) (v := .int (nI n)) F uX4 0 2 rfl rfl (by decide) mw_42 rfl dX4_moveOn_37 rfl ?_
  refine k_iconst (n := 41) (v := 1) F dX4_moveOn_40 rfl rfl ?_
  refine k_isub (n := 42) F dX4_moveOn_41 rfl ?_
  refine k_copyi (n := 45) (S := 1) (D := 0) (N := n - 1) (ws' := [(a, .inr (4, [.ref wa, .ref ca, .int (nI n), .int hu, .long x0, .long x1, .long x2, .long x3])), (wa, .inl (g.2 0, 8, .inl (upd (va_cpy fw fw 0 1 (n - 1)) 0 il))), (ca, .inl (g.2 0, 8, .inl (va_cpy fc fc 1 0 (n - 1))))]) F mw_458 mw_460 mw_459 mw_14 2 2 rfl rfl ⟨by decide, rfl⟩ ⟨by decide, rfl⟩ (kcz hn1 hn8) (by omega) (by omega) rfl dX4_moveOn_42 (by decide) (Nat.le_of_ble_eq_true rfl) rfl ?_
  refine k_aload_n (n := 46) F dX4_moveOn_45 rfl 0 rfl rfl ?_
  refine k_get (n := 49) (v := .ref ca) F uX4 0 1 rfl rfl (by decide) mw_40 rfl dX4_moveOn_46 rfl ?_
  refine k_aload_n (n := 50) F dX4_moveOn_49 rfl 0 rfl rfl ?_
  refine k_get (n := 53) (v := .int (nI n)) F uX4 0 2 rfl rfl (by decide) mw_42 rfl dX4_moveOn_50 rfl ?_
  refine k_iconst (n := 54) (v := 1) F dX4_moveOn_53 rfl rfl ?_
  refine k_isub (n := 55) F dX4_moveOn_54 rfl ?_
  refine k_iload_n (n := 56) F dX4_moveOn_55 rfl 2 rfl rfl ?_
  refine k_iast (n := 57) (N := n - 1) (ws' := [(a, .inr (4, [.ref wa, .ref ca, .int (nI n), .int hu, .long x0, .long x1, .long x2, .long x3])), (wa, .inl (g.2 0, 8, .inl (upd (va_cpy fw fw 0 1 (n - 1)) 0 il))), (ca, .inl (g.2 0, 8, .inl (upd (va_cpy fc fc 1 0 (n - 1)) (n - 1) gb)))]) F 2 rfl (kIx_pred hn1 hn8 (by decide)) rfl dX4_moveOn_56 rfl ?_
  exact k_vret F (by rw [mvW_e hn1 hn8, mvC_e hn1 hn8]) dX4_moveOn_57
set_option maxRecDepth 100000 in
set_option maxHeartbeats 4000000 in
theorem c_pass (l : Launch) (g : kG) (a wa ca : Nat) (ln hu : Int32) (x0 x1 x2 x3 : Int64) (fw fc : Nat → Int32) (n : Nat) (hln : ln = nI n) (hn1 : 1 ≤ n) (hn8 : n ≤ 8) (il co : Int32) : kM l yX4_pass cX4_pass 6 (some .int) (rmK 2 0 0 82) g [.ref a, .int il, .int co] [(a, .inr (4, [.ref wa, .ref ca, .int ln, .int hu, .long x0, .long x1, .long x2, .long x3])), (wa, .inl (g.2 0, 8, .inl fw)), (ca, .inl (g.2 0, 8, .inl fc))] (kDi g (psR fw fc hu n co) [(a, .inr (4, [.ref wa, .ref ca, .int ln, .int hu, .long (x0 + il.toInt64), .long (x1 + (exC fw fc hu n 0).toInt64), .long (x2 + (psL fw fc hu n - psG fw fc hu n co).toInt64), .long (x3 + 1)])), (wa, .inl (g.2 0, 8, .inl (mvW (exW fw fc hu n) n il))), (ca, .inl (g.2 0, 8, .inl (mvC (exC fw fc hu n) n (psG fw fc hu n co))))]) := by
  subst hln
  refine k_enter (by decide) (Nat.le_of_ble_eq_true rfl) ?_
  intro p e s m args below meth c A F
  refine k_aload_n (n := 1) F dX4_pass_0 rfl 0 rfl rfl ?_
  refine k_cv (n := 4) (ws' := [(a, .inr (4, [.ref wa, .ref ca, .int (nI n), .int hu, .long x0, .long x1, .long x2, .long x3])), (wa, .inl (g.2 0, 8, .inl (exW fw fc hu n))), (ca, .inl (g.2 0, 8, .inl (exC fw fc hu n)))]) F (k_rV (k := 0) (b := a) (As := []) (rest := []) F (c_exchange l g a wa ca (nI n) hu x0 x1 x2 x3 fw fc n rfl hn1 hn8) [0, 1, 2] rfl rfl 0 rfl rfl mw_450 mw_447 mw_449 mw_s12 mw_2 (by decide) ⟨by decide, by decide⟩ rfl (Nat.le_of_ble_eq_true rfl) ⟨by decide, by decide⟩ dX4_pass_1) [0, 1, 2] [] [0, 1, 2] rfl rfl rfl (by decide) rfl rfl rfl ?_
  refine k_aload_n (n := 5) F dX4_pass_4 rfl 0 rfl rfl ?_
  refine k_get (n := 8) (v := .ref wa) F uX4 0 0 rfl rfl (by decide) mw_38 rfl dX4_pass_5 rfl ?_
  refine k_aload_n (n := 9) F dX4_pass_8 rfl 0 rfl rfl ?_
  refine k_get (n := 12) (v := .int (nI n)) F uX4 0 2 rfl rfl (by decide) mw_42 rfl dX4_pass_9 rfl ?_
  refine k_iconst (n := 13) (v := 1) F dX4_pass_12 rfl rfl ?_
  refine k_isub (n := 14) F dX4_pass_13 rfl ?_
  refine k_iald (n := 15) (N := n - 1) F 1 rfl (kIx_pred hn1 hn8 (by decide)) dX4_pass_14 rfl ?_
  refine k_istore_n (n := 16) (lv' := [(3, .int ((exW fw fc hu n) (n - 1))), (0, .ref a), (1, .int il), (2, .int co)]) F dX4_pass_15 rfl (by decide) rfl rfl ?_
  refine k_iload_n (n := 17) F dX4_pass_16 rfl 0 rfl rfl ?_
  refine k_iload_n (n := 18) F dX4_pass_17 rfl 3 rfl rfl ?_
  refine k_isub (n := 19) F dX4_pass_18 rfl ?_
  refine k_istore (n := 21) (lv' := [(4, .int (((exW fw fc hu n) (n - 1)) - co)), (3, .int ((exW fw fc hu n) (n - 1))), (0, .ref a), (1, .int il), (2, .int co)]) F dX4_pass_19 (by decide) rfl rfl ?_
  refine k_iload (n := 23) F dX4_pass_21 0 rfl rfl ?_
  refine k_bipush (n := 25) (v := 80) F dX4_pass_23 rfl rfl ?_
  refine k_mmax (n := 28) F mw_451 mw_452 mw_13 mw_453 dX4_pass_25 (by decide) (Nat.le_of_ble_eq_true rfl) (by decide) (by decide) rfl ?_
  refine k_istore (n := 30) (lv' := [(5, .int (if ((exW fw fc hu n) (n - 1)) - co < 80 then 80 else ((exW fw fc hu n) (n - 1)) - co)), (4, .int (((exW fw fc hu n) (n - 1)) - co)), (3, .int ((exW fw fc hu n) (n - 1))), (0, .ref a), (1, .int il), (2, .int co)]) F dX4_pass_28 (by decide) rfl rfl ?_
  refine k_aload_n (n := 31) F dX4_pass_30 rfl 3 rfl rfl ?_
  refine k_dup (n := 32) F dX4_pass_31 rfl rfl ?_
  refine k_get (n := 35) (v := .long x0) F uX4 0 4 rfl rfl (by decide) mw_45 rfl dX4_pass_32 rfl ?_
  refine k_iload_n (n := 36) F dX4_pass_35 rfl 4 rfl rfl ?_
  refine k_i2l (n := 37) F dX4_pass_36 rfl ?_
  refine k_ladd (n := 38) F dX4_pass_37 rfl ?_
  refine k_put (n := 41) (ws' := [(a, .inr (4, [.ref wa, .ref ca, .int (nI n), .int hu, .long (x0 + il.toInt64), .long x1, .long x2, .long x3])), (wa, .inl (g.2 0, 8, .inl (exW fw fc hu n))), (ca, .inl (g.2 0, 8, .inl (exC fw fc hu n)))]) F uX4 tyX4_ok nmX4 0 4 rfl rfl (by decide) mw_45 rfl rfl rfl (Nat.le_of_ble_eq_true rfl) rfl dX4_pass_38 rfl ?_
  refine k_aload_n (n := 42) F dX4_pass_41 rfl 3 rfl rfl ?_
  refine k_dup (n := 43) F dX4_pass_42 rfl rfl ?_
  refine k_get (n := 46) (v := .long x1) F uX4 0 5 rfl rfl (by decide) mw_47 rfl dX4_pass_43 rfl ?_
  refine k_aload_n (n := 47) F dX4_pass_46 rfl 3 rfl rfl ?_
  refine k_get (n := 50) (v := .ref ca) F uX4 0 1 rfl rfl (by decide) mw_40 rfl dX4_pass_47 rfl ?_
  refine k_iconst (n := 51) (v := 0) F dX4_pass_50 rfl rfl ?_
  refine k_iald (n := 52) (N := 0) F 2 rfl (kIx_nI (j := 0) (by decide) (by decide)) dX4_pass_51 rfl ?_
  refine k_i2l (n := 53) F dX4_pass_52 rfl ?_
  refine k_ladd (n := 54) F dX4_pass_53 rfl ?_
  refine k_put (n := 57) (ws' := [(a, .inr (4, [.ref wa, .ref ca, .int (nI n), .int hu, .long (x0 + il.toInt64), .long (x1 + (((exC fw fc hu n) 0).toInt64)), .long x2, .long x3])), (wa, .inl (g.2 0, 8, .inl (exW fw fc hu n))), (ca, .inl (g.2 0, 8, .inl (exC fw fc hu n)))]) F uX4 tyX4_ok nmX4 0 5 rfl rfl (by decide) mw_47 rfl rfl rfl (Nat.le_of_ble_eq_true rfl) rfl dX4_pass_54 rfl ?_
  refine k_aload_n (n := 58) F dX4_pass_57 rfl 3 rfl rfl ?_
  refine k_dup (n := 59) F dX4_pass_58 rfl rfl ?_
  refine k_get (n := 62) (v := .long x2) F uX4 0 6 rfl rfl (by decide) mw_49 rfl dX4_pass_59 rfl ?_
  refine k_iload_n (n := 63) F dX4_pass_62 rfl 2 rfl rfl ?_
  refine k_iload (n := 65) F dX4_pass_63 0 rfl rfl ?_
  refine k_isub (n := 66) F dX4_pass_65 rfl ?_
  refine k_i2l (n := 67) F dX4_pass_66 rfl ?_
  refine k_ladd (n := 68) F dX4_pass_67 rfl ?_
  refine k_put (n := 71) (ws' := [(a, .inr (4, [.ref wa, .ref ca, .int (nI n), .int hu, .long (x0 + il.toInt64), .long (x1 + (((exC fw fc hu n) 0).toInt64)), .long (x2 + ((((exW fw fc hu n) (n - 1)) - (if ((exW fw fc hu n) (n - 1)) - co < 80 then 80 else ((exW fw fc hu n) (n - 1)) - co)).toInt64)), .long x3])), (wa, .inl (g.2 0, 8, .inl (exW fw fc hu n))), (ca, .inl (g.2 0, 8, .inl (exC fw fc hu n)))]) F uX4 tyX4_ok nmX4 0 6 rfl rfl (by decide) mw_49 rfl rfl rfl (Nat.le_of_ble_eq_true rfl) rfl dX4_pass_68 rfl ?_
  refine k_aload_n (n := 72) F dX4_pass_71 rfl 3 rfl rfl ?_
  refine k_dup (n := 73) F dX4_pass_72 rfl rfl ?_
  refine k_get (n := 76) (v := .long x3) F uX4 0 7 rfl rfl (by decide) mw_51 rfl dX4_pass_73 rfl ?_
  refine k_lconst (n := 77) (v := 1) F dX4_pass_76 rfl rfl ?_
  refine k_ladd (n := 78) F dX4_pass_77 rfl ?_
  refine k_put (n := 81) (ws' := [(a, .inr (4, [.ref wa, .ref ca, .int (nI n), .int hu, .long (x0 + il.toInt64), .long (x1 + (((exC fw fc hu n) 0).toInt64)), .long (x2 + ((((exW fw fc hu n) (n - 1)) - (if ((exW fw fc hu n) (n - 1)) - co < 80 then 80 else ((exW fw fc hu n) (n - 1)) - co)).toInt64)), .long (x3 + 1)])), (wa, .inl (g.2 0, 8, .inl (exW fw fc hu n))), (ca, .inl (g.2 0, 8, .inl (exC fw fc hu n)))]) F uX4 tyX4_ok nmX4 0 7 rfl rfl (by decide) mw_51 rfl rfl rfl (Nat.le_of_ble_eq_true rfl) rfl dX4_pass_78 rfl ?_
  refine k_aload_n (n := 82) F dX4_pass_81 rfl 3 rfl rfl ?_
  refine k_iload_n (n := 83) F dX4_pass_82 rfl 4 rfl rfl ?_
  refine k_iload (n := 85) F dX4_pass_83 0 rfl rfl ?_
  refine k_cv (n := 88) (ws' := [(a, .inr (4, [.ref wa, .ref ca, .int (nI n), .int hu, .long (x0 + il.toInt64), .long (x1 + (((exC fw fc hu n) 0).toInt64)), .long (x2 + ((((exW fw fc hu n) (n - 1)) - (if ((exW fw fc hu n) (n - 1)) - co < 80 then 80 else ((exW fw fc hu n) (n - 1)) - co)).toInt64)), .long (x3 + 1)])), (wa, .inl (g.2 0, 8, .inl (mvW (exW fw fc hu n) n il))), (ca, .inl (g.2 0, 8, .inl (mvC (exC fw fc hu n) n (if ((exW fw fc hu n) (n - 1)) - co < 80 then 80 else ((exW fw fc hu n) (n - 1)) - co))))]) F (k_rV (k := 2) (b := a) (As := [.int il, .int (if ((exW fw fc hu n) (n - 1)) - co < 80 then 80 else ((exW fw fc hu n) (n - 1)) - co)]) (rest := []) F (c_moveOn l g a wa ca (nI n) hu (x0 + il.toInt64) (x1 + (((exC fw fc hu n) 0).toInt64)) (x2 + ((((exW fw fc hu n) (n - 1)) - (if ((exW fw fc hu n) (n - 1)) - co < 80 then 80 else ((exW fw fc hu n) (n - 1)) - co)).toInt64)) (x3 + 1) (exW fw fc hu n) (exC fw fc hu n) n rfl hn1 hn8 il (if ((exW fw fc hu n) (n - 1)) - co < 80 then 80 else ((exW fw fc hu n) (n - 1)) - co)) [0, 1, 2] rfl rfl 0 rfl rfl mw_457 mw_454 mw_456 mw_s13 mw_2 (by decide) ⟨by decide, by decide⟩ rfl (Nat.le_of_ble_eq_true rfl) ⟨by decide, by decide⟩ dX4_pass_85) [0, 1, 2] [] [0, 1, 2] rfl rfl rfl (by decide) rfl rfl rfl ?_
  refine k_iload (n := 90) F dX4_pass_88 0 rfl rfl ?_
  refine k_iload (n := 92) F dX4_pass_90 1 rfl rfl ?_
  refine k_isub (n := 93) F dX4_pass_92 rfl ?_
  refine k_iconst (n := 94) (v := 5) F dX4_pass_93 rfl rfl ?_
  refine k_idiv (n := 95) F dX4_pass_94 (by decide) rfl ?_
  refine k_bipush (n := 97) (v := 20) F dX4_pass_95 rfl rfl ?_
  refine k_mmin (n := 100) F mw_461 mw_326 mw_13 mw_327 dX4_pass_97 (by decide) (Nat.le_of_ble_eq_true rfl) (by decide) (by decide) rfl ?_
  exact k_iret F (by first | rfl | (simp [psR, psG, psE, psL]; done) | (simp_all [psR, psG, psE, psL]; done)) (by first | rfl | (simp [psR, psG, psE, psL]; done) | (simp_all [psR, psG, psE, psL]; done)) dX4_pass_100
set_option maxRecDepth 100000 in
set_option maxHeartbeats 4000000 in
theorem c_rebuild (l : Launch) (g : kG) (a wa ca : Nat) (ln hu : Int32) (x0 x1 x2 x3 : Int64) (fw fc : Nat → Int32) (nn pp : Int32) : kM l yX4_rebuild cX4_rebuild 3 none (rmK 1 0 0 23) g [.ref a, .int nn, .int pp] [(a, .inr (4, [.ref wa, .ref ca, .int ln, .int hu, .long x0, .long x1, .long x2, .long x3])), (wa, .inl (g.2 0, 8, .inl fw)), (ca, .inl (g.2 0, 8, .inl fc))] (kDv g [(a, .inr (4, [.ref wa, .ref ca, .int nn, .int pp, .long 0, .long 0, .long 0, .long 0])), (wa, .inl (g.2 0, 8, .inl (kfill 300 fw 8))), (ca, .inl (g.2 0, 8, .inl (kfill 300 fc 8)))]) := by
  refine k_enter (by decide) (Nat.le_of_ble_eq_true rfl) ?_
  intro p e s m args below meth c A F
  refine k_aload_n (n := 1) F dX4_rebuild_0 rfl 0 rfl rfl ?_
  refine k_iload_n (n := 2) F dX4_rebuild_1 rfl 1 rfl rfl ?_
  refine k_put (n := 5) (ws' := [(a, .inr (4, [.ref wa, .ref ca, .int nn, .int hu, .long x0, .long x1, .long x2, .long x3])), (wa, .inl (g.2 0, 8, .inl fw)), (ca, .inl (g.2 0, 8, .inl fc))]) F uX4 tyX4_ok nmX4 0 2 rfl rfl (by decide) mw_42 rfl rfl rfl (Nat.le_of_ble_eq_true rfl) rfl dX4_rebuild_2 rfl ?_
  refine k_aload_n (n := 6) F dX4_rebuild_5 rfl 0 rfl rfl ?_
  refine k_iload_n (n := 7) F dX4_rebuild_6 rfl 2 rfl rfl ?_
  refine k_put (n := 10) (ws' := [(a, .inr (4, [.ref wa, .ref ca, .int nn, .int pp, .long x0, .long x1, .long x2, .long x3])), (wa, .inl (g.2 0, 8, .inl fw)), (ca, .inl (g.2 0, 8, .inl fc))]) F uX4 tyX4_ok nmX4 0 3 rfl rfl (by decide) mw_44 rfl rfl rfl (Nat.le_of_ble_eq_true rfl) rfl dX4_rebuild_7 rfl ?_
  refine k_aload_n (n := 11) F dX4_rebuild_10 rfl 0 rfl rfl ?_
  refine k_get (n := 14) (v := .ref wa) F uX4 0 0 rfl rfl (by decide) mw_38 rfl dX4_rebuild_11 rfl ?_
  refine k_sipush (n := 17) (v := 300) F dX4_rebuild_14 rfl rfl ?_
  refine k_cv (n := 20) (ws' := [(a, .inr (4, [.ref wa, .ref ca, .int nn, .int pp, .long x0, .long x1, .long x2, .long x3])), (wa, .inl (g.2 0, 8, .inl (kfill 300 fw 8))), (ca, .inl (g.2 0, 8, .inl fc))]) F (k_rS (k := 2) (As := [.ref wa, .int 300]) (rest := []) F (c_fill l g wa 8 fw 300 (by decide)) [1] rfl rfl mw_37 mw_35 mw_36 mw_3 (by decide) ⟨by decide, by decide⟩ rfl (Nat.le_of_ble_eq_true rfl) ⟨by decide, by decide⟩ dX4_rebuild_17) [1] [0, 2] [0, 2, 1] rfl rfl rfl (by decide) rfl rfl rfl ?_
  refine k_aload_n (n := 21) F dX4_rebuild_20 rfl 0 rfl rfl ?_
  refine k_get (n := 24) (v := .ref ca) F uX4 0 1 rfl rfl (by decide) mw_40 rfl dX4_rebuild_21 rfl ?_
  refine k_sipush (n := 27) (v := 300) F dX4_rebuild_24 rfl rfl ?_
  refine k_cv (n := 30) (ws' := [(a, .inr (4, [.ref wa, .ref ca, .int nn, .int pp, .long x0, .long x1, .long x2, .long x3])), (wa, .inl (g.2 0, 8, .inl (kfill 300 fw 8))), (ca, .inl (g.2 0, 8, .inl (kfill 300 fc 8)))]) F (k_rS (k := 2) (As := [.ref ca, .int 300]) (rest := []) F (c_fill l g ca 8 fc 300 (by decide)) [2] rfl rfl mw_37 mw_35 mw_36 mw_3 (by decide) ⟨by decide, by decide⟩ rfl (Nat.le_of_ble_eq_true rfl) ⟨by decide, by decide⟩ dX4_rebuild_27) [2] [0, 1] [0, 1, 2] rfl rfl rfl (by decide) rfl rfl rfl ?_
  refine k_aload_n (n := 31) F dX4_rebuild_30 rfl 0 rfl rfl ?_
  refine k_lconst (n := 32) (v := 0) F dX4_rebuild_31 rfl rfl ?_
  refine k_put (n := 35) (ws' := [(a, .inr (4, [.ref wa, .ref ca, .int nn, .int pp, .long 0, .long x1, .long x2, .long x3])), (wa, .inl (g.2 0, 8, .inl (kfill 300 fw 8))), (ca, .inl (g.2 0, 8, .inl (kfill 300 fc 8)))]) F uX4 tyX4_ok nmX4 0 4 rfl rfl (by decide) mw_45 rfl rfl rfl (Nat.le_of_ble_eq_true rfl) rfl dX4_rebuild_32 rfl ?_
  refine k_aload_n (n := 36) F dX4_rebuild_35 rfl 0 rfl rfl ?_
  refine k_lconst (n := 37) (v := 0) F dX4_rebuild_36 rfl rfl ?_
  refine k_put (n := 40) (ws' := [(a, .inr (4, [.ref wa, .ref ca, .int nn, .int pp, .long 0, .long 0, .long x2, .long x3])), (wa, .inl (g.2 0, 8, .inl (kfill 300 fw 8))), (ca, .inl (g.2 0, 8, .inl (kfill 300 fc 8)))]) F uX4 tyX4_ok nmX4 0 5 rfl rfl (by decide) mw_47 rfl rfl rfl (Nat.le_of_ble_eq_true rfl) rfl dX4_rebuild_37 rfl ?_
  refine k_aload_n (n := 41) F dX4_rebuild_40 rfl 0 rfl rfl ?_
  refine k_lconst (n := 42) (v := 0) F dX4_rebuild_41 rfl rfl ?_
  refine k_put (n := 45) (ws' := [(a, .inr (4, [.ref wa, .ref ca, .int nn, .int pp, .long 0, .long 0, .long 0, .long x3])), (wa, .inl (g.2 0, 8, .inl (kfill 300 fw 8))), (ca, .inl (g.2 0, 8, .inl (kfill 300 fc 8)))]) F uX4 tyX4_ok nmX4 0 6 rfl rfl (by decide) mw_49 rfl rfl rfl (Nat.le_of_ble_eq_true rfl) rfl dX4_rebuild_42 rfl ?_
  refine k_aload_n (n := 46) F dX4_rebuild_45 rfl 0 rfl rfl ?_
  refine k_lconst (n := 47) (v := 0) F dX4_rebuild_46 rfl rfl ?_
  refine k_put (n := 50) (ws' := [(a, .inr (4, [.ref wa, .ref ca, .int nn, .int pp, .long 0, .long 0, .long 0, .long 0])), (wa, .inl (g.2 0, 8, .inl (kfill 300 fw 8))), (ca, .inl (g.2 0, 8, .inl (kfill 300 fc 8)))]) F uX4 tyX4_ok nmX4 0 7 rfl rfl (by decide) mw_51 rfl rfl rfl (Nat.le_of_ble_eq_true rfl) rfl dX4_rebuild_47 rfl ?_
  exact k_vret F rfl dX4_rebuild_50
set_option maxRecDepth 100000 in
set_option maxHeartbeats 4000000 in
theorem c_accept (l : Launch) (g : kG) (a wa da ha : Nat) (tk nd mi : Int32) (fw fd fh : Nat → Int32) (x y : Int32) (htk : 0 ≤ tk) : kM l yX5_accept cX5_accept 3 (some .int) (rmK 0 0 0 0) g [.ref a, .int x, .int y] [(a, .inr (5, [.ref wa, .ref da, .ref ha, .int tk, .int nd, .int mi])), (wa, .inl (g.2 0, 8, .inl fw)), (da, .inl (g.2 0, 8, .inl fd)), (ha, .inl (g.2 0, 8, .inl fh))] (kDi g (if tk < 8 then tk + 1 - 1 else -3) [(a, .inr (5, [.ref wa, .ref da, .ref ha, .int (if tk < 8 then tk + 1 else tk), .int nd, .int mi])), (wa, .inl (g.2 0, 8, .inl (if tk < 8 then upd fw tk.toNatClampNeg x else fw))), (da, .inl (g.2 0, 8, .inl (if tk < 8 then upd fd tk.toNatClampNeg y else fd))), (ha, .inl (g.2 0, 8, .inl (if tk < 8 then upd fh tk.toNatClampNeg 0 else fh)))]) := by
  refine k_enter (by decide) (Nat.le_of_ble_eq_true rfl) ?_
  intro p e s m args below meth c A F
  refine k_aload_n (n := 1) F dX5_accept_0 rfl 0 rfl rfl ?_
  refine k_get (n := 4) (v := .int tk) F uX5 0 3 rfl rfl (by decide) mw_177 rfl dX5_accept_1 rfl ?_
  refine k_bipush (n := 6) (v := 8) F dX5_accept_4 rfl rfl ?_
  refine k_icmp_lt (n := 9) (tgt := 12) F dX5_accept_6 (by decide) rfl (fun hc1 => ?_) (fun hc1 => ?_)
  · refine k_aload_n (n := 13) F dX5_accept_12 rfl 0 rfl rfl ?_
    refine k_get (n := 16) (v := .ref wa) F uX5 0 0 rfl rfl (by decide) mw_174 rfl dX5_accept_13 rfl ?_
    refine k_aload_n (n := 17) F dX5_accept_16 rfl 0 rfl rfl ?_
    refine k_get (n := 20) (v := .int tk) F uX5 0 3 rfl rfl (by decide) mw_177 rfl dX5_accept_17 rfl ?_
    refine k_iload_n (n := 21) F dX5_accept_20 rfl 1 rfl rfl ?_
    refine k_iast (n := 22) (N := tk.toNatClampNeg) (ws' := [(a, .inr (5, [.ref wa, .ref da, .ref ha, .int tk, .int nd, .int mi])), (wa, .inl (g.2 0, 8, .inl (upd fw tk.toNatClampNeg x))), (da, .inl (g.2 0, 8, .inl fd)), (ha, .inl (g.2 0, 8, .inl fh))]) F 1 rfl (kIx_le htk (hc1) (by decide)) rfl dX5_accept_21 rfl ?_
    refine k_aload_n (n := 23) F dX5_accept_22 rfl 0 rfl rfl ?_
    refine k_get (n := 26) (v := .ref da) F uX5 0 1 rfl rfl (by decide) mw_175 rfl dX5_accept_23 rfl ?_
    refine k_aload_n (n := 27) F dX5_accept_26 rfl 0 rfl rfl ?_
    refine k_get (n := 30) (v := .int tk) F uX5 0 3 rfl rfl (by decide) mw_177 rfl dX5_accept_27 rfl ?_
    refine k_iload_n (n := 31) F dX5_accept_30 rfl 2 rfl rfl ?_
    refine k_iast (n := 32) (N := tk.toNatClampNeg) (ws' := [(a, .inr (5, [.ref wa, .ref da, .ref ha, .int tk, .int nd, .int mi])), (wa, .inl (g.2 0, 8, .inl (upd fw tk.toNatClampNeg x))), (da, .inl (g.2 0, 8, .inl (upd fd tk.toNatClampNeg y))), (ha, .inl (g.2 0, 8, .inl fh))]) F 2 rfl (kIx_le htk (hc1) (by decide)) rfl dX5_accept_31 rfl ?_
    refine k_aload_n (n := 33) F dX5_accept_32 rfl 0 rfl rfl ?_
    refine k_get (n := 36) (v := .ref ha) F uX5 0 2 rfl rfl (by decide) mw_176 rfl dX5_accept_33 rfl ?_
    refine k_aload_n (n := 37) F dX5_accept_36 rfl 0 rfl rfl ?_
    refine k_get (n := 40) (v := .int tk) F uX5 0 3 rfl rfl (by decide) mw_177 rfl dX5_accept_37 rfl ?_
    refine k_iconst (n := 41) (v := 0) F dX5_accept_40 rfl rfl ?_
    refine k_iast (n := 42) (N := tk.toNatClampNeg) (ws' := [(a, .inr (5, [.ref wa, .ref da, .ref ha, .int tk, .int nd, .int mi])), (wa, .inl (g.2 0, 8, .inl (upd fw tk.toNatClampNeg x))), (da, .inl (g.2 0, 8, .inl (upd fd tk.toNatClampNeg y))), (ha, .inl (g.2 0, 8, .inl (upd fh tk.toNatClampNeg 0)))]) F 3 rfl (kIx_le htk (hc1) (by decide)) rfl dX5_accept_41 rfl ?_
    refine k_aload_n (n := 43) F dX5_accept_42 rfl 0 rfl rfl ?_
    refine k_dup (n := 44) F dX5_accept_43 rfl rfl ?_
    refine k_get (n := 47) (v := .int tk) F uX5 0 3 rfl rfl (by decide) mw_177 rfl dX5_accept_44 rfl ?_
    refine k_iconst (n := 48) (v := 1) F dX5_accept_47 rfl rfl ?_
    refine k_iadd (n := 49) F dX5_accept_48 rfl ?_
    refine k_put (n := 52) (ws' := [(a, .inr (5, [.ref wa, .ref da, .ref ha, .int (tk + 1), .int nd, .int mi])), (wa, .inl (g.2 0, 8, .inl (upd fw tk.toNatClampNeg x))), (da, .inl (g.2 0, 8, .inl (upd fd tk.toNatClampNeg y))), (ha, .inl (g.2 0, 8, .inl (upd fh tk.toNatClampNeg 0)))]) F uX5 tyX5_ok nmX5 0 3 rfl rfl (by decide) mw_177 rfl rfl rfl (Nat.le_of_ble_eq_true rfl) rfl dX5_accept_49 rfl ?_
    refine k_aload_n (n := 53) F dX5_accept_52 rfl 0 rfl rfl ?_
    refine k_get (n := 56) (v := .int (tk + 1)) F uX5 0 3 rfl rfl (by decide) mw_177 rfl dX5_accept_53 rfl ?_
    refine k_iconst (n := 57) (v := 1) F dX5_accept_56 rfl rfl ?_
    refine k_isub (n := 58) F dX5_accept_57 rfl ?_
    exact k_iret F (by first | rfl | (simp [hc1, Int32.not_le.mpr hc1]; done) | (simp_all [hc1, Int32.not_le.mpr hc1]; done)) (by first | rfl | (simp [hc1, Int32.not_le.mpr hc1]; done) | (simp_all [hc1, Int32.not_le.mpr hc1]; done)) dX5_accept_58
  · refine k_bipush (n := 11) (v := -3) F dX5_accept_9 rfl rfl ?_
    exact k_iret F (by first | rfl | (simp [hc1, Int32.not_lt.mp hc1]; done) | (simp_all [hc1, Int32.not_lt.mp hc1]; done)) (by first | rfl | (simp [hc1, Int32.not_lt.mp hc1]; done) | (simp_all [hc1, Int32.not_lt.mp hc1]; done)) dX5_accept_11
set_option maxRecDepth 100000 in
set_option maxHeartbeats 4000000 in
theorem c_settleO (l : Launch) (g : kG) (a wa da ha sa : Nat) (tk nd mi : Int32) (fw fd fh : Nat → Int32) (ro ta ba : Int32) (ma de bl : Int64) (x : Int32) (j : Nat) (hx : x = nI j) (hj : j < 8) : kM l yX5_settle cX5_settle 3 (some .int) (rmK 1 0 0 21) g [.ref a, .int x, .ref sa] [(a, .inr (5, [.ref wa, .ref da, .ref ha, .int tk, .int nd, .int mi])), (wa, .inl (g.2 0, 8, .inl fw)), (da, .inl (g.2 0, 8, .inl fd)), (ha, .inl (g.2 0, 8, .inl fh)), (sa, .inr (6, [.int ro, .int ta, .int ba, .long ma, .long de, .long bl]))] (kDi g (if ta < fw j then 0 else 1) [(a, .inr (5, [.ref wa, .ref da, .ref ha, .int tk, .int nd, .int (if ta < fw j then mi + 1 else mi)])), (wa, .inl (g.2 0, 8, .inl fw)), (da, .inl (g.2 0, 8, .inl fd)), (ha, .inl (g.2 0, 8, .inl (upd fh j (if ta < fw j then 2 else 1)))), (sa, .inr (6, [.int ro, .int (if ta < fw j then ta else ta - fw j), .int ba, .long ma, .long (if ta < fw j then de else de + (fw j).toInt64), .long bl]))]) := by
  subst hx
  refine k_enter (by decide) (Nat.le_of_ble_eq_true rfl) ?_
  intro p e s m args below meth c A F
  refine k_aload_n (n := 1) F dX5_settle_0 rfl 2 rfl rfl ?_
  refine k_aload_n (n := 2) F dX5_settle_1 rfl 0 rfl rfl ?_
  refine k_get (n := 5) (v := .ref wa) F uX5 0 0 rfl rfl (by decide) mw_174 rfl dX5_settle_2 rfl ?_
  refine k_iload_n (n := 6) F dX5_settle_5 rfl 1 rfl rfl ?_
  refine k_iald (n := 7) (N := j) F 1 rfl (kIx_nI hj (by decide)) dX5_settle_6 rfl ?_
  refine k_ci (n := 10) (ws' := [(a, .inr (5, [.ref wa, .ref da, .ref ha, .int tk, .int nd, .int mi])), (wa, .inl (g.2 0, 8, .inl fw)), (da, .inl (g.2 0, 8, .inl fd)), (ha, .inl (g.2 0, 8, .inl fh)), (sa, .inr (6, [.int ro, .int (if ta < (fw j) then ta else ta - (fw j)), .int ba, .long ma, .long (if ta < (fw j) then de else de + (fw j).toInt64), .long bl]))]) F (k_rV (k := 1) (b := sa) (As := [.int (fw j)]) (rest := []) F (c_handOver l g sa ro ta ba (fw j) ma de bl) [4] rfl rfl 0 rfl rfl mw_517 mw_514 mw_515 mw_516 mw_7 (by decide) ⟨by decide, by decide⟩ rfl (Nat.le_of_ble_eq_true rfl) ⟨by decide, by decide⟩ dX5_settle_7) [4] [0, 1, 2, 3] [0, 1, 2, 3, 4] rfl rfl rfl (by decide) rfl rfl rfl ?_
  refine k_if_eq (n := 13) (tgt := 22) F dX5_settle_10 (by decide) rfl (fun hc1 => ?_) (fun hc1 => ?_)
  · replace hc1 := kiteAt hc1
    refine k_aload_n (n := 23) F dX5_settle_22 rfl 0 rfl rfl ?_
    refine k_get (n := 26) (v := .ref ha) F uX5 0 2 rfl rfl (by decide) mw_176 rfl dX5_settle_23 rfl ?_
    refine k_iload_n (n := 27) F dX5_settle_26 rfl 1 rfl rfl ?_
    refine k_iconst (n := 28) (v := 2) F dX5_settle_27 rfl rfl ?_
    refine k_iast (n := 29) (N := j) (ws' := [(a, .inr (5, [.ref wa, .ref da, .ref ha, .int tk, .int nd, .int mi])), (wa, .inl (g.2 0, 8, .inl fw)), (da, .inl (g.2 0, 8, .inl fd)), (ha, .inl (g.2 0, 8, .inl (upd fh j 2))), (sa, .inr (6, [.int ro, .int (if ta < (fw j) then ta else ta - (fw j)), .int ba, .long ma, .long (if ta < (fw j) then de else de + (fw j).toInt64), .long bl]))]) F 3 rfl (kIx_nI hj (by decide)) rfl dX5_settle_28 rfl ?_
    refine k_aload_n (n := 30) F dX5_settle_29 rfl 0 rfl rfl ?_
    refine k_dup (n := 31) F dX5_settle_30 rfl rfl ?_
    refine k_get (n := 34) (v := .int mi) F uX5 0 5 rfl rfl (by decide) mw_181 rfl dX5_settle_31 rfl ?_
    refine k_iconst (n := 35) (v := 1) F dX5_settle_34 rfl rfl ?_
    refine k_iadd (n := 36) F dX5_settle_35 rfl ?_
    refine k_put (n := 39) (ws' := [(a, .inr (5, [.ref wa, .ref da, .ref ha, .int tk, .int nd, .int (mi + 1)])), (wa, .inl (g.2 0, 8, .inl fw)), (da, .inl (g.2 0, 8, .inl fd)), (ha, .inl (g.2 0, 8, .inl (upd fh j 2))), (sa, .inr (6, [.int ro, .int (if ta < (fw j) then ta else ta - (fw j)), .int ba, .long ma, .long (if ta < (fw j) then de else de + (fw j).toInt64), .long bl]))]) F uX5 tyX5_ok nmX5 0 5 rfl rfl (by decide) mw_181 rfl rfl rfl (Nat.le_of_ble_eq_true rfl) rfl dX5_settle_36 rfl ?_
    refine k_iconst (n := 40) (v := 0) F dX5_settle_39 rfl rfl ?_
    exact k_iret F (by first | rfl | (simp [hc1, Int32.not_le.mpr hc1]; done) | (simp_all [hc1, Int32.not_le.mpr hc1]; done)) (by first | rfl | (simp [hc1, Int32.not_le.mpr hc1]; done) | (simp_all [hc1, Int32.not_le.mpr hc1]; done)) dX5_settle_40
  · replace hc1 := kiteAf hc1
    refine k_aload_n (n := 14) F dX5_settle_13 rfl 0 rfl rfl ?_
    refine k_get (n := 17) (v := .ref ha) F uX5 0 2 rfl rfl (by decide) mw_176 rfl dX5_settle_14 rfl ?_
    refine k_iload_n (n := 18) F dX5_settle_17 rfl 1 rfl rfl ?_
    refine k_iconst (n := 19) (v := 1) F dX5_settle_18 rfl rfl ?_
    refine k_iast (n := 20) (N := j) (ws' := [(a, .inr (5, [.ref wa, .ref da, .ref ha, .int tk, .int nd, .int mi])), (wa, .inl (g.2 0, 8, .inl fw)), (da, .inl (g.2 0, 8, .inl fd)), (ha, .inl (g.2 0, 8, .inl (upd fh j 1))), (sa, .inr (6, [.int ro, .int (if ta < (fw j) then ta else ta - (fw j)), .int ba, .long ma, .long (if ta < (fw j) then de else de + (fw j).toInt64), .long bl]))]) F 3 rfl (kIx_nI hj (by decide)) rfl dX5_settle_19 rfl ?_
    refine k_iconst (n := 21) (v := 1) F dX5_settle_20 rfl rfl ?_
    exact k_iret F (by first | rfl | (simp [hc1, Int32.not_lt.mp hc1]; done) | (simp_all [hc1, Int32.not_lt.mp hc1]; done)) (by first | rfl | (simp [hc1, Int32.not_lt.mp hc1]; done) | (simp_all [hc1, Int32.not_lt.mp hc1]; done)) dX5_settle_21
set_option maxRecDepth 100000 in
set_option maxHeartbeats 4000000 in
theorem c_endDay (l : Launch) (g : kG) (a wa da ha sa : Nat) (tk nd mi : Int32) (fw fd fh : Nat → Int32) (ro ta ba : Int32) (ma de bl : Int64) (tn : Nat) (htk : tk = nI tn) (htn : tn ≤ 8) : kM l yX5_endDay cX5_endDay 4 (some .int) (rmK 2 0 0 43) g [.ref a, .ref sa] [(a, .inr (5, [.ref wa, .ref da, .ref ha, .int tk, .int nd, .int mi])), (wa, .inl (g.2 0, 8, .inl fw)), (da, .inl (g.2 0, 8, .inl fd)), (ha, .inl (g.2 0, 8, .inl fh)), (sa, .inr (6, [.int ro, .int ta, .int ba, .long ma, .long de, .long bl]))] (kDi g (edL fw fd nd (0, fh, mi, ta, de) tn).1 [(a, .inr (5, [.ref wa, .ref da, .ref ha, .int tk, .int (nd + 1), .int ((edL fw fd nd (0, fh, mi, ta, de) tn).2.2.1)])), (wa, .inl (g.2 0, 8, .inl fw)), (da, .inl (g.2 0, 8, .inl fd)), (ha, .inl (g.2 0, 8, .inl ((edL fw fd nd (0, fh, mi, ta, de) tn).2.1))), (sa, .inr (6, [.int ro, .int ((edL fw fd nd (0, fh, mi, ta, de) tn).2.2.2.1), .int ba, .long ma, .long ((edL fw fd nd (0, fh, mi, ta, de) tn).2.2.2.2), .long bl]))]) := by
  subst htk
  refine k_enter (by decide) (Nat.le_of_ble_eq_true rfl) ?_
  intro p e s m args below meth c A F
  have loop : ∀ (k j : Nat), j ≤ tn → tn + 1 ≤ j + k → KW p l e ((rmK 2 0 0 43)) s m args below meth c (MQ below ((kDi g (edL fw fd nd (0, fh, mi, ta, de) tn).1 [(a, .inr (5, [.ref wa, .ref da, .ref ha, .int (nI tn), .int (nd + 1), .int ((edL fw fd nd (0, fh, mi, ta, de) tn).2.2.1)])), (wa, .inl (g.2 0, 8, .inl fw)), (da, .inl (g.2 0, 8, .inl fd)), (ha, .inl (g.2 0, 8, .inl ((edL fw fd nd (0, fh, mi, ta, de) tn).2.1))), (sa, .inr (6, [.int ro, .int ((edL fw fd nd (0, fh, mi, ta, de) tn).2.2.2.1), .int ba, .long ma, .long ((edL fw fd nd (0, fh, mi, ta, de) tn).2.2.2.2), .long bl]))]) A) args s ((rmK 2 0 0 43)).cells ((rmK 2 0 0 43)).slots A) g A 4 ([(a, .inr (5, [.ref wa, .ref da, .ref ha, .int (nI tn), .int nd, .int ((edL fw fd nd (0, fh, mi, ta, de) j).2.2.1)])), (wa, .inl (g.2 0, 8, .inl fw)), (da, .inl (g.2 0, 8, .inl fd)), (ha, .inl (g.2 0, 8, .inl ((edL fw fd nd (0, fh, mi, ta, de) j).2.1))), (sa, .inr (6, [.int ro, .int ((edL fw fd nd (0, fh, mi, ta, de) j).2.2.2.1), .int ba, .long ma, .long ((edL fw fd nd (0, fh, mi, ta, de) j).2.2.2.2), .long bl]))]) 0 0 4 [(3, .int (nI j)), (2, .int ((edL fw fd nd (0, fh, mi, ta, de) j).1)), (0, .ref a), (1, .ref sa)] [] := by
    intro k
    induction k with
    | zero =>
      intro j h1 h2
      exact absurd h2 (by omega)
    | succ k ih =>
      intro j h1 h2
      refine k_iload_n (n := 5) F dX5_endDay_4 rfl 0 rfl rfl ?_
      refine k_aload_n (n := 6) F dX5_endDay_5 rfl 2 rfl rfl ?_
      refine k_get (n := 9) (v := .int (nI tn)) F uX5 0 3 rfl rfl (by decide) mw_177 rfl dX5_endDay_6 rfl ?_
      refine k_icmp_ge (n := 12) (tgt := 40) F dX5_endDay_9 (by decide) rfl (fun hc101 => ?_) (fun hc101 => ?_)
      · refine k_aload_n (n := 41) F dX5_endDay_40 rfl 2 rfl rfl ?_
        refine k_dup (n := 42) F dX5_endDay_41 rfl rfl ?_
        refine k_get (n := 45) (v := .int nd) F uX5 0 4 rfl rfl (by decide) mw_179 rfl dX5_endDay_42 rfl ?_
        refine k_iconst (n := 46) (v := 1) F dX5_endDay_45 rfl rfl ?_
        refine k_iadd (n := 47) F dX5_endDay_46 rfl ?_
        refine k_put (n := 50) (ws' := [(a, .inr (5, [.ref wa, .ref da, .ref ha, .int (nI tn), .int (nd + 1), .int ((edL fw fd nd (0, fh, mi, ta, de) j).2.2.1)])), (wa, .inl (g.2 0, 8, .inl fw)), (da, .inl (g.2 0, 8, .inl fd)), (ha, .inl (g.2 0, 8, .inl ((edL fw fd nd (0, fh, mi, ta, de) j).2.1))), (sa, .inr (6, [.int ro, .int ((edL fw fd nd (0, fh, mi, ta, de) j).2.2.2.1), .int ba, .long ma, .long ((edL fw fd nd (0, fh, mi, ta, de) j).2.2.2.2), .long bl]))]) F uX5 tyX5_ok nmX5 0 4 rfl rfl (by decide) mw_179 rfl rfl rfl (Nat.le_of_ble_eq_true rfl) rfl dX5_endDay_47 rfl ?_
        refine k_iload_n (n := 51) F dX5_endDay_50 rfl 1 rfl rfl ?_
        have hj9 : j = tn := by have h9 := hc101; rw [nI_leI (by omega) (by omega)] at h9; omega
        subst hj9
        exact k_iret F rfl rfl dX5_endDay_51
      · have hj9 : j < tn := by have h9 := hc101; rw [nI_leI (by omega) (by omega)] at h9; omega
        have hj8 : j < 8 := by omega
        refine k_aload_n (n := 13) F dX5_endDay_12 rfl 2 rfl rfl ?_
        refine k_get (n := 16) (v := .ref da) F uX5 0 1 rfl rfl (by decide) mw_175 rfl dX5_endDay_13 rfl ?_
        refine k_iload_n (n := 17) F dX5_endDay_16 rfl 0 rfl rfl ?_
        refine k_iald (n := 18) (N := j) F 2 rfl (kIx_nI (by have h9 := hc101; rw [nI_leI (by omega) (by omega)] at h9; omega) (by decide)) dX5_endDay_17 rfl ?_
        refine k_aload_n (n := 19) F dX5_endDay_18 rfl 2 rfl rfl ?_
        refine k_get (n := 22) (v := .int nd) F uX5 0 4 rfl rfl (by decide) mw_179 rfl dX5_endDay_19 rfl ?_
        refine k_icmp_ne (n := 25) (tgt := 34) F dX5_endDay_22 (by decide) rfl (fun hc102 => ?_) (fun hc102 => ?_)
        · refine k_iinc (n := 37) (j := 0) (v := nI (j + 1)) (lv' := [(3, .int (nI (j + 1))), (2, .int ((edL fw fd nd (0, fh, mi, ta, de) j).1)), (0, .ref a), (1, .ref sa)]) F dX5_endDay_34 rfl (nI_1 j) (by decide) rfl rfl ?_
          refine k_goto (tgt := 4) F dX5_endDay_37 (by decide) ?_
          refine k_lv (lv' := [(3, .int (nI (j + 1))), (2, .int ((edL fw fd nd (0, fh, mi, ta, de) j).1)), (0, .ref a), (1, .ref sa)]) [0, 1, 2, 3] rfl ?_
          refine k_lvv (lv' := [(3, .int (nI (j + 1))), (2, .int ((edL fw fd nd (0, fh, mi, ta, de) (j + 1)).1)), (0, .ref a), (1, .ref sa)]) (by simp [edL, edS, hc102]) ?_
          refine k_world (ws' := [(a, .inr (5, [.ref wa, .ref da, .ref ha, .int (nI tn), .int nd, .int ((edL fw fd nd (0, fh, mi, ta, de) (j + 1)).2.2.1)])), (wa, .inl (g.2 0, 8, .inl fw)), (da, .inl (g.2 0, 8, .inl fd)), (ha, .inl (g.2 0, 8, .inl ((edL fw fd nd (0, fh, mi, ta, de) (j + 1)).2.1))), (sa, .inr (6, [.int ro, .int ((edL fw fd nd (0, fh, mi, ta, de) (j + 1)).2.2.2.1), .int ba, .long ma, .long ((edL fw fd nd (0, fh, mi, ta, de) (j + 1)).2.2.2.2), .long bl]))]) (by simp [edL, edS, hc102]) ?_
          exact ih (j + 1) (by omega) (by omega)
        · refine k_iload_n (n := 26) F dX5_endDay_25 rfl 1 rfl rfl ?_
          refine k_aload_n (n := 27) F dX5_endDay_26 rfl 2 rfl rfl ?_
          refine k_iload_n (n := 28) F dX5_endDay_27 rfl 0 rfl rfl ?_
          refine k_aload_n (n := 29) F dX5_endDay_28 rfl 3 rfl rfl ?_
          refine k_ci (n := 32) (ws' := [(a, .inr (5, [.ref wa, .ref da, .ref ha, .int (nI tn), .int nd, .int (if ((edL fw fd nd (0, fh, mi, ta, de) j).2.2.2.1) < fw j then ((edL fw fd nd (0, fh, mi, ta, de) j).2.2.1) + 1 else ((edL fw fd nd (0, fh, mi, ta, de) j).2.2.1))])), (wa, .inl (g.2 0, 8, .inl fw)), (da, .inl (g.2 0, 8, .inl fd)), (ha, .inl (g.2 0, 8, .inl (upd ((edL fw fd nd (0, fh, mi, ta, de) j).2.1) j (if ((edL fw fd nd (0, fh, mi, ta, de) j).2.2.2.1) < fw j then 2 else 1)))), (sa, .inr (6, [.int ro, .int (if ((edL fw fd nd (0, fh, mi, ta, de) j).2.2.2.1) < fw j then ((edL fw fd nd (0, fh, mi, ta, de) j).2.2.2.1) else ((edL fw fd nd (0, fh, mi, ta, de) j).2.2.2.1) - fw j), .int ba, .long ma, .long (if ((edL fw fd nd (0, fh, mi, ta, de) j).2.2.2.1) < fw j then ((edL fw fd nd (0, fh, mi, ta, de) j).2.2.2.2) else ((edL fw fd nd (0, fh, mi, ta, de) j).2.2.2.2) + (fw j).toInt64), .long bl]))]) F (k_rV (k := 2) (b := a) (As := [.int (nI j), .ref sa]) (rest := [.int ((edL fw fd nd (0, fh, mi, ta, de) j).1)]) F (c_settleO l g a wa da ha sa (nI tn) nd ((edL fw fd nd (0, fh, mi, ta, de) j).2.2.1) fw fd ((edL fw fd nd (0, fh, mi, ta, de) j).2.1) ro ((edL fw fd nd (0, fh, mi, ta, de) j).2.2.2.1) ba ma ((edL fw fd nd (0, fh, mi, ta, de) j).2.2.2.2) bl (nI j) j rfl hj8) [0, 1, 2, 3, 4] rfl rfl 0 rfl rfl mw_513 mw_510 mw_512 mw_s15 mw_8 (by decide) ⟨by decide, by decide⟩ rfl (Nat.le_of_ble_eq_true rfl) ⟨by decide, by decide⟩ dX5_endDay_29) [0, 1, 2, 3, 4] [] [0, 1, 2, 3, 4] rfl rfl rfl (by decide) rfl rfl rfl ?_
          refine k_iadd (n := 33) F dX5_endDay_32 rfl ?_
          refine k_istore_n (n := 34) (lv' := [(2, .int (((edL fw fd nd (0, fh, mi, ta, de) j).1) + (if ((edL fw fd nd (0, fh, mi, ta, de) j).2.2.2.1) < fw j then 0 else 1))), (3, .int (nI j)), (0, .ref a), (1, .ref sa)]) F dX5_endDay_33 rfl (by decide) rfl rfl ?_
          refine k_iinc (n := 37) (j := 1) (v := nI (j + 1)) (lv' := [(3, .int (nI (j + 1))), (2, .int (((edL fw fd nd (0, fh, mi, ta, de) j).1) + (if ((edL fw fd nd (0, fh, mi, ta, de) j).2.2.2.1) < fw j then 0 else 1))), (0, .ref a), (1, .ref sa)]) F dX5_endDay_34 rfl (nI_1 j) (by decide) rfl rfl ?_
          refine k_goto (tgt := 4) F dX5_endDay_37 (by decide) ?_
          refine k_lv (lv' := [(3, .int (nI (j + 1))), (2, .int (((edL fw fd nd (0, fh, mi, ta, de) j).1) + (if ((edL fw fd nd (0, fh, mi, ta, de) j).2.2.2.1) < fw j then 0 else 1))), (0, .ref a), (1, .ref sa)]) [0, 1, 2, 3] rfl ?_
          refine k_lvv (lv' := [(3, .int (nI (j + 1))), (2, .int ((edL fw fd nd (0, fh, mi, ta, de) (j + 1)).1)), (0, .ref a), (1, .ref sa)]) (by simp [edL, edS, hc102]) ?_
          refine k_world (ws' := [(a, .inr (5, [.ref wa, .ref da, .ref ha, .int (nI tn), .int nd, .int ((edL fw fd nd (0, fh, mi, ta, de) (j + 1)).2.2.1)])), (wa, .inl (g.2 0, 8, .inl fw)), (da, .inl (g.2 0, 8, .inl fd)), (ha, .inl (g.2 0, 8, .inl ((edL fw fd nd (0, fh, mi, ta, de) (j + 1)).2.1))), (sa, .inr (6, [.int ro, .int ((edL fw fd nd (0, fh, mi, ta, de) (j + 1)).2.2.2.1), .int ba, .long ma, .long ((edL fw fd nd (0, fh, mi, ta, de) (j + 1)).2.2.2.2), .long bl]))]) (by simp [edL, edS, hc102]) ?_
          exact ih (j + 1) (by omega) (by omega)
  refine k_iconst (n := 1) (v := 0) F dX5_endDay_0 rfl rfl ?_
  refine k_istore_n (n := 2) (lv' := [(2, .int 0), (0, .ref a), (1, .ref sa)]) F dX5_endDay_1 rfl (by decide) rfl rfl ?_
  refine k_iconst (n := 3) (v := 0) F dX5_endDay_2 rfl rfl ?_
  refine k_istore_n (n := 4) (lv' := [(3, .int 0), (2, .int 0), (0, .ref a), (1, .ref sa)]) F dX5_endDay_3 rfl (by decide) rfl rfl ?_
  refine k_lv (lv' := [(3, .int (nI 0)), (2, .int ((edL fw fd nd (0, fh, mi, ta, de) 0).1)), (0, .ref a), (1, .ref sa)]) [0, 1, 2, 3] rfl ?_
  exact loop (tn + 1) 0 (by omega) (by omega)
set_option maxRecDepth 100000 in
set_option maxHeartbeats 4000000 in
theorem c_otell (l : Launch) (g : kG) (a wa da ha : Nat) (tk nd mi : Int32) (fw fd fh : Nat → Int32) (x y : Int32) (htk : tk ≤ 8) : kM l yX5_tell cX5_tell 3 (some .int) (rmK 0 0 0 0) g [.ref a, .int x, .int y] [(a, .inr (5, [.ref wa, .ref da, .ref ha, .int tk, .int nd, .int mi])), (wa, .inl (g.2 0, 8, .inl fw)), (da, .inl (g.2 0, 8, .inl fd)), (ha, .inl (g.2 0, 8, .inl fh))] (kDi g (orR tk fw fd fh x y) [(a, .inr (5, [.ref wa, .ref da, .ref ha, .int tk, .int nd, .int mi])), (wa, .inl (g.2 0, 8, .inl fw)), (da, .inl (g.2 0, 8, .inl fd)), (ha, .inl (g.2 0, 8, .inl fh))]) := by
  refine k_enter (by decide) (Nat.le_of_ble_eq_true rfl) ?_
  intro p e s m args below meth c A F
  refine k_iload_n (n := 1) F dX5_tell_0 rfl 1 rfl rfl ?_
  refine k_if_lt (n := 4) (tgt := 12) F dX5_tell_1 (by decide) rfl (fun hc1 => ?_) (fun hc1 => ?_)
  · refine k_iconst (n := 13) (v := -1) F dX5_tell_12 rfl rfl ?_
    exact k_iret F (by first | rfl | (simp [orR, hc1, Int32.not_le.mpr hc1]; done) | (simp_all [orR, hc1, Int32.not_le.mpr hc1]; done)) (by first | rfl | (simp [orR, hc1, Int32.not_le.mpr hc1]; done) | (simp_all [orR, hc1, Int32.not_le.mpr hc1]; done)) dX5_tell_13
  · refine k_iload_n (n := 5) F dX5_tell_4 rfl 1 rfl rfl ?_
    refine k_aload_n (n := 6) F dX5_tell_5 rfl 0 rfl rfl ?_
    refine k_get (n := 9) (v := .int tk) F uX5 0 3 rfl rfl (by decide) mw_177 rfl dX5_tell_6 rfl ?_
    refine k_icmp_lt (n := 12) (tgt := 14) F dX5_tell_9 (by decide) rfl (fun hc2 => ?_) (fun hc2 => ?_)
    · refine k_iload_n (n := 15) F dX5_tell_14 rfl 2 rfl rfl ?_
      by_cases hc3 : y = 0
      · refine k_tableIn (off := 25) (tgt := 40) F dX5_tell_15 (by rw [hc3]; decide) (by rw [hc3]; decide) (by rw [hc3]; rfl) (by decide) ?_
        refine k_aload_n (n := 41) F dX5_tell_40 rfl 0 rfl rfl ?_
        refine k_get (n := 44) (v := .ref wa) F uX5 0 0 rfl rfl (by decide) mw_174 rfl dX5_tell_41 rfl ?_
        refine k_iload_n (n := 45) F dX5_tell_44 rfl 1 rfl rfl ?_
        refine k_iald (n := 46) (N := x.toNatClampNeg) F 1 rfl (kIx_le2 hc1 hc2 htk) dX5_tell_45 rfl ?_
        exact k_iret F (by first | rfl | (simp [orR, hc1, Int32.not_lt.mp hc1, hc2, Int32.not_le.mpr hc2, hc3]; done) | (simp_all [orR, hc1, Int32.not_lt.mp hc1, hc2, Int32.not_le.mpr hc2, hc3]; done)) (by first | rfl | (simp [orR, hc1, Int32.not_lt.mp hc1, hc2, Int32.not_le.mpr hc2, hc3]; done) | (simp_all [orR, hc1, Int32.not_lt.mp hc1, hc2, Int32.not_le.mpr hc2, hc3]; done)) dX5_tell_46
      by_cases hc4 : y = 1
      · refine k_tableIn (off := 32) (tgt := 47) F dX5_tell_15 (by rw [hc4]; decide) (by rw [hc4]; decide) (by rw [hc4]; rfl) (by decide) ?_
        refine k_aload_n (n := 48) F dX5_tell_47 rfl 0 rfl rfl ?_
        refine k_get (n := 51) (v := .ref da) F uX5 0 1 rfl rfl (by decide) mw_175 rfl dX5_tell_48 rfl ?_
        refine k_iload_n (n := 52) F dX5_tell_51 rfl 1 rfl rfl ?_
        refine k_iald (n := 53) (N := x.toNatClampNeg) F 2 rfl (kIx_le2 hc1 hc2 htk) dX5_tell_52 rfl ?_
        exact k_iret F (by first | rfl | (simp [orR, hc1, Int32.not_lt.mp hc1, hc2, Int32.not_le.mpr hc2, hc3, hc4]; done) | (simp_all [orR, hc1, Int32.not_lt.mp hc1, hc2, Int32.not_le.mpr hc2, hc3, hc4]; done)) (by first | rfl | (simp [orR, hc1, Int32.not_lt.mp hc1, hc2, Int32.not_le.mpr hc2, hc3, hc4]; done) | (simp_all [orR, hc1, Int32.not_lt.mp hc1, hc2, Int32.not_le.mpr hc2, hc3, hc4]; done)) dX5_tell_53
      by_cases hc5 : y = 2
      · refine k_tableIn (off := 39) (tgt := 54) F dX5_tell_15 (by rw [hc5]; decide) (by rw [hc5]; decide) (by rw [hc5]; rfl) (by decide) ?_
        refine k_aload_n (n := 55) F dX5_tell_54 rfl 0 rfl rfl ?_
        refine k_get (n := 58) (v := .ref ha) F uX5 0 2 rfl rfl (by decide) mw_176 rfl dX5_tell_55 rfl ?_
        refine k_iload_n (n := 59) F dX5_tell_58 rfl 1 rfl rfl ?_
        refine k_iald (n := 60) (N := x.toNatClampNeg) F 3 rfl (kIx_le2 hc1 hc2 htk) dX5_tell_59 rfl ?_
        exact k_iret F (by first | rfl | (simp [orR, hc1, Int32.not_lt.mp hc1, hc2, Int32.not_le.mpr hc2, hc3, hc4, hc5]; done) | (simp_all [orR, hc1, Int32.not_lt.mp hc1, hc2, Int32.not_le.mpr hc2, hc3, hc4, hc5]; done)) (by first | rfl | (simp [orR, hc1, Int32.not_lt.mp hc1, hc2, Int32.not_le.mpr hc2, hc3, hc4, hc5]; done) | (simp_all [orR, hc1, Int32.not_lt.mp hc1, hc2, Int32.not_le.mpr hc2, hc3, hc4, hc5]; done)) dX5_tell_60
      refine k_tableOut (tgt := 61) F dX5_tell_15 (by have z0 := lv_neT hc3 (show (0 : Int32).toInt = 0 from rfl); have z1 := lv_neT hc4 (show (1 : Int32).toInt = 1 from rfl); have z2 := lv_neT hc5 (show (2 : Int32).toInt = 2 from rfl); omega) (by decide) ?_
      refine k_iconst (n := 62) (v := -1) F dX5_tell_61 rfl rfl ?_
      exact k_iret F (by first | rfl | (simp [orR, hc1, Int32.not_lt.mp hc1, hc2, Int32.not_le.mpr hc2, hc3, hc4, hc5]; done) | (simp_all [orR, hc1, Int32.not_lt.mp hc1, hc2, Int32.not_le.mpr hc2, hc3, hc4, hc5]; done)) (by first | rfl | (simp [orR, hc1, Int32.not_lt.mp hc1, hc2, Int32.not_le.mpr hc2, hc3, hc4, hc5]; done) | (simp_all [orR, hc1, Int32.not_lt.mp hc1, hc2, Int32.not_le.mpr hc2, hc3, hc4, hc5]; done)) dX5_tell_62
    · refine k_iconst (n := 13) (v := -1) F dX5_tell_12 rfl rfl ?_
      exact k_iret F (by first | rfl | (simp [orR, hc1, Int32.not_lt.mp hc1, hc2, Int32.not_lt.mp hc2]; done) | (simp_all [orR, hc1, Int32.not_lt.mp hc1, hc2, Int32.not_lt.mp hc2]; done)) (by first | rfl | (simp [orR, hc1, Int32.not_lt.mp hc1, hc2, Int32.not_lt.mp hc2]; done) | (simp_all [orR, hc1, Int32.not_lt.mp hc1, hc2, Int32.not_lt.mp hc2]; done)) dX5_tell_13
