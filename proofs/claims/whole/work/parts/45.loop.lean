theorem law_lt {L j : Nat} (hL : L ≤ 4096) (hj : 8 * j ≤ L) (hc : ¬ nI L - 8 < nI (8 * j)) : 8 * j + 8 ≤ L := by
  have e8 : (8 : Int32).toInt = 8 := by decide
  have eL : (nI L).toInt = (L : Int) := nI_toInt (by omega)
  have e1 : (nI L - 8).toInt = (L : Int) - 8 := by
    rw [t_sub (by rw [eL, e8]; omega) (by rw [eL, e8]; omega), eL, e8]
  rw [t_lt, e1, nI_toInt (by omega)] at hc
  omega
theorem law_ix {L j k : Nat} (hL : L ≤ 4096) (hlt : 8 * j + 8 ≤ L) (hk : k < 8) : vp_in (nI (8 * j) + nI k) L := by
  rw [nI_add]
  exact vp_in_nI (by omega) (by omega)
theorem law_R {j : Nat} (h : j ≤ 512) : 30 + 2 * j + 2 ≤ room_1.cells ∧ 235 + 7 * j + 7 ≤ room_1.slots := by
  constructor
  · show 30 + 2 * j + 2 ≤ 1187631
    omega
  · show 235 + 7 * j + 7 ≤ 5539356
    omega
set_option maxRecDepth 100000 in
set_option maxHeartbeats 4000000 in
/-- THE LOOP: at its head, with j calls behind it, both systems tell the same state -/
theorem law_loop {p : Program} (l : Launch) {e : Env} {s : State} {m : MethodId} {args : Array Value} {below : List Frame} {meth : Method} {c : Code} {Q : State → Prop} {g : kG} {A : Nat → Prop} {ret0 : Option FieldType} {nm : String} {b L : Nat} {xs : Nat → Int32} (hL : L ≤ 4096) (F : kF p s m args meth c g A 4 cL_law "ColdWorksLaw" ret0 nm) (hX : va_X b L xs s s.heap) (hbl : b < s.heap.size) (hbA : ¬ A b) {h0 : Nat} {adC adR : Nat → Nat} (hE : ∀ (ws : va_W) (cells slots : Nat) (lv : List (Nat × Value)), cells ≤ room_1.cells → slots ≤ room_1.slots → KW p l e room_1 s m args below meth c Q g A 4 ws cells slots 826 lv []) : ∀ (n j : Nat) (ca cb : Nat → Nat) (u : kS), 8 * j ≤ L → L + 8 ≤ 8 * (j + n) → Inv (60 * j) u → KW p l e room_1 s m args below meth c Q g A 4 (wK g adC ca cb u ++ wR g h0 adR u) (30 + 2 * j) (235 + 7 * j) 18 [(3, .int (nI (8 * j))), (2, .ref h0), (1, .ref (adC 0)), (0, .ref b)] [] := by
  intro n
  induction n with
  | zero =>
    intro j ca cb u h1 h2
    exact absurd h2 (by omega)
  | succ n ih =>
    intro j ca cb u hj hn hI
    obtain ⟨i, l_, a, h⟩ := u
    have hj5 : j ≤ 512 := by omega
    have hcs := law_R hj5
    refine k_iload_n (n := 19) F dL_law_18 rfl 0 rfl rfl ?_
    refine k_aload_n (n := 20) F dL_law_19 rfl 3 rfl rfl ?_
    refine k_slen (n := 21) F hX hbl hbA dL_law_20 rfl ?_
    refine k_bipush (n := 23) (v := 8) F dL_law_21 rfl rfl ?_
    refine k_isub (n := 24) F dL_law_23 rfl ?_
    refine k_icmp_gt (n := 27) (tgt := 826) F dL_law_24 (by decide) rfl (fun _ => hE _ _ _ _ (Nat.le_trans (Nat.le_add_right _ _) hcs.1) (Nat.le_trans (Nat.le_add_right _ _) hcs.2)) (fun hc => ?_)
    have hlt := law_lt hL hj hc
    have hB : 60 * j + 60 < 1000000 := by omega
    have nx : ∀ (ca cb : Nat → Nat) (u : kS), Inv (60 * j + 60) u → KW p l e room_1 s m args below meth c Q g A 4 (wK g adC ca cb u ++ wR g h0 adR u) (30 + 2 * j + 2) (235 + 7 * j + 7) 820 [(3, .int (nI (8 * j))), (2, .ref h0), (1, .ref (adC 0)), (0, .ref b)] [] := by
      intro ca cb u hI
      refine k_iinc (n := 823) (j := 0) (v := nI (8 * (j + 1))) (lv' := [(3, .int (nI (8 * (j + 1)))), (2, .ref h0), (1, .ref (adC 0)), (0, .ref b)]) F dL_law_820 rfl (nI_add (8 * j) 8) (by decide) rfl rfl ?_
      refine k_goto (tgt := 18) F dL_law_823 (by decide) ?_
      refine k_widen (a := 30 + 2 * (j + 1)) (b := 235 + 7 * (j + 1)) (by omega) (by omega) ?_
      exact ih (j + 1) ca cb u (by omega) (by omega) (by rw [Nat.mul_succ]; exact hI)
    refine k_aload_n (n := 28) F dL_law_27 rfl 3 rfl rfl ?_
    refine k_iload_n (n := 29) F dL_law_28 rfl 0 rfl rfl ?_
    refine k_sld (n := 30) F hX hbl hbA ⟨vp_in_nI (by omega) (by omega), rfl⟩ dL_law_29 rfl ?_
    refine k_bipush (n := 32) (v := 31) F dL_law_30 rfl rfl ?_
    refine k_iand (n := 33) F dL_law_32 rfl ?_
    generalize xs (nI (8 * j)).toNatClampNeg &&& 31 = y
    by_cases e0 : y = 0
    · refine k_tableIn (off := 111) (tgt := 144) F dL_law_33 (by rw [e0]; decide) (by rw [e0]; decide) (by rw [e0]; rfl) (by decide) ?_
      exact lc_cooler l F hX hbl hbA ⟨law_ix (k := 1) hL hlt (by decide), rfl⟩ ⟨law_ix (k := 2) hL hlt (by decide), rfl⟩ ⟨law_ix (k := 3) hL hlt (by decide), rfl⟩ ⟨law_ix (k := 4) hL hlt (by decide), rfl⟩ ⟨law_ix (k := 5) hL hlt (by decide), rfl⟩ ⟨law_ix (k := 6) hL hlt (by decide), rfl⟩ ⟨law_ix (k := 7) hL hlt (by decide), rfl⟩ hI hB hcs nx
    by_cases e1 : y = 1
    · refine k_tableIn (off := 198) (tgt := 231) F dL_law_33 (by rw [e1]; decide) (by rw [e1]; decide) (by rw [e1]; rfl) (by decide) ?_
      exact lc_cold l F hX hbl hbA ⟨law_ix (k := 1) hL hlt (by decide), rfl⟩ ⟨law_ix (k := 2) hL hlt (by decide), rfl⟩ hI hB hcs nx
    by_cases e2 : y = 2
    · refine k_tableIn (off := 231) (tgt := 264) F dL_law_33 (by rw [e2]; decide) (by rw [e2]; decide) (by rw [e2]; rfl) (by decide) ?_
      exact lc_cells l F hX hbl hbA ⟨law_ix (k := 1) hL hlt (by decide), rfl⟩ ⟨law_ix (k := 2) hL hlt (by decide), rfl⟩ hI hB hcs nx
    by_cases e3 : y = 3
    · refine k_tableIn (off := 264) (tgt := 297) F dL_law_33 (by rw [e3]; decide) (by rw [e3]; decide) (by rw [e3]; rfl) (by decide) ?_
      exact lc_set l F hX hbl hbA ⟨law_ix (k := 1) hL hlt (by decide), rfl⟩ ⟨law_ix (k := 2) hL hlt (by decide), rfl⟩ hI hB hcs nx
    by_cases e4 : y = 4
    · refine k_tableIn (off := 297) (tgt := 330) F dL_law_33 (by rw [e4]; decide) (by rw [e4]; decide) (by rw [e4]; rfl) (by decide) ?_
      exact lc_side l F hX hbl hbA ⟨law_ix (k := 1) hL hlt (by decide), rfl⟩ ⟨law_ix (k := 2) hL hlt (by decide), rfl⟩ hI hB hcs nx
    by_cases e5 : y = 5
    · refine k_tableIn (off := 330) (tgt := 363) F dL_law_33 (by rw [e5]; decide) (by rw [e5]; decide) (by rw [e5]; rfl) (by decide) ?_
      exact lc_heat l F hX hbl hbA ⟨law_ix (k := 1) hL hlt (by decide), rfl⟩ hI hB hcs nx
    by_cases e6 : y = 6
    · refine k_tableIn (off := 354) (tgt := 387) F dL_law_33 (by rw [e6]; decide) (by rw [e6]; decide) (by rw [e6]; rfl) (by decide) ?_
      exact lc_start l F  hI hB hcs nx
    by_cases e7 : y = 7
    · refine k_tableIn (off := 367) (tgt := 400) F dL_law_33 (by rw [e7]; decide) (by rw [e7]; decide) (by rw [e7]; rfl) (by decide) ?_
      exact lc_low l F  hI hB hcs nx
    by_cases e8 : y = 8
    · refine k_tableIn (off := 380) (tgt := 413) F dL_law_33 (by rw [e8]; decide) (by rw [e8]; decide) (by rw [e8]; rfl) (by decide) ?_
      exact lc_high l F  hI hB hcs nx
    by_cases e9 : y = 9
    · refine k_tableIn (off := 393) (tgt := 426) F dL_law_33 (by rw [e9]; decide) (by rw [e9]; decide) (by rw [e9]; rfl) (by decide) ?_
      exact lc_trip l F  hI hB hcs nx
    by_cases e10 : y = 10
    · refine k_tableIn (off := 406) (tgt := 439) F dL_law_33 (by rw [e10]; decide) (by rw [e10]; decide) (by rw [e10]; rfl) (by decide) ?_
      exact lc_reset l F  hI hB hcs nx
    by_cases e11 : y = 11
    · refine k_tableIn (off := 419) (tgt := 452) F dL_law_33 (by rw [e11]; decide) (by rw [e11]; decide) (by rw [e11]; rfl) (by decide) ?_
      exact lc_tick l F hX hbl hbA ⟨law_ix (k := 1) hL hlt (by decide), rfl⟩ hI hB hcs nx
    by_cases e12 : y = 12
    · refine k_tableIn (off := 442) (tgt := 475) F dL_law_33 (by rw [e12]; decide) (by rw [e12]; decide) (by rw [e12]; rfl) (by decide) ?_
      exact lc_adsorber l F hX hbl hbA ⟨law_ix (k := 1) hL hlt (by decide), rfl⟩ ⟨law_ix (k := 2) hL hlt (by decide), rfl⟩ hI hB hcs nx
    by_cases e13 : y = 13
    · refine k_tableIn (off := 475) (tgt := 508) F dL_law_33 (by rw [e13]; decide) (by rw [e13]; decide) (by rw [e13]; rfl) (by decide) ?_
      exact lc_valve l F hX hbl hbA ⟨law_ix (k := 1) hL hlt (by decide), rfl⟩ hI hB hcs nx
    by_cases e14 : y = 14
    · refine k_tableIn (off := 498) (tgt := 531) F dL_law_33 (by rw [e14]; decide) (by rw [e14]; decide) (by rw [e14]; rfl) (by decide) ?_
      exact lc_order l F hX hbl hbA ⟨law_ix (k := 1) hL hlt (by decide), rfl⟩ ⟨law_ix (k := 2) hL hlt (by decide), rfl⟩ hI hB hcs nx
    by_cases e15 : y = 15
    · refine k_tableIn (off := 531) (tgt := 564) F dL_law_33 (by rw [e15]; decide) (by rw [e15]; decide) (by rw [e15]; rfl) (by decide) ?_
      exact lc_deliver l F  hI hB hcs nx
    by_cases e16 : y = 16
    · refine k_tableIn (off := 544) (tgt := 577) F dL_law_33 (by rw [e16]; decide) (by rw [e16]; decide) (by rw [e16]; rfl) (by decide) ?_
      exact lc_about l F hX hbl hbA ⟨law_ix (k := 1) hL hlt (by decide), rfl⟩ ⟨law_ix (k := 2) hL hlt (by decide), rfl⟩ hI hB hcs nx
    by_cases e17 : y = 17
    · refine k_tableIn (off := 577) (tgt := 610) F dL_law_33 (by rw [e17]; decide) (by rw [e17]; decide) (by rw [e17]; rfl) (by decide) ?_
      exact lc_back l F hX hbl hbA ⟨law_ix (k := 1) hL hlt (by decide), rfl⟩ hI hB hcs nx
    by_cases e18 : y = 18
    · refine k_tableIn (off := 600) (tgt := 633) F dL_law_33 (by rw [e18]; decide) (by rw [e18]; decide) (by rw [e18]; rfl) (by decide) ?_
      exact lc_lose l F hX hbl hbA ⟨law_ix (k := 1) hL hlt (by decide), rfl⟩ ⟨law_ix (k := 2) hL hlt (by decide), rfl⟩ hI hB hcs nx
    by_cases e19 : y = 19
    · refine k_tableIn (off := 649) (tgt := 682) F dL_law_33 (by rw [e19]; decide) (by rw [e19]; decide) (by rw [e19]; rfl) (by decide) ?_
      exact lc_meter l F hX hbl hbA ⟨law_ix (k := 1) hL hlt (by decide), rfl⟩ hI hB hcs nx
    by_cases e20 : y = 20
    · refine k_tableIn (off := 673) (tgt := 706) F dL_law_33 (by rw [e20]; decide) (by rw [e20]; decide) (by rw [e20]; rfl) (by decide) ?_
      exact lc_balance l F hX hbl hbA ⟨law_ix (k := 1) hL hlt (by decide), rfl⟩ hI hB hcs nx
    by_cases e21 : y = 21
    · refine k_tableIn (off := 697) (tgt := 730) F dL_law_33 (by rw [e21]; decide) (by rw [e21]; decide) (by rw [e21]; rfl) (by decide) ?_
      exact lc_split l F hX hbl hbA ⟨law_ix (k := 1) hL hlt (by decide), rfl⟩ ⟨law_ix (k := 2) hL hlt (by decide), rfl⟩ ⟨law_ix (k := 3) hL hlt (by decide), rfl⟩ ⟨law_ix (k := 4) hL hlt (by decide), rfl⟩ hI hB hcs nx
    by_cases e22 : y = 22
    · refine k_tableIn (off := 750) (tgt := 783) F dL_law_33 (by rw [e22]; decide) (by rw [e22]; decide) (by rw [e22]; rfl) (by decide) ?_
      exact lc_count l F hX hbl hbA ⟨law_ix (k := 1) hL hlt (by decide), rfl⟩ hI hB hcs nx
    by_cases e23 : y = 23
    · refine k_tableIn (off := 773) (tgt := 806) F dL_law_33 (by rw [e23]; decide) (by rw [e23]; decide) (by rw [e23]; rfl) (by decide) ?_
      exact lc_trace l F  hI hB hcs nx
    refine k_tableOut (tgt := 820) F dL_law_33 (by have z0 := lv_neT e0 (show (0 : Int32).toInt = 0 from rfl); have z1 := lv_neT e1 (show (1 : Int32).toInt = 1 from rfl); have z2 := lv_neT e2 (show (2 : Int32).toInt = 2 from rfl); have z3 := lv_neT e3 (show (3 : Int32).toInt = 3 from rfl); have z4 := lv_neT e4 (show (4 : Int32).toInt = 4 from rfl); have z5 := lv_neT e5 (show (5 : Int32).toInt = 5 from rfl); have z6 := lv_neT e6 (show (6 : Int32).toInt = 6 from rfl); have z7 := lv_neT e7 (show (7 : Int32).toInt = 7 from rfl); have z8 := lv_neT e8 (show (8 : Int32).toInt = 8 from rfl); have z9 := lv_neT e9 (show (9 : Int32).toInt = 9 from rfl); have z10 := lv_neT e10 (show (10 : Int32).toInt = 10 from rfl); have z11 := lv_neT e11 (show (11 : Int32).toInt = 11 from rfl); have z12 := lv_neT e12 (show (12 : Int32).toInt = 12 from rfl); have z13 := lv_neT e13 (show (13 : Int32).toInt = 13 from rfl); have z14 := lv_neT e14 (show (14 : Int32).toInt = 14 from rfl); have z15 := lv_neT e15 (show (15 : Int32).toInt = 15 from rfl); have z16 := lv_neT e16 (show (16 : Int32).toInt = 16 from rfl); have z17 := lv_neT e17 (show (17 : Int32).toInt = 17 from rfl); have z18 := lv_neT e18 (show (18 : Int32).toInt = 18 from rfl); have z19 := lv_neT e19 (show (19 : Int32).toInt = 19 from rfl); have z20 := lv_neT e20 (show (20 : Int32).toInt = 20 from rfl); have z21 := lv_neT e21 (show (21 : Int32).toInt = 21 from rfl); have z22 := lv_neT e22 (show (22 : Int32).toInt = 22 from rfl); have z23 := lv_neT e23 (show (23 : Int32).toInt = 23 from rfl); omega) (by decide) ?_
    refine k_widen (Nat.le_add_right _ 2) (Nat.le_add_right _ 7) ?_
    exact nx ca cb _ (Inv_mono hI (Nat.le_add_right _ 60) hB)
section
variable {p : Program} {l : Launch} {e : Env} {R : Room} {s : State} {m : MethodId} {args : Array Value} {below : List Frame} {meth : Method} {c : Code} {Q : State → Prop} {g : kG} {A : Nat → Prop} {nL : Nat} {cc : ByteArray} {own : String} {ret0 : Option FieldType} {nm : String} {X Y : va_W} {cells slots pc n : Nat} {lv : List (Nat × Value)} {rest st0 : List Value}
theorem kl_v {mc ms : Nat} {po : va_W → Prop} (F : kF p s m args meth c g A nL cc own ret0 nm) (hr : kR p l e R s m args below meth c g A nL (X ++ Y) X cells slots mc ms pc lv st0 rest (kEv g po)) (hn : pc + 3 = n) (kk : ∀ u : va_W, po u → KW p l e R s m args below meth c Q g A nL (Y ++ u) (cells + mc) (slots + ms) n lv rest) : KW p l e R s m args below meth c Q g A nL (X ++ Y) cells slots pc lv st0 :=
  k_ev F hr (List.range X.length) (List.range' X.length Y.length) (kl_map X Y) (kl_mapR X Y) (va_nd_of List.nodup_range') (kl_dis X Y) hn kk
end
theorem coolF_0 {ca : Nat → Nat} : coolF ca 0 = fun _ => none := by
  funext j
  exact if_neg (Nat.not_lt_zero j)
theorem wK_u0 {g : kG} {ad ca cb : Nat → Nat} : wC g ad u0 (fun _ => none) = wK g ad ca cb u0 := by
  have e : (u0.1 2).toNatClampNeg = 0 := rfl
  unfold wK
  rw [e, coolF_0]
  exact (List.append_nil _).symm
set_option maxRecDepth 100000 in
set_option maxHeartbeats 4000000 in
/-- THE LAW, from its first instruction -/
theorem law_start {p : Program} (l : Launch) {e : Env} {s : State} {m : MethodId} {args : Array Value} {below : List Frame} {meth : Method} {c : Code} {Q : State → Prop} {g : kG} {A : Nat → Prop} {ret0 : Option FieldType} {nm : String} {b L : Nat} {xs : Nat → Int32} (hL : L ≤ 4096) (F : kF p s m args meth c g A 4 cL_law "ColdWorksLaw" ret0 nm) (hX : va_X b L xs s s.heap) (hbl : b < s.heap.size) (hbA : ¬ A b) (hE : ∀ (ws : va_W) (cells slots : Nat) (lv : List (Nat × Value)), cells ≤ room_1.cells → slots ≤ room_1.slots → KW p l e room_1 s m args below meth c Q g A 4 ws cells slots 826 lv []) : KW p l e room_1 s m args below meth c Q g A 4 [] 0 0 0 [(0, .ref b)] [] := by
  refine k_new (n := 3) (ci := 9) (fs := [.null, .null, .null, .null, .null, .null, .null, .int 0, .int 0, .int 0, .int 0, .int 0, .long 0]) F uX9 tyX9_ok mw_15 mw_16 mw_1 rfl (fun j hj => by match j, hj with | 0, _ => rfl | 1, _ => rfl | 2, _ => rfl | 3, _ => rfl | 4, _ => rfl | 5, _ => rfl | 6, _ => rfl | 7, _ => rfl | 8, _ => rfl | 9, _ => rfl | 10, _ => rfl | 11, _ => rfl | 12, _ => rfl) (Nat.le_of_ble_eq_true rfl) (Nat.le_of_ble_eq_true rfl) dL_law_0 rfl (fun q1 => ?_)
  refine k_dup (n := 4) F dL_law_3 rfl rfl ?_
  refine k_world (ws' := [(q1, .inr (9, [.null, .null, .null, .null, .null, .null, .null, .int 0, .int 0, .int 0, .int 0, .int 0, .long 0]))] ++ []) rfl ?_
  refine kl_v (n := 7) F (k_rI (k := 0) (b := q1) (As := []) (rest := [.ref q1]) F (c_init l g q1) (List.range 1) (kl_map [_] []) rfl mw_19 mw_17 mw_18 mw_1 rfl (by decide) ⟨by decide, by decide⟩ rfl (Nat.le_of_ble_eq_true rfl) ⟨by decide, by decide⟩ dL_law_4) rfl (fun w hw => ?_)
  obtain ⟨adC, h9, rfl⟩ := hw
  subst h9
  refine k_world (ws' := wC g adC u0 (fun _ => none)) rfl ?_
  refine k_astore_n (n := 8) (lv' := [(1, .ref (adC 0)), (0, .ref b)]) F dL_law_7 rfl (by decide) rfl rfl ?_
  generalize hw : wC g adC u0 (fun _ => none) = wc
  refine k_new (n := 11) (ci := 10) (fs := [.int 0, .long 0, .int 0, .null, .null, .null, .int 0, .null, .null, .int 0, .null, .null, .int 0, .int 0, .int 0, .int 0, .int 0, .int 0, .int 0, .long 0, .long 0, .long 0, .null, .null, .null, .int 0, .null, .null, .null, .int 0, .int 0, .int 0, .int 0, .null]) F uX10 tyX10_ok mw_573 mw_574 mw_9 rfl (fun j hj => by match j, hj with | 0, _ => rfl | 1, _ => rfl | 2, _ => rfl | 3, _ => rfl | 4, _ => rfl | 5, _ => rfl | 6, _ => rfl | 7, _ => rfl | 8, _ => rfl | 9, _ => rfl | 10, _ => rfl | 11, _ => rfl | 12, _ => rfl | 13, _ => rfl | 14, _ => rfl | 15, _ => rfl | 16, _ => rfl | 17, _ => rfl | 18, _ => rfl | 19, _ => rfl | 20, _ => rfl | 21, _ => rfl | 22, _ => rfl | 23, _ => rfl | 24, _ => rfl | 25, _ => rfl | 26, _ => rfl | 27, _ => rfl | 28, _ => rfl | 29, _ => rfl | 30, _ => rfl | 31, _ => rfl | 32, _ => rfl | 33, _ => rfl | j + 34, hj => exact absurd hj (by omega)) (Nat.le_of_ble_eq_true rfl) (Nat.le_of_ble_eq_true rfl) dL_law_8 rfl (fun q2 => ?_)
  refine k_dup (n := 12) F dL_law_11 rfl rfl ?_
  refine k_swap ?_
  refine kl_v (n := 15) F (k_rI (k := 0) (b := q2) (As := []) (rest := [.ref q2]) F (r_init l g q2) (List.range 1) (kl_map [_] _) rfl mw_577 mw_575 mw_576 mw_9 rfl (by decide) ⟨by decide, by decide⟩ rfl (Nat.le_of_ble_eq_true rfl) ⟨by decide, by decide⟩ dL_law_12) rfl (fun w hw2 => ?_)
  obtain ⟨adR, rfl⟩ := hw2
  refine k_astore_n (n := 16) (lv' := [(2, .ref q2), (1, .ref (adC 0)), (0, .ref b)]) F dL_law_15 rfl (by decide) rfl rfl ?_
  refine k_iconst (n := 17) (v := nI (8 * 0)) F dL_law_16 rfl rfl ?_
  refine k_istore_n (n := 18) (lv' := [(3, .int (nI (8 * 0))), (2, .ref q2), (1, .ref (adC 0)), (0, .ref b)]) F dL_law_17 rfl (by decide) rfl rfl ?_
  subst hw
  refine k_world (ws' := wK g adC (fun _ => 0) (fun _ => 0) u0 ++ wR g q2 adR u0) (by rw [← wK_u0]) ?_
  refine k_widen (a := 30 + 2 * 0) (b := 235 + 7 * 0) (Nat.le_of_ble_eq_true rfl) (Nat.le_of_ble_eq_true rfl) ?_
  exact law_loop l hL F hX hbl hbA hE (L / 8 + 2) 0 _ _ u0 (Nat.zero_le _) (by omega) Inv_u0
