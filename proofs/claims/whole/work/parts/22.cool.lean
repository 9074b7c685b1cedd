def bsW (o1 o2 pr s : Int32) : Int32 := (10 - s) * o1 + s * o2 - s * pr
/-- the best share so far, and what it is worth -/
def bsL (o1 o2 pr : Int32) : Nat → Int32 × Int32
  | 0 => (0, 10 * o1)
  | j + 1 => if bsW o1 o2 pr (nI (j + 1)) ≤ (bsL o1 o2 pr j).2 then bsL o1 o2 pr j else (nI (j + 1), bsW o1 o2 pr (nI (j + 1)))
theorem kIx_c {x n : Int32} (h : ¬ kin x 0 (n - 1) = 0) (h0 : 0 ≤ n) (h6 : n ≤ 6) : kIx x x.toNatClampNeg 6 := by
  obtain ⟨a1, a2⟩ := kin_n.mp h
  obtain ⟨k, hk, rfl⟩ := nI_of (Int32.not_lt.mpr h0)
  have e2 : k ≤ 6 := (nI_leI hk (by decide)).mp (show nI k ≤ nI 6 from h6)
  rcases Nat.eq_zero_or_pos k with rfl | e1
  · exact absurd (show (0 : Int32) ≤ -1 from Int32.le_trans a1 a2) (by decide)
  · have e : nI k - 1 = nI (k - 1) := pk_sub (b := 1) e1
    rw [e] at a2
    exact kIx_le a1 (Int32.lt_of_le_of_lt a2 (nI_lt (by omega) (by omega))) (by decide)
theorem cool_lt {x n : Int32} (h : ¬ kin x 0 (n - 1) = 0) (h0 : 0 ≤ n) (h6 : n ≤ 6) : x.toNatClampNeg < n.toNatClampNeg := by
  obtain ⟨a1, a2⟩ := kin_n.mp h
  obtain ⟨k, hk, rfl⟩ := nI_of (Int32.not_lt.mpr h0)
  obtain ⟨j, hj, rfl⟩ := nI_of (Int32.not_lt.mpr a1)
  have e2 : k ≤ 6 := (nI_leI hk (by decide)).mp (show nI k ≤ nI 6 from h6)
  rcases Nat.eq_zero_or_pos k with rfl | e1
  · exact absurd (show (0 : Int32) ≤ -1 from Int32.le_trans a1 a2) (by decide)
  · have e : nI k - 1 = nI (k - 1) := pk_sub (b := 1) e1
    rw [e, nI_leI hj (by omega)] at a2
    rw [nI_clamp hk, nI_clamp hj]
    omega
/-- the cells of one cooler: its kind, its corners, its limit -/
def coolC (g : kG) (ca cb : Nat → Nat) (k3 k4 k5 : Nat → Int32) (c : Nat) : va_W := if k3 c = 0 then [(ca c, .inr (7, []))] else if k3 c = 1 then [(ca c, .inr (8, [.ref (cb c)])), (cb c, .inl (g.2 0, 5, .inl (fun k => k4 (5 * c + k))))] else [(ca c, .inr (2, [.ref (cb c), .int (k5 c)])), (cb c, .inl (g.2 0, 5, .inl (fun k => k4 (5 * c + k))))]
def coolW (g : kG) (ca cb : Nat → Nat) (k3 k4 k5 : Nat → Int32) : Nat → va_W
  | 0 => []
  | n + 1 => coolW g ca cb k3 k4 k5 n ++ coolC g ca cb k3 k4 k5 n
def coolF (ca : Nat → Nat) (n : Nat) : Nat → Option Nat := fun j => if j < n then some (ca j) else none
theorem coolF_at {ca : Nat → Nat} {n j : Nat} (h : j < n) : coolF ca n j = some (ca j) := by simp [coolF, h]
section
variable {g : kG} {ca cb : Nat → Nat} {k3 k4 k5 : Nat → Int32} {c : Nat}
theorem coolC_0 (h0 : k3 c = 0) : coolC g ca cb k3 k4 k5 c = [(ca c, .inr (7, []))] := by simp [coolC, h0]
theorem coolC_1 (h0 : ¬ k3 c = 0) (h1 : k3 c = 1) : coolC g ca cb k3 k4 k5 c = [(ca c, .inr (8, [.ref (cb c)])), (cb c, .inl (g.2 0, 5, .inl (fun k => k4 (5 * c + k))))] := by simp [coolC, h1]
theorem coolC_2 (h0 : ¬ k3 c = 0) (h1 : ¬ k3 c = 1) : coolC g ca cb k3 k4 k5 c = [(ca c, .inr (2, [.ref (cb c), .int (k5 c)])), (cb c, .inl (g.2 0, 5, .inl (fun k => k4 (5 * c + k))))] := by simp [coolC, h0, h1]
theorem seg_1 (X Z : va_W) (x : Nat × va_E) : [X.length].map (fun i => (X ++ [x] ++ Z)[i]?) = [x].map some := by simp
theorem seg_2 (X Z : va_W) (x y : Nat × va_E) : [X.length, X.length + 1].map (fun i => (X ++ [x, y] ++ Z)[i]?) = [x, y].map some := by simp
theorem cool_split : ∀ {n : Nat}, c < n → ∃ X Z : va_W, coolW g ca cb k3 k4 k5 n = X ++ coolC g ca cb k3 k4 k5 c ++ Z
  | 0, h => absurd h (Nat.not_lt_zero _)
  | n + 1, h => by
    rcases Nat.lt_or_ge c n with q | q
    · obtain ⟨X, Z, e⟩ := cool_split (n := n) q
      exact ⟨X, Z ++ coolC g ca cb k3 k4 k5 n, by simp only [coolW, e, List.append_assoc]⟩
    · have e : c = n := by omega
      subst e
      exact ⟨coolW g ca cb k3 k4 k5 c, [], by rw [coolW, List.append_nil]⟩
theorem cool_at (ws : va_W) {n : Nat} (h : c < n) : ∃ is : List Nat, is.map (fun i => (ws ++ coolW g ca cb k3 k4 k5 n)[i]?) = (coolC g ca cb k3 k4 k5 c).map some ∧ va_nd is = true := by
  obtain ⟨X, Z, e⟩ := cool_split (g := g) (ca := ca) (cb := cb) (k3 := k3) (k4 := k4) (k5 := k5) h
  have e2 : ws ++ coolW g ca cb k3 k4 k5 n = (ws ++ X) ++ coolC g ca cb k3 k4 k5 c ++ Z := by rw [e]; simp [List.append_assoc]
  rw [e2]
  by_cases h0 : k3 c = 0
  · rw [coolC_0 h0]
    exact ⟨[(ws ++ X).length], seg_1 _ _ _, rfl⟩
  · by_cases h1 : k3 c = 1
    · rw [coolC_1 h0 h1]
      exact ⟨[(ws ++ X).length, (ws ++ X).length + 1], seg_2 _ _ _ _, by simp [va_nd]⟩
    · rw [coolC_2 h0 h1]
      exact ⟨[(ws ++ X).length, (ws ++ X).length + 1], seg_2 _ _ _ _, by simp [va_nd]⟩
end
theorem all_is (ws : va_W) : (List.range ws.length).map (fun i => ws[i]?) = ws.map some := by
  apply List.ext_getElem?
  intro k
  rw [List.getElem?_map, List.getElem?_map]
  by_cases h : k < ws.length
  · rw [List.getElem?_range h]
    simp [List.getElem?_eq_getElem h]
  · rw [List.getElem?_eq_none (by simp; omega), List.getElem?_eq_none (by omega)]
    rfl
theorem nd_of : ∀ (l : List Nat), l.Nodup → va_nd l = true
  | [], _ => rfl
  | a :: l, h => by
    rw [List.nodup_cons] at h
    simp only [va_nd, Bool.and_eq_true, decide_eq_true_eq]
    exact ⟨h.1, nd_of l h.2⟩
theorem all_nd (n : Nat) : va_nd (List.range n) = true := nd_of _ List.nodup_range
section
variable {p : Program} {l : Launch} {e : Env} {R : Room} {s : State} {m : MethodId} {args : Array Value} {below : List Frame} {meth : Method} {c : Code} {Q : State → Prop} {g : kG} {A : Nat → Prop} {nL : Nat} {cc : ByteArray} {own : String} {ret0 : Option FieldType} {nm : String} {ws : va_W} {cells slots pc n : Nat} {lv : List (Nat × Value)} {rest st0 : List Value}
/-- a call over the whole world -/
theorem k_ciA {mc ms : Nat} {r0 : Int32} {w0 : va_W} {is : List Nat} (F : kF p s m args meth c g A nL cc own ret0 nm) (hr : kR p l e R s m args below meth c g A nL ws ws cells slots mc ms pc lv st0 rest (kDi g r0 w0)) (hC : is.map (fun i => ws[i]?) = ws.map some) (hn : pc + 3 = n) (kk : KW p l e R s m args below meth c Q g A nL w0 (cells + mc) (slots + ms) n lv (.int r0 :: rest)) : KW p l e R s m args below meth c Q g A nL ws cells slots pc lv st0 := by
  subst hn
  obtain ⟨a, hr⟩ := hr
  intro H locs ls hP hD hS hl
  have hFc := va_free (wc := ws) hD hS F.2.2.2.2.2.2.1 is hC
  refine va_calli (hr H locs ls hP hD hS hl) hS (fun q _ h => hFc q h) hFc (fun r u t H1 locs1 ht hvm hw hB hz hk hS1 => ?_)
  obtain ⟨rfl, rfl⟩ := hw
  obtain ⟨hP1, hD1⟩ := hB
  rw [ht] at hP1
  exact kk H1 locs1 ls hP1 (hD1.weaken (fun _ q _ h => hFc q.1 h)) hS1 hl
end
def wK (g : kG) (ad ca cb : Nat → Nat) (u : kS) : va_W := wC g ad u (coolF ca (u.1 2).toNatClampNeg) ++ coolW g ca cb (u.2.2.1 3) (u.2.2.1 4) (u.2.2.1 5) (u.1 2).toNatClampNeg
/-- the cold of a cooler -/
def cdC (a : Nat → Nat → Int32) (c : Nat) (d : Int32) : Int32 := if a 3 c = 0 then d / 4 else if a 3 c = 1 then kwc (fun k => a 4 (5 * c + k)) d else (if a 5 c < kwc (fun k => a 4 (5 * c + k)) d then a 5 c else kwc (fun k => a 4 (5 * c + k)) d)
def kcold (u : kS) (x d : Int32) : Int32 := if kin x 0 (u.1 2 - 1) = 0 then 0 else cdC u.2.2.1 x.toNatClampNeg d
def wtC (a : Nat → Nat → Int32) (c : Nat) : Int32 := if a 3 c = 0 then 1 else if a 3 c = 1 then 11 else 111
def kwt (u : kS) (x : Int32) : Int32 := if kin x 0 (u.1 2 - 1) = 0 then 0 else wtC u.2.2.1 x.toNatClampNeg
def f_cold (u : kS) (x d : Int32) : Int32 × kS := if kin x 0 (u.1 2 - 1) = 0 then (-1, u) else if kin d 0 40 = 0 then (-1, u) else (cdC u.2.2.1 x.toNatClampNeg d, (u.1, vp_updL u.2.1 1 (u.2.1 1 + (wtC u.2.2.1 x.toNatClampNeg).toInt64), u.2.2))
def f_split (u : kS) (x y d pr : Int32) : Int32 := if kin x 0 (u.1 2 - 1) = 0 then -1 else if kin y 0 (u.1 2 - 1) = 0 then -1 else if kin d 0 40 = 0 then -1 else if kin pr 0 20 = 0 then -1 else (bsL (cdC u.2.2.1 x.toNatClampNeg d) (cdC u.2.2.1 y.toNatClampNeg d) pr 10).1
/-! a flow, step by step -/
def fl_co (u : kS) : Int32 := kcold u (u.2.2.1 10 0) (u.2.2.1 10 1)
def fl_R (u : kS) : Int32 := psR (u.2.2.1 7) (u.2.2.1 8) (u.1 9) (u.1 6).toNatClampNeg (fl_co u)
def fl_S (u : kS) : kS := (u.1, u.2.1, va_up (va_up u.2.2.1 7 (mvW (exW (u.2.2.1 7) (u.2.2.1 8) (u.1 9) (u.1 6).toNatClampNeg) (u.1 6).toNatClampNeg (u.2.2.1 10 2))) 8 (mvC (exC (u.2.2.1 7) (u.2.2.1 8) (u.1 9) (u.1 6).toNatClampNeg) (u.1 6).toNatClampNeg (psG (u.2.2.1 7) (u.2.2.1 8) (u.1 9) (u.1 6).toNatClampNeg (fl_co u))), vp_updL (vp_updL (vp_updL (vp_updL u.2.2.2 0 (u.2.2.2 0 + (u.2.2.1 10 2).toInt64)) 1 (u.2.2.2 1 + (exC (u.2.2.1 7) (u.2.2.1 8) (u.1 9) (u.1 6).toNatClampNeg 0).toInt64)) 2 (u.2.2.2 2 + (psL (u.2.2.1 7) (u.2.2.1 8) (u.1 9) (u.1 6).toNatClampNeg - psG (u.2.2.1 7) (u.2.2.1 8) (u.1 9) (u.1 6).toNatClampNeg (fl_co u)).toInt64)) 3 (u.2.2.2 3 + 1))
def tk_S (u : kS) (q : Int32) : kS := (upd (upd u.1 17 (u.1 17 + tkT (u.2.2.1 10 3) (u.1 17) q)) 18 (u.1 18 + tkB (u.2.2.1 10 3) (u.1 17) (u.1 18) q), vp_updL (vp_updL u.2.1 19 (u.2.1 19 + q.toInt64)) 21 (u.2.1 21 + (q - tkT (u.2.2.1 10 3) (u.1 17) q - tkB (u.2.2.1 10 3) (u.1 17) (u.1 18) q).toInt64), u.2.2)
def rn_S (u : kS) (q : Int32) : kS := if q ≤ 0 then u else if u.1 12 = 1 then (upd (upd u.1 12 2) 34 0, u.2) else u
def ld_R (u : kS) : Int32 := ldR (u.2.2.1 22 0) (u.2.2.1 23 0) (u.2.2.1 22 1) (u.2.2.1 23 1) (u.2.2.1 10 4)
def ld_S (u : kS) : kS := (u.1, u.2.1, va_up (va_up (va_up u.2.2.1 22 (upd (upd (u.2.2.1 22) 0 (ldH0 (u.2.2.1 22 0) (u.2.2.1 23 0) (u.2.2.1 22 1) (u.2.2.1 23 1) (u.2.2.1 10 4))) 1 (ldH1 (u.2.2.1 22 0) (u.2.2.1 23 0) (u.2.2.1 22 1) (u.2.2.1 23 1) (u.2.2.1 10 4)))) 23 (upd (upd (u.2.2.1 23) 0 (ldL0 (u.2.2.1 22 0) (u.2.2.1 23 0))) 1 (ldL1 (u.2.2.1 22 0) (u.2.2.1 22 1) (u.2.2.1 23 1)))) 24 (upd (upd (u.2.2.1 24) 0 (ldT0 (u.2.2.1 22 0) (u.2.2.1 23 0) (u.2.2.1 24 0) (u.2.2.1 22 1) (u.2.2.1 23 1) (u.2.2.1 10 4))) 1 (ldT1 (u.2.2.1 22 0) (u.2.2.1 23 0) (u.2.2.1 22 1) (u.2.2.1 23 1) (u.2.2.1 24 1) (u.2.2.1 10 4))), u.2.2.2)
def fw_1 (u : kS) (q : Int32) : kS := rn_S (tk_S u q) q
/-- behind the exchanger, with q made -/
def fwC (u : kS) : kS := if ld_R u = 0 then s_trip (ld_S u) else if u.2.2.1 10 3 ≤ u.1 17 then s_trip (ld_S u) else ld_S u
def fwB (u : kS) (q : Int32) : kS := fwC (fw_1 u q)
def fw_S (u : kS) : kS := fwB (fl_S u) (fl_R u)
def rg_S (u : kS) : kS := (u.1, u.2.1, va_up (va_up (va_up u.2.2.1 22 (upd (upd (u.2.2.1 22) 0 (stH (u.2.2.1 22 0) (u.2.2.1 24 0) (u.2.2.1 10 5) (u.2.2.1 22 1))) 1 (stH (u.2.2.1 22 1) (u.2.2.1 24 1) (u.2.2.1 10 5) (stH (u.2.2.1 22 0) (u.2.2.1 24 0) (u.2.2.1 10 5) (u.2.2.1 22 1))))) 23 (upd (upd (u.2.2.1 23) 0 (goL (u.2.2.1 22 0) (u.2.2.1 23 0) (u.2.2.1 24 0) (u.2.2.1 10 5))) 1 (goL (u.2.2.1 22 1) (u.2.2.1 23 1) (u.2.2.1 24 1) (u.2.2.1 10 5)))) 24 (upd (upd (u.2.2.1 24) 0 (stT (u.2.2.1 22 0) (u.2.2.1 24 0) (u.2.2.1 10 5) (u.2.2.1 22 1))) 1 (stT (u.2.2.1 22 1) (u.2.2.1 24 1) (u.2.2.1 10 5) (stH (u.2.2.1 22 0) (u.2.2.1 24 0) (u.2.2.1 10 5) (u.2.2.1 22 1)))), u.2.2.2)
def pt_S (u : kS) : kS := (upd (upd (upd (upd (upd u.1 34 (u.1 34 + 1)) 14 (ptF (u.1 12) (u.1 34) (u.1 14))) 15 (ptP (u.1 12) (u.1 34) (u.1 15))) 16 (ptV (u.1 12) (u.1 34) (u.1 16))) 13 (if u.1 12 = 3 then u.1 13 + 1 else if u.1 12 = 4 then u.1 13 + 1 else u.1 13), u.2)
def ot_1 (u : kS) : kS := rg_S (upd u.1 31 (u.1 31 + 1), u.2)
def ot_S (u : kS) : Int32 × kS := if ptR ((ot_1 u).1 12) ((ot_1 u).1 34) = 0 then (0, pt_S (ot_1 u)) else (fl_R (pt_S (ot_1 u)), fw_S (pt_S (ot_1 u)))
def tkL (u : kS) : Nat → Int32 × kS
  | 0 => (0, u)
  | k + 1 => ((tkL u k).1 + (ot_S (tkL u k).2).1, (ot_S (tkL u k).2).2)
def f_tick (u : kS) (n : Int32) : Int32 × kS := if kin n 1 60 = 0 then (-1, u) else tkL u n.toNatClampNeg
theorem k1le {x : Int32} (h : 1 ≤ x) : 0 ≤ x := Int32.le_trans (by decide) h
theorem kcl1 {x : Int32} (h : 1 ≤ x) : 1 ≤ x.toNatClampNeg := by
  obtain ⟨k, hk, rfl⟩ := nI_of (Int32.not_lt.mpr (k1le h))
  rw [nI_clamp hk]
  exact (nI_leI (by decide) hk).mp (show nI 1 ≤ nI k from h)
set_option maxRecDepth 100000 in
set_option maxHeartbeats 4000000 in
theorem c_lostMeters (l : Launch) (g : kG) (ad : Nat → Nat) (cf : Nat → Option Nat) (i : Nat → Int32) (l_ : Nat → Int64) (a : Nat → Nat → Int32) (h : Nat → Int64) : kM l yX9_lostMeters cX9_lostMeters 3 (some .int) (rmK 1 0 0 20) g [.ref ((ad 0))] (wC g ad (i, l_, a, h) cf) (kDi g (lostN (a 33)) (wC g ad (i, l_, a, h) cf)) := by
  refine k_enter (by decide) (Nat.le_of_ble_eq_true rfl) ?_
  intro p e s m args below meth c A F
  refine k_iconst (n := 1) (v := 0) F dX9_lostMeters_0 rfl rfl ?_
  refine k_istore_n (n := 2) (lv' := [(1, .int 0), (0, .ref ((ad 0)))]) F dX9_lostMeters_1 rfl (by decide) rfl rfl ?_
  refine k_iconst (n := 3) (v := 0) F dX9_lostMeters_2 rfl rfl ?_
  refine k_istore_n (n := 4) (lv' := [(2, .int 0), (1, .int 0), (0, .ref ((ad 0)))]) F dX9_lostMeters_3 rfl (by decide) rfl rfl ?_
  refine k_iload_n (n := 5) F dX9_lostMeters_4 rfl 0 rfl rfl ?_
  refine k_iconst (n := 6) (v := 4) F dX9_lostMeters_5 rfl rfl ?_
  refine k_icmp_ge (n := 9) (tgt := 27) F dX9_lostMeters_6 (by decide) rfl (fun h9 => absurd h9 (by decide)) (fun _ => ?_)
  refine k_iload_n (n := 10) F dX9_lostMeters_9 rfl 1 rfl rfl ?_
  refine k_aload_n (n := 11) F dX9_lostMeters_10 rfl 2 rfl rfl ?_
  refine k_get (n := 14) (v := .ref ((ad 14))) F uX9 0 6 rfl rfl (by decide) mw_202 rfl dX9_lostMeters_11 rfl ?_
  refine k_iload_n (n := 15) F dX9_lostMeters_14 rfl 0 rfl rfl ?_
  refine k_zald (n := 16) (N := 0) F 14 rfl (kIx_nI (j := 0) (by decide) (by decide)) dX9_lostMeters_15 rfl ?_
  refine k_ciR (n := 19) F (k_rS (k := 1) (As := [.int ((a 33) 0)]) (rest := [.int 0]) F (c_asNumber l g ((a 33) 0)) [] rfl rfl mw_493 mw_491 mw_492 mw_1 (by decide) ⟨by decide, by decide⟩ rfl (Nat.le_of_ble_eq_true rfl) ⟨by decide, by decide⟩ dX9_lostMeters_16) [] rfl rfl ?_
  refine k_iadd (n := 20) F dX9_lostMeters_19 rfl ?_
  refine k_istore_n (n := 21) (lv' := [(1, .int (0 + (if ((a 33) 0) = 0 then 0 else 1))), (2, .int 0), (0, .ref ((ad 0)))]) F dX9_lostMeters_20 rfl (by decide) rfl rfl ?_
  refine k_iinc (n := 24) (j := 1) (v := 1) (lv' := [(2, .int 1), (1, .int (0 + (if ((a 33) 0) = 0 then 0 else 1))), (0, .ref ((ad 0)))]) F dX9_lostMeters_21 rfl rfl (by decide) rfl rfl ?_
  refine k_goto (tgt := 4) F dX9_lostMeters_24 (by decide) ?_
  refine k_iload_n (n := 5) F dX9_lostMeters_4 rfl 0 rfl rfl ?_
  refine k_iconst (n := 6) (v := 4) F dX9_lostMeters_5 rfl rfl ?_
  refine k_icmp_ge (n := 9) (tgt := 27) F dX9_lostMeters_6 (by decide) rfl (fun h9 => absurd h9 (by decide)) (fun _ => ?_)
  refine k_iload_n (n := 10) F dX9_lostMeters_9 rfl 1 rfl rfl ?_
  refine k_aload_n (n := 11) F dX9_lostMeters_10 rfl 2 rfl rfl ?_
  refine k_get (n := 14) (v := .ref ((ad 14))) F uX9 0 6 rfl rfl (by decide) mw_202 rfl dX9_lostMeters_11 rfl ?_
  refine k_iload_n (n := 15) F dX9_lostMeters_14 rfl 0 rfl rfl ?_
  refine k_zald (n := 16) (N := 1) F 14 rfl (kIx_nI (j := 1) (by decide) (by decide)) dX9_lostMeters_15 rfl ?_
  refine k_ciR (n := 19) F (k_rS (k := 1) (As := [.int ((a 33) 1)]) (rest := [.int (0 + (if ((a 33) 0) = 0 then 0 else 1))]) F (c_asNumber l g ((a 33) 1)) [] rfl rfl mw_493 mw_491 mw_492 mw_1 (by decide) ⟨by decide, by decide⟩ rfl (Nat.le_of_ble_eq_true rfl) ⟨by decide, by decide⟩ dX9_lostMeters_16) [] rfl rfl ?_
  refine k_iadd (n := 20) F dX9_lostMeters_19 rfl ?_
  refine k_istore_n (n := 21) (lv' := [(1, .int ((0 + (if ((a 33) 0) = 0 then 0 else 1)) + (if ((a 33) 1) = 0 then 0 else 1))), (2, .int 1), (0, .ref ((ad 0)))]) F dX9_lostMeters_20 rfl (by decide) rfl rfl ?_
  refine k_iinc (n := 24) (j := 1) (v := 2) (lv' := [(2, .int 2), (1, .int ((0 + (if ((a 33) 0) = 0 then 0 else 1)) + (if ((a 33) 1) = 0 then 0 else 1))), (0, .ref ((ad 0)))]) F dX9_lostMeters_21 rfl rfl (by decide) rfl rfl ?_
  refine k_goto (tgt := 4) F dX9_lostMeters_24 (by decide) ?_
  refine k_iload_n (n := 5) F dX9_lostMeters_4 rfl 0 rfl rfl ?_
  refine k_iconst (n := 6) (v := 4) F dX9_lostMeters_5 rfl rfl ?_
  refine k_icmp_ge (n := 9) (tgt := 27) F dX9_lostMeters_6 (by decide) rfl (fun h9 => absurd h9 (by decide)) (fun _ => ?_)
  refine k_iload_n (n := 10) F dX9_lostMeters_9 rfl 1 rfl rfl ?_
  refine k_aload_n (n := 11) F dX9_lostMeters_10 rfl 2 rfl rfl ?_
  refine k_get (n := 14) (v := .ref ((ad 14))) F uX9 0 6 rfl rfl (by decide) mw_202 rfl dX9_lostMeters_11 rfl ?_
  refine k_iload_n (n := 15) F dX9_lostMeters_14 rfl 0 rfl rfl ?_
  refine k_zald (n := 16) (N := 2) F 14 rfl (kIx_nI (j := 2) (by decide) (by decide)) dX9_lostMeters_15 rfl ?_
  refine k_ciR (n := 19) F (k_rS (k := 1) (As := [.int ((a 33) 2)]) (rest := [.int ((0 + (if ((a 33) 0) = 0 then 0 else 1)) + (if ((a 33) 1) = 0 then 0 else 1))]) F (c_asNumber l g ((a 33) 2)) [] rfl rfl mw_493 mw_491 mw_492 mw_1 (by decide) ⟨by decide, by decide⟩ rfl (Nat.le_of_ble_eq_true rfl) ⟨by decide, by decide⟩ dX9_lostMeters_16) [] rfl rfl ?_
  refine k_iadd (n := 20) F dX9_lostMeters_19 rfl ?_
  refine k_istore_n (n := 21) (lv' := [(1, .int (((0 + (if ((a 33) 0) = 0 then 0 else 1)) + (if ((a 33) 1) = 0 then 0 else 1)) + (if ((a 33) 2) = 0 then 0 else 1))), (2, .int 2), (0, .ref ((ad 0)))]) F dX9_lostMeters_20 rfl (by decide) rfl rfl ?_
  refine k_iinc (n := 24) (j := 1) (v := 3) (lv' := [(2, .int 3), (1, .int (((0 + (if ((a 33) 0) = 0 then 0 else 1)) + (if ((a 33) 1) = 0 then 0 else 1)) + (if ((a 33) 2) = 0 then 0 else 1))), (0, .ref ((ad 0)))]) F dX9_lostMeters_21 rfl rfl (by decide) rfl rfl ?_
  refine k_goto (tgt := 4) F dX9_lostMeters_24 (by decide) ?_
  refine k_iload_n (n := 5) F dX9_lostMeters_4 rfl 0 rfl rfl ?_
  refine k_iconst (n := 6) (v := 4) F dX9_lostMeters_5 rfl rfl ?_
  refine k_icmp_ge (n := 9) (tgt := 27) F dX9_lostMeters_6 (by decide) rfl (fun h9 => absurd h9 (by decide)) (fun _ => ?_)
  refine k_iload_n (n := 10) F dX9_lostMeters_9 rfl 1 rfl rfl ?_
  refine k_aload_n (n := 11) F dX9_lostMeters_10 rfl 2 rfl rfl ?_
  refine k_get (n := 14) (v := .ref ((ad 14))) F uX9 0 6 rfl rfl (by decide) mw_202 rfl dX9_lostMeters_11 rfl ?_
  refine k_iload_n (n := 15) F dX9_lostMeters_14 rfl 0 rfl rfl ?_
  refine k_zald (n := 16) (N := 3) F 14 rfl (kIx_nI (j := 3) (by decide) (by decide)) dX9_lostMeters_15 rfl ?_
  refine k_ciR (n := 19) F (k_rS (k := 1) (As := [.int ((a 33) 3)]) (rest := [.int (((0 + (if ((a 33) 0) = 0 then 0 else 1)) + (if ((a 33) 1) = 0 then 0 else 1)) + (if ((a 33) 2) = 0 then 0 else 1))]) F (c_asNumber l g ((a 33) 3)) [] rfl rfl mw_493 mw_491 mw_492 mw_1 (by decide) ⟨by decide, by decide⟩ rfl (Nat.le_of_ble_eq_true rfl) ⟨by decide, by decide⟩ dX9_lostMeters_16) [] rfl rfl ?_
  refine k_iadd (n := 20) F dX9_lostMeters_19 rfl ?_
  refine k_istore_n (n := 21) (lv' := [(1, .int ((((0 + (if ((a 33) 0) = 0 then 0 else 1)) + (if ((a 33) 1) = 0 then 0 else 1)) + (if ((a 33) 2) = 0 then 0 else 1)) + (if ((a 33) 3) = 0 then 0 else 1))), (2, .int 3), (0, .ref ((ad 0)))]) F dX9_lostMeters_20 rfl (by decide) rfl rfl ?_
  refine k_iinc (n := 24) (j := 1) (v := 4) (lv' := [(2, .int 4), (1, .int ((((0 + (if ((a 33) 0) = 0 then 0 else 1)) + (if ((a 33) 1) = 0 then 0 else 1)) + (if ((a 33) 2) = 0 then 0 else 1)) + (if ((a 33) 3) = 0 then 0 else 1))), (0, .ref ((ad 0)))]) F dX9_lostMeters_21 rfl rfl (by decide) rfl rfl ?_
  refine k_goto (tgt := 4) F dX9_lostMeters_24 (by decide) ?_
  refine k_iload_n (n := 5) F dX9_lostMeters_4 rfl 0 rfl rfl ?_
  refine k_iconst (n := 6) (v := 4) F dX9_lostMeters_5 rfl rfl ?_
  refine k_icmp_ge (n := 9) (tgt := 27) F dX9_lostMeters_6 (by decide) rfl (fun _ => ?_) (fun h9 => absurd h9 (by decide))
  refine k_iload_n (n := 28) F dX9_lostMeters_27 rfl 1 rfl rfl ?_
  exact k_iret F (by first | rfl | (simp only [lostN, zb, if_true, if_false, not_true_eq_false, not_false_eq_true]; done) | (simp only [lostN, zb, if_true, if_false, not_true_eq_false, not_false_eq_true]; rfl) | (simp [lostN, zb]; done) | (simp [lostN, zb]; rfl) | (simp_all [lostN, zb]; done)) (by first | rfl | (simp only [lostN, zb, if_true, if_false, not_true_eq_false, not_false_eq_true]; done) | (simp only [lostN, zb, if_true, if_false, not_true_eq_false, not_false_eq_true]; rfl) | (simp [lostN, zb]; done) | (simp [lostN, zb]; rfl) | (simp_all [lostN, zb]; done)) dX9_lostMeters_28
set_option maxRecDepth 100000 in
set_option maxHeartbeats 4000000 in
theorem c_told (l : Launch) (g : kG) (ad : Nat → Nat) (cf : Nat → Option Nat) (i : Nat → Int32) (l_ : Nat → Int64) (a : Nat → Nat → Int32) (h : Nat → Int64) (x : Int32) : kM l yX9_toldByOthers cX9_toldByOthers 5 (some .long) (rmK 1 0 0 21) g [.ref ((ad 0)), .int x] (wC g ad (i, l_, a, h) cf) (kDl g (if x = 0 then toldO (i, l_, a, h) x else l_ 19 - toldO (i, l_, a, h) x) (wC g ad (i, l_, a, h) cf)) := by
  refine k_enter (by decide) (Nat.le_of_ble_eq_true rfl) ?_
  intro p e s m args below meth c A F
  refine k_lconst (n := 1) (v := 0) F dX9_toldByOthers_0 rfl rfl ?_
  refine k_lstore_n (n := 2) (lv' := [(2, .long 0), (0, .ref ((ad 0))), (1, .int x)]) F dX9_toldByOthers_1 rfl (by decide) rfl rfl ?_
  refine k_iconst (n := 3) (v := 1) F dX9_toldByOthers_2 rfl rfl ?_
  refine k_istore (n := 5) (lv' := [(4, .int 1), (2, .long 0), (0, .ref ((ad 0))), (1, .int x)]) F dX9_toldByOthers_3 (by decide) rfl rfl ?_
  refine k_iload (n := 7) F dX9_toldByOthers_5 0 rfl rfl ?_
  refine k_iconst (n := 8) (v := 4) F dX9_toldByOthers_7 rfl rfl ?_
  refine k_icmp_ge (n := 11) (tgt := 35) F dX9_toldByOthers_8 (by decide) rfl (fun h9 => absurd h9 (by decide)) (fun _ => ?_)
  refine k_iload (n := 13) F dX9_toldByOthers_11 0 rfl rfl ?_
  refine k_iload_n (n := 14) F dX9_toldByOthers_13 rfl 3 rfl rfl ?_
  refine k_icmp_eq (n := 17) (tgt := 29) F dX9_toldByOthers_14 (by decide) rfl (fun hc1 => ?_) (fun hc1 => ?_)
  · refine k_iinc (n := 32) (j := 0) (v := 2) (lv' := [(4, .int 2), (2, .long 0), (0, .ref ((ad 0))), (1, .int x)]) F dX9_toldByOthers_29 rfl rfl (by decide) rfl rfl ?_
    refine k_goto (tgt := 5) F dX9_toldByOthers_32 (by decide) ?_
    refine k_iload (n := 7) F dX9_toldByOthers_5 0 rfl rfl ?_
    refine k_iconst (n := 8) (v := 4) F dX9_toldByOthers_7 rfl rfl ?_
    refine k_icmp_ge (n := 11) (tgt := 35) F dX9_toldByOthers_8 (by decide) rfl (fun h9 => absurd h9 (by decide)) (fun _ => ?_)
    refine k_iload (n := 13) F dX9_toldByOthers_11 0 rfl rfl ?_
    refine k_iload_n (n := 14) F dX9_toldByOthers_13 rfl 3 rfl rfl ?_
    refine k_icmp_eq (n := 17) (tgt := 29) F dX9_toldByOthers_14 (by decide) rfl (fun hc2 => ?_) (fun hc2 => ?_)
    · refine k_iinc (n := 32) (j := 0) (v := 3) (lv' := [(4, .int 3), (2, .long 0), (0, .ref ((ad 0))), (1, .int x)]) F dX9_toldByOthers_29 rfl rfl (by decide) rfl rfl ?_
      refine k_goto (tgt := 5) F dX9_toldByOthers_32 (by decide) ?_
      refine k_iload (n := 7) F dX9_toldByOthers_5 0 rfl rfl ?_
      refine k_iconst (n := 8) (v := 4) F dX9_toldByOthers_7 rfl rfl ?_
      refine k_icmp_ge (n := 11) (tgt := 35) F dX9_toldByOthers_8 (by decide) rfl (fun h9 => absurd h9 (by decide)) (fun _ => ?_)
      refine k_iload (n := 13) F dX9_toldByOthers_11 0 rfl rfl ?_
      refine k_iload_n (n := 14) F dX9_toldByOthers_13 rfl 3 rfl rfl ?_
      refine k_icmp_eq (n := 17) (tgt := 29) F dX9_toldByOthers_14 (by decide) rfl (fun hc3 => ?_) (fun hc3 => ?_)
      · refine k_iinc (n := 32) (j := 0) (v := 4) (lv' := [(4, .int 4), (2, .long 0), (0, .ref ((ad 0))), (1, .int x)]) F dX9_toldByOthers_29 rfl rfl (by decide) rfl rfl ?_
        refine k_goto (tgt := 5) F dX9_toldByOthers_32 (by decide) ?_
        refine k_iload (n := 7) F dX9_toldByOthers_5 0 rfl rfl ?_
        refine k_iconst (n := 8) (v := 4) F dX9_toldByOthers_7 rfl rfl ?_
        refine k_icmp_ge (n := 11) (tgt := 35) F dX9_toldByOthers_8 (by decide) rfl (fun _ => ?_) (fun h9 => absurd h9 (by decide))
        refine k_iload_n (n := 36) F dX9_toldByOthers_35 rfl 3 rfl rfl ?_
        refine k_if_ne (n := 39) (tgt := 43) F dX9_toldByOthers_36 (by decide) rfl (fun hc4 => ?_) (fun hc4 => ?_)
        · refine k_aload_n (n := 44) F dX9_toldByOthers_43 rfl 2 rfl rfl ?_
          refine k_get (n := 47) (v := .ref ((ad 9))) F uX9 0 4 rfl rfl (by decide) mw_200 rfl dX9_toldByOthers_44 rfl ?_
          refine k_iconst (n := 48) (v := 0) F dX9_toldByOthers_47 rfl rfl ?_
          refine k_clR (n := 51) F (k_rV (k := 1) (b := (ad 9)) (As := [.int 0]) (rest := []) F (c_reading l g (ad 9) (a 10 3) (i 17) (i 18) 0 (l_ 19) (l_ 20) (l_ 21)) [9] rfl rfl 0 rfl rfl mw_545 mw_542 mw_543 mw_544 mw_7 (by decide) ⟨by decide, by decide⟩ rfl (Nat.le_of_ble_eq_true rfl) ⟨by decide, by decide⟩ dX9_toldByOthers_48) [9] rfl rfl ?_
          refine k_lload_n (n := 52) F dX9_toldByOthers_51 rfl 1 rfl rfl ?_
          refine k_lsub (n := 53) F dX9_toldByOthers_52 rfl ?_
          exact k_lret F (by first | rfl | (simp only [toldO, hc1, hc2, hc3, hc4, if_true, if_false, not_true_eq_false, not_false_eq_true]; done) | (simp only [toldO, hc1, hc2, hc3, hc4, if_true, if_false, not_true_eq_false, not_false_eq_true]; rfl) | (simp [toldO, hc1, hc2, hc3, hc4]; done) | (simp [toldO, hc1, hc2, hc3, hc4]; rfl) | (simp_all [toldO, hc1, hc2, hc3, hc4]; done)) (by first | rfl | (simp only [toldO, hc1, hc2, hc3, hc4, if_true, if_false, not_true_eq_false, not_false_eq_true]; done) | (simp only [toldO, hc1, hc2, hc3, hc4, if_true, if_false, not_true_eq_false, not_false_eq_true]; rfl) | (simp [toldO, hc1, hc2, hc3, hc4]; done) | (simp [toldO, hc1, hc2, hc3, hc4]; rfl) | (simp_all [toldO, hc1, hc2, hc3, hc4]; done)) dX9_toldByOthers_53
        · refine k_lload_n (n := 40) F dX9_toldByOthers_39 rfl 1 rfl rfl ?_
          refine k_goto (tgt := 53) F dX9_toldByOthers_40 (by decide) ?_
          exact k_lret F (by first | rfl | (simp only [toldO, hc1, hc2, hc3, hc4, if_true, if_false, not_true_eq_false, not_false_eq_true]; done) | (simp only [toldO, hc1, hc2, hc3, hc4, if_true, if_false, not_true_eq_false, not_false_eq_true]; rfl) | (simp [toldO, hc1, hc2, hc3, hc4]; done) | (simp [toldO, hc1, hc2, hc3, hc4]; rfl) | (simp_all [toldO, hc1, hc2, hc3, hc4]; done)) (by first | rfl | (simp only [toldO, hc1, hc2, hc3, hc4, if_true, if_false, not_true_eq_false, not_false_eq_true]; done) | (simp only [toldO, hc1, hc2, hc3, hc4, if_true, if_false, not_true_eq_false, not_false_eq_true]; rfl) | (simp [toldO, hc1, hc2, hc3, hc4]; done) | (simp [toldO, hc1, hc2, hc3, hc4]; rfl) | (simp_all [toldO, hc1, hc2, hc3, hc4]; done)) dX9_toldByOthers_53
      · refine k_lload_n (n := 18) F dX9_toldByOthers_17 rfl 1 rfl rfl ?_
        refine k_aload_n (n := 19) F dX9_toldByOthers_18 rfl 2 rfl rfl ?_
        refine k_get (n := 22) (v := .ref ((ad 9))) F uX9 0 4 rfl rfl (by decide) mw_200 rfl dX9_toldByOthers_19 rfl ?_
        refine k_iload (n := 24) F dX9_toldByOthers_22 0 rfl rfl ?_
        refine k_clR (n := 27) F (k_rV (k := 1) (b := (ad 9)) (As := [.int 3]) (rest := [.long 0]) F (c_reading l g (ad 9) (a 10 3) (i 17) (i 18) 3 (l_ 19) (l_ 20) (l_ 21)) [9] rfl rfl 0 rfl rfl mw_545 mw_542 mw_543 mw_544 mw_7 (by decide) ⟨by decide, by decide⟩ rfl (Nat.le_of_ble_eq_true rfl) ⟨by decide, by decide⟩ dX9_toldByOthers_24) [9] rfl rfl ?_
        refine k_ladd (n := 28) F dX9_toldByOthers_27 rfl ?_
        refine k_lstore_n (n := 29) (lv' := [(2, .long (0 + (if 3 = 0 then (l_ 19) else if 3 = 1 then (l_ 20) else if 3 = 2 then (l_ 21) else ((i 17) + (i 18)).toInt64))), (4, .int 3), (0, .ref ((ad 0))), (1, .int x)]) F dX9_toldByOthers_28 rfl (by decide) rfl rfl ?_
        refine k_iinc (n := 32) (j := 1) (v := 4) (lv' := [(4, .int 4), (2, .long (0 + (if 3 = 0 then (l_ 19) else if 3 = 1 then (l_ 20) else if 3 = 2 then (l_ 21) else ((i 17) + (i 18)).toInt64))), (0, .ref ((ad 0))), (1, .int x)]) F dX9_toldByOthers_29 rfl rfl (by decide) rfl rfl ?_
        refine k_goto (tgt := 5) F dX9_toldByOthers_32 (by decide) ?_
        refine k_iload (n := 7) F dX9_toldByOthers_5 0 rfl rfl ?_
        refine k_iconst (n := 8) (v := 4) F dX9_toldByOthers_7 rfl rfl ?_
        refine k_icmp_ge (n := 11) (tgt := 35) F dX9_toldByOthers_8 (by decide) rfl (fun _ => ?_) (fun h9 => absurd h9 (by decide))
        refine k_iload_n (n := 36) F dX9_toldByOthers_35 rfl 3 rfl rfl ?_
        refine k_if_ne (n := 39) (tgt := 43) F dX9_toldByOthers_36 (by decide) rfl (fun hc5 => ?_) (fun hc5 => ?_)
        · refine k_aload_n (n := 44) F dX9_toldByOthers_43 rfl 2 rfl rfl ?_
          refine k_get (n := 47) (v := .ref ((ad 9))) F uX9 0 4 rfl rfl (by decide) mw_200 rfl dX9_toldByOthers_44 rfl ?_
          refine k_iconst (n := 48) (v := 0) F dX9_toldByOthers_47 rfl rfl ?_
          refine k_clR (n := 51) F (k_rV (k := 1) (b := (ad 9)) (As := [.int 0]) (rest := []) F (c_reading l g (ad 9) (a 10 3) (i 17) (i 18) 0 (l_ 19) (l_ 20) (l_ 21)) [9] rfl rfl 0 rfl rfl mw_545 mw_542 mw_543 mw_544 mw_7 (by decide) ⟨by decide, by decide⟩ rfl (Nat.le_of_ble_eq_true rfl) ⟨by decide, by decide⟩ dX9_toldByOthers_48) [9] rfl rfl ?_
          refine k_lload_n (n := 52) F dX9_toldByOthers_51 rfl 1 rfl rfl ?_
          refine k_lsub (n := 53) F dX9_toldByOthers_52 rfl ?_
          exact k_lret F (by first | rfl | (simp only [toldO, hc1, hc2, hc3, hc5, if_true, if_false, not_true_eq_false, not_false_eq_true]; done) | (simp only [toldO, hc1, hc2, hc3, hc5, if_true, if_false, not_true_eq_false, not_false_eq_true]; rfl) | (simp [toldO, hc1, hc2, hc3, hc5]; done) | (simp [toldO, hc1, hc2, hc3, hc5]; rfl) | (simp_all [toldO, hc1, hc2, hc3, hc5]; done)) (by first | rfl | (simp only [toldO, hc1, hc2, hc3, hc5, if_true, if_false, not_true_eq_false, not_false_eq_true]; done) | (simp only [toldO, hc1, hc2, hc3, hc5, if_true, if_false, not_true_eq_false, not_false_eq_true]; rfl) | (simp [toldO, hc1, hc2, hc3, hc5]; done) | (simp [toldO, hc1, hc2, hc3, hc5]; rfl) | (simp_all [toldO, hc1, hc2, hc3, hc5]; done)) dX9_toldByOthers_53
        · refine k_lload_n (n := 40) F dX9_toldByOthers_39 rfl 1 rfl rfl ?_
          refine k_goto (tgt := 53) F dX9_toldByOthers_40 (by decide) ?_
          exact k_lret F (by first | rfl | (simp only [toldO, hc1, hc2, hc3, hc5, if_true, if_false, not_true_eq_false, not_false_eq_true]; done) | (simp only [toldO, hc1, hc2, hc3, hc5, if_true, if_false, not_true_eq_false, not_false_eq_true]; rfl) | (simp [toldO, hc1, hc2, hc3, hc5]; done) | (simp [toldO, hc1, hc2, hc3, hc5]; rfl) | (simp_all [toldO, hc1, hc2, hc3, hc5]; done)) (by first | rfl | (simp only [toldO, hc1, hc2, hc3, hc5, if_true, if_false, not_true_eq_false, not_false_eq_true]; done) | (simp only [toldO, hc1, hc2, hc3, hc5, if_true, if_false, not_true_eq_false, not_false_eq_true]; rfl) | (simp [toldO, hc1, hc2, hc3, hc5]; done) | (simp [toldO, hc1, hc2, hc3, hc5]; rfl) | (simp_all [toldO, hc1, hc2, hc3, hc5]; done)) dX9_toldByOthers_53
    · refine k_lload_n (n := 18) F dX9_toldByOthers_17 rfl 1 rfl rfl ?_
      refine k_aload_n (n := 19) F dX9_toldByOthers_18 rfl 2 rfl rfl ?_
      refine k_get (n := 22) (v := .ref ((ad 9))) F uX9 0 4 rfl rfl (by decide) mw_200 rfl dX9_toldByOthers_19 rfl ?_
      refine k_iload (n := 24) F dX9_toldByOthers_22 0 rfl rfl ?_
      refine k_clR (n := 27) F (k_rV (k := 1) (b := (ad 9)) (As := [.int 2]) (rest := [.long 0]) F (c_reading l g (ad 9) (a 10 3) (i 17) (i 18) 2 (l_ 19) (l_ 20) (l_ 21)) [9] rfl rfl 0 rfl rfl mw_545 mw_542 mw_543 mw_544 mw_7 (by decide) ⟨by decide, by decide⟩ rfl (Nat.le_of_ble_eq_true rfl) ⟨by decide, by decide⟩ dX9_toldByOthers_24) [9] rfl rfl ?_
      refine k_ladd (n := 28) F dX9_toldByOthers_27 rfl ?_
      refine k_lstore_n (n := 29) (lv' := [(2, .long (0 + (if 2 = 0 then (l_ 19) else if 2 = 1 then (l_ 20) else if 2 = 2 then (l_ 21) else ((i 17) + (i 18)).toInt64))), (4, .int 2), (0, .ref ((ad 0))), (1, .int x)]) F dX9_toldByOthers_28 rfl (by decide) rfl rfl ?_
      refine k_iinc (n := 32) (j := 1) (v := 3) (lv' := [(4, .int 3), (2, .long (0 + (if 2 = 0 then (l_ 19) else if 2 = 1 then (l_ 20) else if 2 = 2 then (l_ 21) else ((i 17) + (i 18)).toInt64))), (0, .ref ((ad 0))), (1, .int x)]) F dX9_toldByOthers_29 rfl rfl (by decide) rfl rfl ?_
      refine k_goto (tgt := 5) F dX9_toldByOthers_32 (by decide) ?_
      refine k_iload (n := 7) F dX9_toldByOthers_5 0 rfl rfl ?_
      refine k_iconst (n := 8) (v := 4) F dX9_toldByOthers_7 rfl rfl ?_
      refine k_icmp_ge (n := 11) (tgt := 35) F dX9_toldByOthers_8 (by decide) rfl (fun h9 => absurd h9 (by decide)) (fun _ => ?_)
      refine k_iload (n := 13) F dX9_toldByOthers_11 0 rfl rfl ?_
      refine k_iload_n (n := 14) F dX9_toldByOthers_13 rfl 3 rfl rfl ?_
      refine k_icmp_eq (n := 17) (tgt := 29) F dX9_toldByOthers_14 (by decide) rfl (fun hc6 => ?_) (fun hc6 => ?_)
      · refine k_iinc (n := 32) (j := 0) (v := 4) (lv' := [(4, .int 4), (2, .long (0 + (if 2 = 0 then (l_ 19) else if 2 = 1 then (l_ 20) else if 2 = 2 then (l_ 21) else ((i 17) + (i 18)).toInt64))), (0, .ref ((ad 0))), (1, .int x)]) F dX9_toldByOthers_29 rfl rfl (by decide) rfl rfl ?_
        refine k_goto (tgt := 5) F dX9_toldByOthers_32 (by decide) ?_
        refine k_iload (n := 7) F dX9_toldByOthers_5 0 rfl rfl ?_
        refine k_iconst (n := 8) (v := 4) F dX9_toldByOthers_7 rfl rfl ?_
        refine k_icmp_ge (n := 11) (tgt := 35) F dX9_toldByOthers_8 (by decide) rfl (fun _ => ?_) (fun h9 => absurd h9 (by decide))
        refine k_iload_n (n := 36) F dX9_toldByOthers_35 rfl 3 rfl rfl ?_
        refine k_if_ne (n := 39) (tgt := 43) F dX9_toldByOthers_36 (by decide) rfl (fun hc7 => ?_) (fun hc7 => ?_)
        · refine k_aload_n (n := 44) F dX9_toldByOthers_43 rfl 2 rfl rfl ?_
          refine k_get (n := 47) (v := .ref ((ad 9))) F uX9 0 4 rfl rfl (by decide) mw_200 rfl dX9_toldByOthers_44 rfl ?_
          refine k_iconst (n := 48) (v := 0) F dX9_toldByOthers_47 rfl rfl ?_
          refine k_clR (n := 51) F (k_rV (k := 1) (b := (ad 9)) (As := [.int 0]) (rest := []) F (c_reading l g (ad 9) (a 10 3) (i 17) (i 18) 0 (l_ 19) (l_ 20) (l_ 21)) [9] rfl rfl 0 rfl rfl mw_545 mw_542 mw_543 mw_544 mw_7 (by decide) ⟨by decide, by decide⟩ rfl (Nat.le_of_ble_eq_true rfl) ⟨by decide, by decide⟩ dX9_toldByOthers_48) [9] rfl rfl ?_
          refine k_lload_n (n := 52) F dX9_toldByOthers_51 rfl 1 rfl rfl ?_
          refine k_lsub (n := 53) F dX9_toldByOthers_52 rfl ?_
          exact k_lret F (by first | rfl | (simp only [toldO, hc1, hc2, hc6, hc7, if_true, if_false, not_true_eq_false, not_false_eq_true]; done) | (simp only [toldO, hc1, hc2, hc6, hc7, if_true, if_false, not_true_eq_false, not_false_eq_true]; rfl) | (simp [toldO, hc1, hc2, hc6, hc7]; done) | (simp [toldO, hc1, hc2, hc6, hc7]; rfl) | (simp_all [toldO, hc1, hc2, hc6, hc7]; done)) (by first | rfl | (simp only [toldO, hc1, hc2, hc6, hc7, if_true, if_false, not_true_eq_false, not_false_eq_true]; done) | (simp only [toldO, hc1, hc2, hc6, hc7, if_true, if_false, not_true_eq_false, not_false_eq_true]; rfl) | (simp [toldO, hc1, hc2, hc6, hc7]; done) | (simp [toldO, hc1, hc2, hc6, hc7]; rfl) | (simp_all [toldO, hc1, hc2, hc6, hc7]; done)) dX9_toldByOthers_53
        · refine k_lload_n (n := 40) F dX9_toldByOthers_39 rfl 1 rfl rfl ?_
          refine k_goto (tgt := 53) F dX9_toldByOthers_40 (by decide) ?_
          exact k_lret F (by first | rfl | (simp only [toldO, hc1, hc2, hc6, hc7, if_true, if_false, not_true_eq_false, not_false_eq_true]; done) | (simp only [toldO, hc1, hc2, hc6, hc7, if_true, if_false, not_true_eq_false, not_false_eq_true]; rfl) | (simp [toldO, hc1, hc2, hc6, hc7]; done) | (simp [toldO, hc1, hc2, hc6, hc7]; rfl) | (simp_all [toldO, hc1, hc2, hc6, hc7]; done)) (by first | rfl | (simp only [toldO, hc1, hc2, hc6, hc7, if_true, if_false, not_true_eq_false, not_false_eq_true]; done) | (simp only [toldO, hc1, hc2, hc6, hc7, if_true, if_false, not_true_eq_false, not_false_eq_true]; rfl) | (simp [toldO, hc1, hc2, hc6, hc7]; done) | (simp [toldO, hc1, hc2, hc6, hc7]; rfl) | (simp_all [toldO, hc1, hc2, hc6, hc7]; done)) dX9_toldByOthers_53
      · refine k_lload_n (n := 18) F dX9_toldByOthers_17 rfl 1 rfl rfl ?_
        refine k_aload_n (n := 19) F dX9_toldByOthers_18 rfl 2 rfl rfl ?_
        refine k_get (n := 22) (v := .ref ((ad 9))) F uX9 0 4 rfl rfl (by decide) mw_200 rfl dX9_toldByOthers_19 rfl ?_
        refine k_iload (n := 24) F dX9_toldByOthers_22 0 rfl rfl ?_
        refine k_clR (n := 27) F (k_rV (k := 1) (b := (ad 9)) (As := [.int 3]) (rest := [.long (0 + (if 2 = 0 then (l_ 19) else if 2 = 1 then (l_ 20) else if 2 = 2 then (l_ 21) else ((i 17) + (i 18)).toInt64))]) F (c_reading l g (ad 9) (a 10 3) (i 17) (i 18) 3 (l_ 19) (l_ 20) (l_ 21)) [9] rfl rfl 0 rfl rfl mw_545 mw_542 mw_543 mw_544 mw_7 (by decide) ⟨by decide, by decide⟩ rfl (Nat.le_of_ble_eq_true rfl) ⟨by decide, by decide⟩ dX9_toldByOthers_24) [9] rfl rfl ?_
        refine k_ladd (n := 28) F dX9_toldByOthers_27 rfl ?_
        refine k_lstore_n (n := 29) (lv' := [(2, .long ((0 + (if 2 = 0 then (l_ 19) else if 2 = 1 then (l_ 20) else if 2 = 2 then (l_ 21) else ((i 17) + (i 18)).toInt64)) + (if 3 = 0 then (l_ 19) else if 3 = 1 then (l_ 20) else if 3 = 2 then (l_ 21) else ((i 17) + (i 18)).toInt64))), (4, .int 3), (0, .ref ((ad 0))), (1, .int x)]) F dX9_toldByOthers_28 rfl (by decide) rfl rfl ?_
        refine k_iinc (n := 32) (j := 1) (v := 4) (lv' := [(4, .int 4), (2, .long ((0 + (if 2 = 0 then (l_ 19) else if 2 = 1 then (l_ 20) else if 2 = 2 then (l_ 21) else ((i 17) + (i 18)).toInt64)) + (if 3 = 0 then (l_ 19) else if 3 = 1 then (l_ 20) else if 3 = 2 then (l_ 21) else ((i 17) + (i 18)).toInt64))), (0, .ref ((ad 0))), (1, .int x)]) F dX9_toldByOthers_29 rfl rfl (by decide) rfl rfl ?_
        refine k_goto (tgt := 5) F dX9_toldByOthers_32 (by decide) ?_
        refine k_iload (n := 7) F dX9_toldByOthers_5 0 rfl rfl ?_
        refine k_iconst (n := 8) (v := 4) F dX9_toldByOthers_7 rfl rfl ?_
        refine k_icmp_ge (n := 11) (tgt := 35) F dX9_toldByOthers_8 (by decide) rfl (fun _ => ?_) (fun h9 => absurd h9 (by decide))
        refine k_iload_n (n := 36) F dX9_toldByOthers_35 rfl 3 rfl rfl ?_
        refine k_if_ne (n := 39) (tgt := 43) F dX9_toldByOthers_36 (by decide) rfl (fun hc8 => ?_) (fun hc8 => ?_)
        · refine k_aload_n (n := 44) F dX9_toldByOthers_43 rfl 2 rfl rfl ?_
          refine k_get (n := 47) (v := .ref ((ad 9))) F uX9 0 4 rfl rfl (by decide) mw_200 rfl dX9_toldByOthers_44 rfl ?_
          refine k_iconst (n := 48) (v := 0) F dX9_toldByOthers_47 rfl rfl ?_
          refine k_clR (n := 51) F (k_rV (k := 1) (b := (ad 9)) (As := [.int 0]) (rest := []) F (c_reading l g (ad 9) (a 10 3) (i 17) (i 18) 0 (l_ 19) (l_ 20) (l_ 21)) [9] rfl rfl 0 rfl rfl mw_545 mw_542 mw_543 mw_544 mw_7 (by decide) ⟨by decide, by decide⟩ rfl (Nat.le_of_ble_eq_true rfl) ⟨by decide, by decide⟩ dX9_toldByOthers_48) [9] rfl rfl ?_
          refine k_lload_n (n := 52) F dX9_toldByOthers_51 rfl 1 rfl rfl ?_
          refine k_lsub (n := 53) F dX9_toldByOthers_52 rfl ?_
          exact k_lret F (by first | rfl | (simp only [toldO, hc1, hc2, hc6, hc8, if_true, if_false, not_true_eq_false, not_false_eq_true]; done) | (simp only [toldO, hc1, hc2, hc6, hc8, if_true, if_false, not_true_eq_false, not_false_eq_true]; rfl) | (simp [toldO, hc1, hc2, hc6, hc8]; done) | (simp [toldO, hc1, hc2, hc6, hc8]; rfl) | (simp_all [toldO, hc1, hc2, hc6, hc8]; done)) (by first | rfl | (simp only [toldO, hc1, hc2, hc6, hc8, if_true, if_false, not_true_eq_false, not_false_eq_true]; done) | (simp only [toldO, hc1, hc2, hc6, hc8, if_true, if_false, not_true_eq_false, not_false_eq_true]; rfl) | (simp [toldO, hc1, hc2, hc6, hc8]; done) | (simp [toldO, hc1, hc2, hc6, hc8]; rfl) | (simp_all [toldO, hc1, hc2, hc6, hc8]; done)) dX9_toldByOthers_53
        · refine k_lload_n (n := 40) F dX9_toldByOthers_39 rfl 1 rfl rfl ?_
          refine k_goto (tgt := 53) F dX9_toldByOthers_40 (by decide) ?_
          exact k_lret F (by first | rfl | (simp only [toldO, hc1, hc2, hc6, hc8, if_true, if_false, not_true_eq_false, not_false_eq_true]; done) | (simp only [toldO, hc1, hc2, hc6, hc8, if_true, if_false, not_true_eq_false, not_false_eq_true]; rfl) | (simp [toldO, hc1, hc2, hc6, hc8]; done) | (simp [toldO, hc1, hc2, hc6, hc8]; rfl) | (simp_all [toldO, hc1, hc2, hc6, hc8]; done)) (by first | rfl | (simp only [toldO, hc1, hc2, hc6, hc8, if_true, if_false, not_true_eq_false, not_false_eq_true]; done) | (simp only [toldO, hc1, hc2, hc6, hc8, if_true, if_false, not_true_eq_false, not_false_eq_true]; rfl) | (simp [toldO, hc1, hc2, hc6, hc8]; done) | (simp [toldO, hc1, hc2, hc6, hc8]; rfl) | (simp_all [toldO, hc1, hc2, hc6, hc8]; done)) dX9_toldByOthers_53
  · refine k_lload_n (n := 18) F dX9_toldByOthers_17 rfl 1 rfl rfl ?_
    refine k_aload_n (n := 19) F dX9_toldByOthers_18 rfl 2 rfl rfl ?_
    refine k_get (n := 22) (v := .ref ((ad 9))) F uX9 0 4 rfl rfl (by decide) mw_200 rfl dX9_toldByOthers_19 rfl ?_
    refine k_iload (n := 24) F dX9_toldByOthers_22 0 rfl rfl ?_
    refine k_clR (n := 27) F (k_rV (k := 1) (b := (ad 9)) (As := [.int 1]) (rest := [.long 0]) F (c_reading l g (ad 9) (a 10 3) (i 17) (i 18) 1 (l_ 19) (l_ 20) (l_ 21)) [9] rfl rfl 0 rfl rfl mw_545 mw_542 mw_543 mw_544 mw_7 (by decide) ⟨by decide, by decide⟩ rfl (Nat.le_of_ble_eq_true rfl) ⟨by decide, by decide⟩ dX9_toldByOthers_24) [9] rfl rfl ?_
    refine k_ladd (n := 28) F dX9_toldByOthers_27 rfl ?_
    refine k_lstore_n (n := 29) (lv' := [(2, .long (0 + (if 1 = 0 then (l_ 19) else if 1 = 1 then (l_ 20) else if 1 = 2 then (l_ 21) else ((i 17) + (i 18)).toInt64))), (4, .int 1), (0, .ref ((ad 0))), (1, .int x)]) F dX9_toldByOthers_28 rfl (by decide) rfl rfl ?_
    refine k_iinc (n := 32) (j := 1) (v := 2) (lv' := [(4, .int 2), (2, .long (0 + (if 1 = 0 then (l_ 19) else if 1 = 1 then (l_ 20) else if 1 = 2 then (l_ 21) else ((i 17) + (i 18)).toInt64))), (0, .ref ((ad 0))), (1, .int x)]) F dX9_toldByOthers_29 rfl rfl (by decide) rfl rfl ?_
    refine k_goto (tgt := 5) F dX9_toldByOthers_32 (by decide) ?_
    refine k_iload (n := 7) F dX9_toldByOthers_5 0 rfl rfl ?_
    refine k_iconst (n := 8) (v := 4) F dX9_toldByOthers_7 rfl rfl ?_
    refine k_icmp_ge (n := 11) (tgt := 35) F dX9_toldByOthers_8 (by decide) rfl (fun h9 => absurd h9 (by decide)) (fun _ => ?_)
    refine k_iload (n := 13) F dX9_toldByOthers_11 0 rfl rfl ?_
    refine k_iload_n (n := 14) F dX9_toldByOthers_13 rfl 3 rfl rfl ?_
    refine k_icmp_eq (n := 17) (tgt := 29) F dX9_toldByOthers_14 (by decide) rfl (fun hc9 => ?_) (fun hc9 => ?_)
    · refine k_iinc (n := 32) (j := 0) (v := 3) (lv' := [(4, .int 3), (2, .long (0 + (if 1 = 0 then (l_ 19) else if 1 = 1 then (l_ 20) else if 1 = 2 then (l_ 21) else ((i 17) + (i 18)).toInt64))), (0, .ref ((ad 0))), (1, .int x)]) F dX9_toldByOthers_29 rfl rfl (by decide) rfl rfl ?_
      refine k_goto (tgt := 5) F dX9_toldByOthers_32 (by decide) ?_
      refine k_iload (n := 7) F dX9_toldByOthers_5 0 rfl rfl ?_
      refine k_iconst (n := 8) (v := 4) F dX9_toldByOthers_7 rfl rfl ?_
      refine k_icmp_ge (n := 11) (tgt := 35) F dX9_toldByOthers_8 (by decide) rfl (fun h9 => absurd h9 (by decide)) (fun _ => ?_)
      refine k_iload (n := 13) F dX9_toldByOthers_11 0 rfl rfl ?_
      refine k_iload_n (n := 14) F dX9_toldByOthers_13 rfl 3 rfl rfl ?_
      refine k_icmp_eq (n := 17) (tgt := 29) F dX9_toldByOthers_14 (by decide) rfl (fun hc10 => ?_) (fun hc10 => ?_)
      · refine k_iinc (n := 32) (j := 0) (v := 4) (lv' := [(4, .int 4), (2, .long (0 + (if 1 = 0 then (l_ 19) else if 1 = 1 then (l_ 20) else if 1 = 2 then (l_ 21) else ((i 17) + (i 18)).toInt64))), (0, .ref ((ad 0))), (1, .int x)]) F dX9_toldByOthers_29 rfl rfl (by decide) rfl rfl ?_
        refine k_goto (tgt := 5) F dX9_toldByOthers_32 (by decide) ?_
        refine k_iload (n := 7) F dX9_toldByOthers_5 0 rfl rfl ?_
        refine k_iconst (n := 8) (v := 4) F dX9_toldByOthers_7 rfl rfl ?_
        refine k_icmp_ge (n := 11) (tgt := 35) F dX9_toldByOthers_8 (by decide) rfl (fun _ => ?_) (fun h9 => absurd h9 (by decide))
        refine k_iload_n (n := 36) F dX9_toldByOthers_35 rfl 3 rfl rfl ?_
        refine k_if_ne (n := 39) (tgt := 43) F dX9_toldByOthers_36 (by decide) rfl (fun hc11 => ?_) (fun hc11 => ?_)
        · refine k_aload_n (n := 44) F dX9_toldByOthers_43 rfl 2 rfl rfl ?_
          refine k_get (n := 47) (v := .ref ((ad 9))) F uX9 0 4 rfl rfl (by decide) mw_200 rfl dX9_toldByOthers_44 rfl ?_
          refine k_iconst (n := 48) (v := 0) F dX9_toldByOthers_47 rfl rfl ?_
          refine k_clR (n := 51) F (k_rV (k := 1) (b := (ad 9)) (As := [.int 0]) (rest := []) F (c_reading l g (ad 9) (a 10 3) (i 17) (i 18) 0 (l_ 19) (l_ 20) (l_ 21)) [9] rfl rfl 0 rfl rfl mw_545 mw_542 mw_543 mw_544 mw_7 (by decide) ⟨by decide, by decide⟩ rfl (Nat.le_of_ble_eq_true rfl) ⟨by decide, by decide⟩ dX9_toldByOthers_48) [9] rfl rfl ?_
          refine k_lload_n (n := 52) F dX9_toldByOthers_51 rfl 1 rfl rfl ?_
          refine k_lsub (n := 53) F dX9_toldByOthers_52 rfl ?_
          exact k_lret F (by first | rfl | (simp only [toldO, hc1, hc9, hc10, hc11, if_true, if_false, not_true_eq_false, not_false_eq_true]; done) | (simp only [toldO, hc1, hc9, hc10, hc11, if_true, if_false, not_true_eq_false, not_false_eq_true]; rfl) | (simp [toldO, hc1, hc9, hc10, hc11]; done) | (simp [toldO, hc1, hc9, hc10, hc11]; rfl) | (simp_all [toldO, hc1, hc9, hc10, hc11]; done)) (by first | rfl | (simp only [toldO, hc1, hc9, hc10, hc11, if_true, if_false, not_true_eq_false, not_false_eq_true]; done) | (simp only [toldO, hc1, hc9, hc10, hc11, if_true, if_false, not_true_eq_false, not_false_eq_true]; rfl) | (simp [toldO, hc1, hc9, hc10, hc11]; done) | (simp [toldO, hc1, hc9, hc10, hc11]; rfl) | (simp_all [toldO, hc1, hc9, hc10, hc11]; done)) dX9_toldByOthers_53
        · refine k_lload_n (n := 40) F dX9_toldByOthers_39 rfl 1 rfl rfl ?_
          refine k_goto (tgt := 53) F dX9_toldByOthers_40 (by decide) ?_
          exact k_lret F (by first | rfl | (simp only [toldO, hc1, hc9, hc10, hc11, if_true, if_false, not_true_eq_false, not_false_eq_true]; done) | (simp only [toldO, hc1, hc9, hc10, hc11, if_true, if_false, not_true_eq_false, not_false_eq_true]; rfl) | (simp [toldO, hc1, hc9, hc10, hc11]; done) | (simp [toldO, hc1, hc9, hc10, hc11]; rfl) | (simp_all [toldO, hc1, hc9, hc10, hc11]; done)) (by first | rfl | (simp only [toldO, hc1, hc9, hc10, hc11, if_true, if_false, not_true_eq_false, not_false_eq_true]; done) | (simp only [toldO, hc1, hc9, hc10, hc11, if_true, if_false, not_true_eq_false, not_false_eq_true]; rfl) | (simp [toldO, hc1, hc9, hc10, hc11]; done) | (simp [toldO, hc1, hc9, hc10, hc11]; rfl) | (simp_all [toldO, hc1, hc9, hc10, hc11]; done)) dX9_toldByOthers_53
      · refine k_lload_n (n := 18) F dX9_toldByOthers_17 rfl 1 rfl rfl ?_
        refine k_aload_n (n := 19) F dX9_toldByOthers_18 rfl 2 rfl rfl ?_
        refine k_get (n := 22) (v := .ref ((ad 9))) F uX9 0 4 rfl rfl (by decide) mw_200 rfl dX9_toldByOthers_19 rfl ?_
        refine k_iload (n := 24) F dX9_toldByOthers_22 0 rfl rfl ?_
        refine k_clR (n := 27) F (k_rV (k := 1) (b := (ad 9)) (As := [.int 3]) (rest := [.long (0 + (if 1 = 0 then (l_ 19) else if 1 = 1 then (l_ 20) else if 1 = 2 then (l_ 21) else ((i 17) + (i 18)).toInt64))]) F (c_reading l g (ad 9) (a 10 3) (i 17) (i 18) 3 (l_ 19) (l_ 20) (l_ 21)) [9] rfl rfl 0 rfl rfl mw_545 mw_542 mw_543 mw_544 mw_7 (by decide) ⟨by decide, by decide⟩ rfl (Nat.le_of_ble_eq_true rfl) ⟨by decide, by decide⟩ dX9_toldByOthers_24) [9] rfl rfl ?_
        refine k_ladd (n := 28) F dX9_toldByOthers_27 rfl ?_
        refine k_lstore_n (n := 29) (lv' := [(2, .long ((0 + (if 1 = 0 then (l_ 19) else if 1 = 1 then (l_ 20) else if 1 = 2 then (l_ 21) else ((i 17) + (i 18)).toInt64)) + (if 3 = 0 then (l_ 19) else if 3 = 1 then (l_ 20) else if 3 = 2 then (l_ 21) else ((i 17) + (i 18)).toInt64))), (4, .int 3), (0, .ref ((ad 0))), (1, .int x)]) F dX9_toldByOthers_28 rfl (by decide) rfl rfl ?_
        refine k_iinc (n := 32) (j := 1) (v := 4) (lv' := [(4, .int 4), (2, .long ((0 + (if 1 = 0 then (l_ 19) else if 1 = 1 then (l_ 20) else if 1 = 2 then (l_ 21) else ((i 17) + (i 18)).toInt64)) + (if 3 = 0 then (l_ 19) else if 3 = 1 then (l_ 20) else if 3 = 2 then (l_ 21) else ((i 17) + (i 18)).toInt64))), (0, .ref ((ad 0))), (1, .int x)]) F dX9_toldByOthers_29 rfl rfl (by decide) rfl rfl ?_
        refine k_goto (tgt := 5) F dX9_toldByOthers_32 (by decide) ?_
        refine k_iload (n := 7) F dX9_toldByOthers_5 0 rfl rfl ?_
        refine k_iconst (n := 8) (v := 4) F dX9_toldByOthers_7 rfl rfl ?_
        refine k_icmp_ge (n := 11) (tgt := 35) F dX9_toldByOthers_8 (by decide) rfl (fun _ => ?_) (fun h9 => absurd h9 (by decide))
        refine k_iload_n (n := 36) F dX9_toldByOthers_35 rfl 3 rfl rfl ?_
        refine k_if_ne (n := 39) (tgt := 43) F dX9_toldByOthers_36 (by decide) rfl (fun hc12 => ?_) (fun hc12 => ?_)
        · refine k_aload_n (n := 44) F dX9_toldByOthers_43 rfl 2 rfl rfl ?_
          refine k_get (n := 47) (v := .ref ((ad 9))) F uX9 0 4 rfl rfl (by decide) mw_200 rfl dX9_toldByOthers_44 rfl ?_
          refine k_iconst (n := 48) (v := 0) F dX9_toldByOthers_47 rfl rfl ?_
          refine k_clR (n := 51) F (k_rV (k := 1) (b := (ad 9)) (As := [.int 0]) (rest := []) F (c_reading l g (ad 9) (a 10 3) (i 17) (i 18) 0 (l_ 19) (l_ 20) (l_ 21)) [9] rfl rfl 0 rfl rfl mw_545 mw_542 mw_543 mw_544 mw_7 (by decide) ⟨by decide, by decide⟩ rfl (Nat.le_of_ble_eq_true rfl) ⟨by decide, by decide⟩ dX9_toldByOthers_48) [9] rfl rfl ?_
          refine k_lload_n (n := 52) F dX9_toldByOthers_51 rfl 1 rfl rfl ?_
          refine k_lsub (n := 53) F dX9_toldByOthers_52 rfl ?_
          exact k_lret F (by first | rfl | (simp only [toldO, hc1, hc9, hc10, hc12, if_true, if_false, not_true_eq_false, not_false_eq_true]; done) | (simp only [toldO, hc1, hc9, hc10, hc12, if_true, if_false, not_true_eq_false, not_false_eq_true]; rfl) | (simp [toldO, hc1, hc9, hc10, hc12]; done) | (simp [toldO, hc1, hc9, hc10, hc12]; rfl) | (simp_all [toldO, hc1, hc9, hc10, hc12]; done)) (by first | rfl | (simp only [toldO, hc1, hc9, hc10, hc12, if_true, if_false, not_true_eq_false, not_false_eq_true]; done) | (simp only [toldO, hc1, hc9, hc10, hc12, if_true, if_false, not_true_eq_false, not_false_eq_true]; rfl) | (simp [toldO, hc1, hc9, hc10, hc12]; done) | (simp [toldO, hc1, hc9, hc10, hc12]; rfl) | (simp_all [toldO, hc1, hc9, hc10, hc12]; done)) dX9_toldByOthers_53
        · refine k_lload_n (n := 40) F dX9_toldByOthers_39 rfl 1 rfl rfl ?_
          refine k_goto (tgt := 53) F dX9_toldByOthers_40 (by decide) ?_
          exact k_lret F (by first | rfl | (simp only [toldO, hc1, hc9, hc10, hc12, if_true, if_false, not_true_eq_false, not_false_eq_true]; done) | (simp only [toldO, hc1, hc9, hc10, hc12, if_true, if_false, not_true_eq_false, not_false_eq_true]; rfl) | (simp [toldO, hc1, hc9, hc10, hc12]; done) | (simp [toldO, hc1, hc9, hc10, hc12]; rfl) | (simp_all [toldO, hc1, hc9, hc10, hc12]; done)) (by first | rfl | (simp only [toldO, hc1, hc9, hc10, hc12, if_true, if_false, not_true_eq_false, not_false_eq_true]; done) | (simp only [toldO, hc1, hc9, hc10, hc12, if_true, if_false, not_true_eq_false, not_false_eq_true]; rfl) | (simp [toldO, hc1, hc9, hc10, hc12]; done) | (simp [toldO, hc1, hc9, hc10, hc12]; rfl) | (simp_all [toldO, hc1, hc9, hc10, hc12]; done)) dX9_toldByOthers_53
    · refine k_lload_n (n := 18) F dX9_toldByOthers_17 rfl 1 rfl rfl ?_
      refine k_aload_n (n := 19) F dX9_toldByOthers_18 rfl 2 rfl rfl ?_
      refine k_get (n := 22) (v := .ref ((ad 9))) F uX9 0 4 rfl rfl (by decide) mw_200 rfl dX9_toldByOthers_19 rfl ?_
      refine k_iload (n := 24) F dX9_toldByOthers_22 0 rfl rfl ?_
      refine k_clR (n := 27) F (k_rV (k := 1) (b := (ad 9)) (As := [.int 2]) (rest := [.long (0 + (if 1 = 0 then (l_ 19) else if 1 = 1 then (l_ 20) else if 1 = 2 then (l_ 21) else ((i 17) + (i 18)).toInt64))]) F (c_reading l g (ad 9) (a 10 3) (i 17) (i 18) 2 (l_ 19) (l_ 20) (l_ 21)) [9] rfl rfl 0 rfl rfl mw_545 mw_542 mw_543 mw_544 mw_7 (by decide) ⟨by decide, by decide⟩ rfl (Nat.le_of_ble_eq_true rfl) ⟨by decide, by decide⟩ dX9_toldByOthers_24) [9] rfl rfl ?_
      refine k_ladd (n := 28) F dX9_toldByOthers_27 rfl ?_
      refine k_lstore_n (n := 29) (lv' := [(2, .long ((0 + (if 1 = 0 then (l_ 19) else if 1 = 1 then (l_ 20) else if 1 = 2 then (l_ 21) else ((i 17) + (i 18)).toInt64)) + (if 2 = 0 then (l_ 19) else if 2 = 1 then (l_ 20) else if 2 = 2 then (l_ 21) else ((i 17) + (i 18)).toInt64))), (4, .int 2), (0, .ref ((ad 0))), (1, .int x)]) F dX9_toldByOthers_28 rfl (by decide) rfl rfl ?_
      refine k_iinc (n := 32) (j := 1) (v := 3) (lv' := [(4, .int 3), (2, .long ((0 + (if 1 = 0 then (l_ 19) else if 1 = 1 then (l_ 20) else if 1 = 2 then (l_ 21) else ((i 17) + (i 18)).toInt64)) + (if 2 = 0 then (l_ 19) else if 2 = 1 then (l_ 20) else if 2 = 2 then (l_ 21) else ((i 17) + (i 18)).toInt64))), (0, .ref ((ad 0))), (1, .int x)]) F dX9_toldByOthers_29 rfl rfl (by decide) rfl rfl ?_
      refine k_goto (tgt := 5) F dX9_toldByOthers_32 (by decide) ?_
      refine k_iload (n := 7) F dX9_toldByOthers_5 0 rfl rfl ?_
      refine k_iconst (n := 8) (v := 4) F dX9_toldByOthers_7 rfl rfl ?_
      refine k_icmp_ge (n := 11) (tgt := 35) F dX9_toldByOthers_8 (by decide) rfl (fun h9 => absurd h9 (by decide)) (fun _ => ?_)
      refine k_iload (n := 13) F dX9_toldByOthers_11 0 rfl rfl ?_
      refine k_iload_n (n := 14) F dX9_toldByOthers_13 rfl 3 rfl rfl ?_
      refine k_icmp_eq (n := 17) (tgt := 29) F dX9_toldByOthers_14 (by decide) rfl (fun hc13 => ?_) (fun hc13 => ?_)
      · refine k_iinc (n := 32) (j := 0) (v := 4) (lv' := [(4, .int 4), (2, .long ((0 + (if 1 = 0 then (l_ 19) else if 1 = 1 then (l_ 20) else if 1 = 2 then (l_ 21) else ((i 17) + (i 18)).toInt64)) + (if 2 = 0 then (l_ 19) else if 2 = 1 then (l_ 20) else if 2 = 2 then (l_ 21) else ((i 17) + (i 18)).toInt64))), (0, .ref ((ad 0))), (1, .int x)]) F dX9_toldByOthers_29 rfl rfl (by decide) rfl rfl ?_
        refine k_goto (tgt := 5) F dX9_toldByOthers_32 (by decide) ?_
        refine k_iload (n := 7) F dX9_toldByOthers_5 0 rfl rfl ?_
        refine k_iconst (n := 8) (v := 4) F dX9_toldByOthers_7 rfl rfl ?_
        refine k_icmp_ge (n := 11) (tgt := 35) F dX9_toldByOthers_8 (by decide) rfl (fun _ => ?_) (fun h9 => absurd h9 (by decide))
        refine k_iload_n (n := 36) F dX9_toldByOthers_35 rfl 3 rfl rfl ?_
        refine k_if_ne (n := 39) (tgt := 43) F dX9_toldByOthers_36 (by decide) rfl (fun hc14 => ?_) (fun hc14 => ?_)
        · refine k_aload_n (n := 44) F dX9_toldByOthers_43 rfl 2 rfl rfl ?_
          refine k_get (n := 47) (v := .ref ((ad 9))) F uX9 0 4 rfl rfl (by decide) mw_200 rfl dX9_toldByOthers_44 rfl ?_
          refine k_iconst (n := 48) (v := 0) F dX9_toldByOthers_47 rfl rfl ?_
          refine k_clR (n := 51) F (k_rV (k := 1) (b := (ad 9)) (As := [.int 0]) (rest := []) F (c_reading l g (ad 9) (a 10 3) (i 17) (i 18) 0 (l_ 19) (l_ 20) (l_ 21)) [9] rfl rfl 0 rfl rfl mw_545 mw_542 mw_543 mw_544 mw_7 (by decide) ⟨by decide, by decide⟩ rfl (Nat.le_of_ble_eq_true rfl) ⟨by decide, by decide⟩ dX9_toldByOthers_48) [9] rfl rfl ?_
          refine k_lload_n (n := 52) F dX9_toldByOthers_51 rfl 1 rfl rfl ?_
          refine k_lsub (n := 53) F dX9_toldByOthers_52 rfl ?_
          exact k_lret F (by first | rfl | (simp only [toldO, hc1, hc9, hc13, hc14, if_true, if_false, not_true_eq_false, not_false_eq_true]; done) | (simp only [toldO, hc1, hc9, hc13, hc14, if_true, if_false, not_true_eq_false, not_false_eq_true]; rfl) | (simp [toldO, hc1, hc9, hc13, hc14]; done) | (simp [toldO, hc1, hc9, hc13, hc14]; rfl) | (simp_all [toldO, hc1, hc9, hc13, hc14]; done)) (by first | rfl | (simp only [toldO, hc1, hc9, hc13, hc14, if_true, if_false, not_true_eq_false, not_false_eq_true]; done) | (simp only [toldO, hc1, hc9, hc13, hc14, if_true, if_false, not_true_eq_false, not_false_eq_true]; rfl) | (simp [toldO, hc1, hc9, hc13, hc14]; done) | (simp [toldO, hc1, hc9, hc13, hc14]; rfl) | (simp_all [toldO, hc1, hc9, hc13, hc14]; done)) dX9_toldByOthers_53
        · refine k_lload_n (n := 40) F dX9_toldByOthers_39 rfl 1 rfl rfl ?_
          refine k_goto (tgt := 53) F dX9_toldByOthers_40 (by decide) ?_
          exact k_lret F (by first | rfl | (simp only [toldO, hc1, hc9, hc13, hc14, if_true, if_false, not_true_eq_false, not_false_eq_true]; done) | (simp only [toldO, hc1, hc9, hc13, hc14, if_true, if_false, not_true_eq_false, not_false_eq_true]; rfl) | (simp [toldO, hc1, hc9, hc13, hc14]; done) | (simp [toldO, hc1, hc9, hc13, hc14]; rfl) | (simp_all [toldO, hc1, hc9, hc13, hc14]; done)) (by first | rfl | (simp only [toldO, hc1, hc9, hc13, hc14, if_true, if_false, not_true_eq_false, not_false_eq_true]; done) | (simp only [toldO, hc1, hc9, hc13, hc14, if_true, if_false, not_true_eq_false, not_false_eq_true]; rfl) | (simp [toldO, hc1, hc9, hc13, hc14]; done) | (simp [toldO, hc1, hc9, hc13, hc14]; rfl) | (simp_all [toldO, hc1, hc9, hc13, hc14]; done)) dX9_toldByOthers_53
      · refine k_lload_n (n := 18) F dX9_toldByOthers_17 rfl 1 rfl rfl ?_
        refine k_aload_n (n := 19) F dX9_toldByOthers_18 rfl 2 rfl rfl ?_
        refine k_get (n := 22) (v := .ref ((ad 9))) F uX9 0 4 rfl rfl (by decide) mw_200 rfl dX9_toldByOthers_19 rfl ?_
        refine k_iload (n := 24) F dX9_toldByOthers_22 0 rfl rfl ?_
        refine k_clR (n := 27) F (k_rV (k := 1) (b := (ad 9)) (As := [.int 3]) (rest := [.long ((0 + (if 1 = 0 then (l_ 19) else if 1 = 1 then (l_ 20) else if 1 = 2 then (l_ 21) else ((i 17) + (i 18)).toInt64)) + (if 2 = 0 then (l_ 19) else if 2 = 1 then (l_ 20) else if 2 = 2 then (l_ 21) else ((i 17) + (i 18)).toInt64))]) F (c_reading l g (ad 9) (a 10 3) (i 17) (i 18) 3 (l_ 19) (l_ 20) (l_ 21)) [9] rfl rfl 0 rfl rfl mw_545 mw_542 mw_543 mw_544 mw_7 (by decide) ⟨by decide, by decide⟩ rfl (Nat.le_of_ble_eq_true rfl) ⟨by decide, by decide⟩ dX9_toldByOthers_24) [9] rfl rfl ?_
        refine k_ladd (n := 28) F dX9_toldByOthers_27 rfl ?_
        refine k_lstore_n (n := 29) (lv' := [(2, .long (((0 + (if 1 = 0 then (l_ 19) else if 1 = 1 then (l_ 20) else if 1 = 2 then (l_ 21) else ((i 17) + (i 18)).toInt64)) + (if 2 = 0 then (l_ 19) else if 2 = 1 then (l_ 20) else if 2 = 2 then (l_ 21) else ((i 17) + (i 18)).toInt64)) + (if 3 = 0 then (l_ 19) else if 3 = 1 then (l_ 20) else if 3 = 2 then (l_ 21) else ((i 17) + (i 18)).toInt64))), (4, .int 3), (0, .ref ((ad 0))), (1, .int x)]) F dX9_toldByOthers_28 rfl (by decide) rfl rfl ?_
        refine k_iinc (n := 32) (j := 1) (v := 4) (lv' := [(4, .int 4), (2, .long (((0 + (if 1 = 0 then (l_ 19) else if 1 = 1 then (l_ 20) else if 1 = 2 then (l_ 21) else ((i 17) + (i 18)).toInt64)) + (if 2 = 0 then (l_ 19) else if 2 = 1 then (l_ 20) else if 2 = 2 then (l_ 21) else ((i 17) + (i 18)).toInt64)) + (if 3 = 0 then (l_ 19) else if 3 = 1 then (l_ 20) else if 3 = 2 then (l_ 21) else ((i 17) + (i 18)).toInt64))), (0, .ref ((ad 0))), (1, .int x)]) F dX9_toldByOthers_29 rfl rfl (by decide) rfl rfl ?_
        refine k_goto (tgt := 5) F dX9_toldByOthers_32 (by decide) ?_
        refine k_iload (n := 7) F dX9_toldByOthers_5 0 rfl rfl ?_
        refine k_iconst (n := 8) (v := 4) F dX9_toldByOthers_7 rfl rfl ?_
        refine k_icmp_ge (n := 11) (tgt := 35) F dX9_toldByOthers_8 (by decide) rfl (fun _ => ?_) (fun h9 => absurd h9 (by decide))
        refine k_iload_n (n := 36) F dX9_toldByOthers_35 rfl 3 rfl rfl ?_
        refine k_if_ne (n := 39) (tgt := 43) F dX9_toldByOthers_36 (by decide) rfl (fun hc15 => ?_) (fun hc15 => ?_)
        · refine k_aload_n (n := 44) F dX9_toldByOthers_43 rfl 2 rfl rfl ?_
          refine k_get (n := 47) (v := .ref ((ad 9))) F uX9 0 4 rfl rfl (by decide) mw_200 rfl dX9_toldByOthers_44 rfl ?_
          refine k_iconst (n := 48) (v := 0) F dX9_toldByOthers_47 rfl rfl ?_
          refine k_clR (n := 51) F (k_rV (k := 1) (b := (ad 9)) (As := [.int 0]) (rest := []) F (c_reading l g (ad 9) (a 10 3) (i 17) (i 18) 0 (l_ 19) (l_ 20) (l_ 21)) [9] rfl rfl 0 rfl rfl mw_545 mw_542 mw_543 mw_544 mw_7 (by decide) ⟨by decide, by decide⟩ rfl (Nat.le_of_ble_eq_true rfl) ⟨by decide, by decide⟩ dX9_toldByOthers_48) [9] rfl rfl ?_
          refine k_lload_n (n := 52) F dX9_toldByOthers_51 rfl 1 rfl rfl ?_
          refine k_lsub (n := 53) F dX9_toldByOthers_52 rfl ?_
          exact k_lret F (by first | rfl | (simp only [toldO, hc1, hc9, hc13, hc15, if_true, if_false, not_true_eq_false, not_false_eq_true]; done) | (simp only [toldO, hc1, hc9, hc13, hc15, if_true, if_false, not_true_eq_false, not_false_eq_true]; rfl) | (simp [toldO, hc1, hc9, hc13, hc15]; done) | (simp [toldO, hc1, hc9, hc13, hc15]; rfl) | (simp_all [toldO, hc1, hc9, hc13, hc15]; done)) (by first | rfl | (simp only [toldO, hc1, hc9, hc13, hc15, if_true, if_false, not_true_eq_false, not_false_eq_true]; done) | (simp only [toldO, hc1, hc9, hc13, hc15, if_true, if_false, not_true_eq_false, not_false_eq_true]; rfl) | (simp [toldO, hc1, hc9, hc13, hc15]; done) | (simp [toldO, hc1, hc9, hc13, hc15]; rfl) | (simp_all [toldO, hc1, hc9, hc13, hc15]; done)) dX9_toldByOthers_53
        · refine k_lload_n (n := 40) F dX9_toldByOthers_39 rfl 1 rfl rfl ?_
          refine k_goto (tgt := 53) F dX9_toldByOthers_40 (by decide) ?_
          exact k_lret F (by first | rfl | (simp only [toldO, hc1, hc9, hc13, hc15, if_true, if_false, not_true_eq_false, not_false_eq_true]; done) | (simp only [toldO, hc1, hc9, hc13, hc15, if_true, if_false, not_true_eq_false, not_false_eq_true]; rfl) | (simp [toldO, hc1, hc9, hc13, hc15]; done) | (simp [toldO, hc1, hc9, hc13, hc15]; rfl) | (simp_all [toldO, hc1, hc9, hc13, hc15]; done)) (by first | rfl | (simp only [toldO, hc1, hc9, hc13, hc15, if_true, if_false, not_true_eq_false, not_false_eq_true]; done) | (simp only [toldO, hc1, hc9, hc13, hc15, if_true, if_false, not_true_eq_false, not_false_eq_true]; rfl) | (simp [toldO, hc1, hc9, hc13, hc15]; done) | (simp [toldO, hc1, hc9, hc13, hc15]; rfl) | (simp_all [toldO, hc1, hc9, hc13, hc15]; done)) dX9_toldByOthers_53
set_option maxRecDepth 100000 in
set_option maxHeartbeats 4000000 in
theorem c_bestShare (l : Launch) (g : kG) (o1 o2 pr : Int32) : kM l yX9_bestShare cX9_bestShare 7 (some .int) (rmK 0 0 0 0) g [.int o1, .int o2, .int pr] [] (kDi g (bsL o1 o2 pr 10).1 []) := by
  refine k_enter (by decide) (Nat.le_of_ble_eq_true rfl) ?_
  intro p e s m args below meth c A F
  have loop : ∀ (k j : Nat), j ≤ 10 → 11 ≤ j + k → KW p l e ((rmK 0 0 0 0)) s m args below meth c (MQ below ((kDi g (bsL o1 o2 pr 10).1 []) A) args s ((rmK 0 0 0 0)).cells ((rmK 0 0 0 0)).slots A) g A 7 ([]) 0 0 11 [(5, .int (nI (j + 1))), (3, .int ((bsL o1 o2 pr j).1)), (4, .int ((bsL o1 o2 pr j).2)), (0, .int o1), (1, .int o2), (2, .int pr)] [] := by
    intro k
    induction k with
    | zero =>
      intro j h1 h2
      exact absurd h2 (by omega)
    | succ k ih =>
      intro j h1 h2
      refine k_iload (n := 13) F dX9_bestShare_11 0 rfl rfl ?_
      refine k_bipush (n := 15) (v := 10) F dX9_bestShare_13 rfl rfl ?_
      refine k_icmp_gt (n := 18) (tgt := 57) F dX9_bestShare_15 (by decide) rfl (fun hc101 => ?_) (fun hc101 => ?_)
      · refine k_iload_n (n := 58) F dX9_bestShare_57 rfl 1 rfl rfl ?_
        have hj9 : j = 10 := by have h9 : nI 10 < nI (j + 1) := hc101; rw [nI_ltI (by omega) (by omega)] at h9; omega
        subst hj9
        exact k_iret F rfl rfl dX9_bestShare_58
      · refine k_bipush (n := 20) (v := 10) F dX9_bestShare_18 rfl rfl ?_
        refine k_iload (n := 22) F dX9_bestShare_20 0 rfl rfl ?_
        refine k_isub (n := 23) F dX9_bestShare_22 rfl ?_
        refine k_iload_n (n := 24) F dX9_bestShare_23 rfl 3 rfl rfl ?_
        refine k_imul (n := 25) F dX9_bestShare_24 rfl ?_
        refine k_iload (n := 27) F dX9_bestShare_25 0 rfl rfl ?_
        refine k_iload_n (n := 28) F dX9_bestShare_27 rfl 4 rfl rfl ?_
        refine k_imul (n := 29) F dX9_bestShare_28 rfl ?_
        refine k_iadd (n := 30) F dX9_bestShare_29 rfl ?_
        refine k_iload (n := 32) F dX9_bestShare_30 0 rfl rfl ?_
        refine k_iload_n (n := 33) F dX9_bestShare_32 rfl 5 rfl rfl ?_
        refine k_imul (n := 34) F dX9_bestShare_33 rfl ?_
        refine k_isub (n := 35) F dX9_bestShare_34 rfl ?_
        refine k_istore (n := 37) (lv' := [(6, .int ((((10 - (nI (j + 1))) * o1) + ((nI (j + 1)) * o2)) - ((nI (j + 1)) * pr))), (5, .int (nI (j + 1))), (3, .int ((bsL o1 o2 pr j).1)), (4, .int ((bsL o1 o2 pr j).2)), (0, .int o1), (1, .int o2), (2, .int pr)]) F dX9_bestShare_35 (by decide) rfl rfl ?_
        refine k_iload (n := 39) F dX9_bestShare_37 0 rfl rfl ?_
        refine k_iload (n := 41) F dX9_bestShare_39 3 rfl rfl ?_
        refine k_icmp_le (n := 44) (tgt := 51) F dX9_bestShare_41 (by decide) rfl (fun hc102 => ?_) (fun hc102 => ?_)
        · refine k_iinc (n := 54) (j := 1) (v := nI (j + 1 + 1)) (lv' := [(5, .int (nI (j + 1 + 1))), (6, .int ((((10 - (nI (j + 1))) * o1) + ((nI (j + 1)) * o2)) - ((nI (j + 1)) * pr))), (3, .int ((bsL o1 o2 pr j).1)), (4, .int ((bsL o1 o2 pr j).2)), (0, .int o1), (1, .int o2), (2, .int pr)]) F dX9_bestShare_51 rfl (nI_1 (j + 1)) (by decide) rfl rfl ?_
          refine k_goto (tgt := 11) F dX9_bestShare_54 (by decide) ?_
          have hj9 : j < 10 := by have h9 := hc101; have h8 : ¬ nI 10 < nI (j + 1) := h9; rw [nI_ltI (by omega) (by omega)] at h8; omega
          refine k_lv (lv' := [(5, .int (nI (j + 1 + 1))), (3, .int ((bsL o1 o2 pr j).1)), (4, .int ((bsL o1 o2 pr j).2)), (0, .int o1), (1, .int o2), (2, .int pr)]) [0, 2, 3, 4, 5, 6] rfl ?_
          refine k_lvv (lv' := [(5, .int (nI ((j + 1) + 1))), (3, .int ((bsL o1 o2 pr (j + 1)).1)), (4, .int ((bsL o1 o2 pr (j + 1)).2)), (0, .int o1), (1, .int o2), (2, .int pr)]) (by simp only [bsL, bsW, hc102, Int32.not_lt.mpr hc102, if_true, if_false, not_true_eq_false, not_false_eq_true]) ?_
          exact ih (j + 1) (by omega) (by omega)
        · refine k_iload (n := 46) F dX9_bestShare_44 1 rfl rfl ?_
          refine k_istore_n (n := 47) (lv' := [(3, .int (nI (j + 1))), (6, .int ((((10 - (nI (j + 1))) * o1) + ((nI (j + 1)) * o2)) - ((nI (j + 1)) * pr))), (5, .int (nI (j + 1))), (4, .int ((bsL o1 o2 pr j).2)), (0, .int o1), (1, .int o2), (2, .int pr)]) F dX9_bestShare_46 rfl (by decide) rfl rfl ?_
          refine k_iload (n := 49) F dX9_bestShare_47 1 rfl rfl ?_
          refine k_istore (n := 51) (lv' := [(4, .int ((((10 - (nI (j + 1))) * o1) + ((nI (j + 1)) * o2)) - ((nI (j + 1)) * pr))), (3, .int (nI (j + 1))), (6, .int ((((10 - (nI (j + 1))) * o1) + ((nI (j + 1)) * o2)) - ((nI (j + 1)) * pr))), (5, .int (nI (j + 1))), (0, .int o1), (1, .int o2), (2, .int pr)]) F dX9_bestShare_49 (by decide) rfl rfl ?_
          refine k_iinc (n := 54) (j := 3) (v := nI (j + 1 + 1)) (lv' := [(5, .int (nI (j + 1 + 1))), (4, .int ((((10 - (nI (j + 1))) * o1) + ((nI (j + 1)) * o2)) - ((nI (j + 1)) * pr))), (3, .int (nI (j + 1))), (6, .int ((((10 - (nI (j + 1))) * o1) + ((nI (j + 1)) * o2)) - ((nI (j + 1)) * pr))), (0, .int o1), (1, .int o2), (2, .int pr)]) F dX9_bestShare_51 rfl (nI_1 (j + 1)) (by decide) rfl rfl ?_
          refine k_goto (tgt := 11) F dX9_bestShare_54 (by decide) ?_
          have hj9 : j < 10 := by have h9 := hc101; have h8 : ¬ nI 10 < nI (j + 1) := h9; rw [nI_ltI (by omega) (by omega)] at h8; omega
          refine k_lv (lv' := [(5, .int (nI (j + 1 + 1))), (3, .int (nI (j + 1))), (4, .int ((((10 - (nI (j + 1))) * o1) + ((nI (j + 1)) * o2)) - ((nI (j + 1)) * pr))), (0, .int o1), (1, .int o2), (2, .int pr)]) [0, 2, 1, 4, 5, 6] rfl ?_
          refine k_lvv (lv' := [(5, .int (nI ((j + 1) + 1))), (3, .int ((bsL o1 o2 pr (j + 1)).1)), (4, .int ((bsL o1 o2 pr (j + 1)).2)), (0, .int o1), (1, .int o2), (2, .int pr)]) (by simp only [bsL, bsW, hc102, Int32.not_le.mp hc102, if_true, if_false, not_true_eq_false, not_false_eq_true]) ?_
          exact ih (j + 1) (by omega) (by omega)
  refine k_iconst (n := 1) (v := 0) F dX9_bestShare_0 rfl rfl ?_
  refine k_istore_n (n := 2) (lv' := [(3, .int 0), (0, .int o1), (1, .int o2), (2, .int pr)]) F dX9_bestShare_1 rfl (by decide) rfl rfl ?_
  refine k_bipush (n := 4) (v := 10) F dX9_bestShare_2 rfl rfl ?_
  refine k_iload_n (n := 5) F dX9_bestShare_4 rfl 1 rfl rfl ?_
  refine k_imul (n := 6) F dX9_bestShare_5 rfl ?_
  refine k_istore (n := 8) (lv' := [(4, .int (10 * o1)), (3, .int 0), (0, .int o1), (1, .int o2), (2, .int pr)]) F dX9_bestShare_6 (by decide) rfl rfl ?_
  refine k_iconst (n := 9) (v := 1) F dX9_bestShare_8 rfl rfl ?_
  refine k_istore (n := 11) (lv' := [(5, .int 1), (4, .int (10 * o1)), (3, .int 0), (0, .int o1), (1, .int o2), (2, .int pr)]) F dX9_bestShare_9 (by decide) rfl rfl ?_
  refine k_lv (lv' := [(5, .int (nI (0 + 1))), (3, .int ((bsL o1 o2 pr 0).1)), (4, .int ((bsL o1 o2 pr 0).2)), (0, .int o1), (1, .int o2), (2, .int pr)]) [0, 2, 1, 3, 4, 5] rfl ?_
  exact loop 11 0 (by omega) (by omega)
set_option maxRecDepth 100000 in
set_option maxHeartbeats 4000000 in
theorem c_find (l : Launch) (g : kG) (ad : Nat → Nat) (cf : Nat → Option Nat) (i : Nat → Int32) (l_ : Nat → Int64) (a : Nat → Nat → Int32) (h : Nat → Int64) (x : Int32) (h2 : 0 ≤ i 2 ∧ i 2 ≤ 6) : kM l yX9_find cX9_find 2 (some (.object "ColdWorks$Throttle")) (rmK 2 0 0 43) g [.ref ((ad 0)), .int x] (wC g ad (i, l_, a, h) cf) (kDq g (if kin x 0 (i 2 - 1) = 0 then none else cf x.toNatClampNeg) (wC g ad (i, l_, a, h) cf)) := by
  refine k_enter (by decide) (Nat.le_of_ble_eq_true rfl) ?_
  intro p e s m args below meth c A F
  refine k_aload_n (n := 1) F dX9_find_0 rfl 0 rfl rfl ?_
  refine k_iload_n (n := 2) F dX9_find_1 rfl 1 rfl rfl ?_
  refine k_ciR (n := 5) F (k_rV (k := 1) (b := (ad 0)) (As := [.int x]) (rest := []) F (c_isCooler l g ad cf i l_ a h x) [0, 1, 2, 3, 4, 5, 6, 7, 8, 9, 10, 11, 12, 13, 14] rfl rfl 0 rfl rfl mw_284 mw_281 mw_283 mw_s0 mw_1 (by decide) ⟨by decide, by decide⟩ rfl (Nat.le_of_ble_eq_true rfl) ⟨by decide, by decide⟩ dX9_find_2) [0, 1, 2, 3, 4, 5, 6, 7, 8, 9, 10, 11, 12, 13, 14] rfl rfl ?_
  refine k_if_eq (n := 8) (tgt := 17) F dX9_find_5 (by decide) rfl (fun hc1 => ?_) (fun hc1 => ?_)
  · refine k_null (n := 18) F dX9_find_17 rfl ?_
    exact k_aret F (by simp [hc1, va_rf]) rfl dX9_find_18
  · refine k_aload_n (n := 9) F dX9_find_8 rfl 0 rfl rfl ?_
    refine k_get (n := 12) (v := .ref ((ad 1))) F uX9 0 0 rfl rfl (by decide) mw_196 rfl dX9_find_9 rfl ?_
    refine k_iload_n (n := 13) F dX9_find_12 rfl 1 rfl rfl ?_
    refine k_aald (n := 14) (N := x.toNatClampNeg) F 1 rfl (kIx_c hc1 h2.1 h2.2) dX9_find_13 rfl ?_
    refine k_goto (tgt := 18) F dX9_find_14 (by decide) ?_
    exact k_aret F (by simp [hc1, va_rf]) rfl dX9_find_18
set_option maxRecDepth 100000 in
set_option maxHeartbeats 4000000 in
theorem c_coldOf (l : Launch) (g : kG) (ad ca cb : Nat → Nat) (i : Nat → Int32) (l_ : Nat → Int64) (a : Nat → Nat → Int32) (h : Nat → Int64) (x d : Int32) (h2 : 0 ≤ i 2 ∧ i 2 ≤ 6) : kM l yX9_coldOf cX9_coldOf 4 (some .int) (rmK 3 0 0 65) g [.ref ((ad 0)), .int x, .int d] (wK g ad ca cb (i, l_, a, h)) (kDi g (kcold (i, l_, a, h) x d) (wK g ad ca cb (i, l_, a, h))) := by
  refine k_enter (by decide) (Nat.le_of_ble_eq_true rfl) ?_
  intro p e s m args below meth c A F
  refine k_world (ws' := (wC g ad (i, l_, a, h) (coolF ca (i 2).toNatClampNeg) ++ coolW g ca cb (a 3) (a 4) (a 5) (i 2).toNatClampNeg)) rfl ?_
  refine k_aload_n (n := 1) F dX9_coldOf_0 rfl 0 rfl rfl ?_
  refine k_iload_n (n := 2) F dX9_coldOf_1 rfl 1 rfl rfl ?_
  refine k_cqR (n := 5) F (k_rV (k := 1) (b := (ad 0)) (As := [.int x]) (rest := []) F (c_find l g ad (coolF ca (i 2).toNatClampNeg) i l_ a h x h2) [0, 1, 2, 3, 4, 5, 6, 7, 8, 9, 10, 11, 12, 13, 14] rfl rfl 0 rfl rfl mw_292 mw_289 mw_291 mw_s2 mw_1 (by decide) ⟨by decide, by decide⟩ rfl (Nat.le_of_ble_eq_true rfl) ⟨by decide, by decide⟩ dX9_coldOf_2) [0, 1, 2, 3, 4, 5, 6, 7, 8, 9, 10, 11, 12, 13, 14] rfl rfl ?_
  by_cases hk : kin x 0 (i 2 - 1) = 0
  · refine k_valV (y := .null) (by rw [if_pos hk]; rfl) ?_
    refine k_astore_nN (n := 6) (lv' := [(3, .null), (0, .ref ((ad 0))), (1, .int x), (2, .int d)]) F dX9_coldOf_5 rfl (by decide) rfl rfl ?_
    refine k_aload_nN (n := 7) F dX9_coldOf_6 rfl 0 rfl rfl ?_
    refine k_ifnonnullN (n := 10) F dX9_coldOf_7 rfl ?_
    refine k_iconst (n := 11) (v := 0) F dX9_coldOf_10 rfl rfl ?_
    refine k_goto (tgt := 19) F dX9_coldOf_11 (by decide) ?_
    exact k_iret F (by first | (simp only [kcold, cdC, hk, if_true, if_false, not_true_eq_false, not_false_eq_true]; done) | (simp only [kcold, cdC, hk, if_true, if_false, not_true_eq_false, not_false_eq_true]; rfl)) rfl dX9_coldOf_19
  · refine k_valV (y := .ref (ca x.toNatClampNeg)) (by rw [if_neg hk, coolF_at (cool_lt hk h2.1 h2.2)]; rfl) ?_
    refine k_astore_n (n := 6) (lv' := [(3, .ref ((ca x.toNatClampNeg))), (0, .ref ((ad 0))), (1, .int x), (2, .int d)]) F dX9_coldOf_5 rfl (by decide) rfl rfl ?_
    refine k_aload_n (n := 7) F dX9_coldOf_6 rfl 0 rfl rfl ?_
    refine k_ifnonnull (tgt := 14) F dX9_coldOf_7 (by decide) ?_
    refine k_aload_n (n := 15) F dX9_coldOf_14 rfl 0 rfl rfl ?_
    refine k_iload_n (n := 16) F dX9_coldOf_15 rfl 3 rfl rfl ?_
    obtain ⟨is, hC, hnC⟩ := cool_at (g := g) (ca := ca) (cb := cb) (k3 := a 3) (k4 := a 4) (k5 := a 5) (wC g ad (i, l_, a, h) (coolF ca (i 2).toNatClampNeg)) (cool_lt hk h2.1 h2.2)
    by_cases hk0 : a 3 x.toNatClampNeg = 0
    · rw [coolC_0 hk0] at hC
      refine k_ciR (n := 19) F (k_rV (k := 1) (b := (ca x.toNatClampNeg)) (As := [.int d]) (rest := []) F (c_thCold_0 l g (ca x.toNatClampNeg) d) is hC hnC 0 rfl rfl mw_329 mw_310 mw_311 mw_312 mw_10 (by decide) ⟨by decide, by decide⟩ rfl (Nat.le_of_ble_eq_true rfl) ⟨by decide, by decide⟩ dX9_coldOf_16) is hC rfl ?_
      exact k_iret F (by first | (simp only [kcold, cdC, hk, hk0, if_true, if_false, not_true_eq_false, not_false_eq_true]; done) | (simp only [kcold, cdC, hk, hk0, if_true, if_false, not_true_eq_false, not_false_eq_true]; rfl)) rfl dX9_coldOf_19
    by_cases hk1 : a 3 x.toNatClampNeg = 1
    · rw [coolC_1 hk0 hk1] at hC
      refine k_ciR (n := 19) F (k_rU (k := 1) (b := (ca x.toNatClampNeg)) (As := [.int d]) (rest := []) F (c_whCold_1 l g (ca x.toNatClampNeg) (cb x.toNatClampNeg) (fun k => a 4 (5 * x.toNatClampNeg + k)) d) is hC hnC 0 rfl rfl mw_319 mw_329 mw_310 mw_313 mw_311 mw_328 mw_318 mw_11 (by decide) ⟨by decide, by decide⟩ rfl (Nat.le_of_ble_eq_true rfl) ⟨by decide, by decide⟩ dX9_coldOf_16) is hC rfl ?_
      exact k_iret F (by first | (simp only [kcold, cdC, hk, hk0, hk1, if_true, if_false, not_true_eq_false, not_false_eq_true]; done) | (simp only [kcold, cdC, hk, hk0, hk1, if_true, if_false, not_true_eq_false, not_false_eq_true]; rfl)) rfl dX9_coldOf_19
    rw [coolC_2 hk0 hk1] at hC
    refine k_ciR (n := 19) F (k_rU (k := 1) (b := (ca x.toNatClampNeg)) (As := [.int d]) (rest := []) F (c_brCold_2 l g (ca x.toNatClampNeg) (cb x.toNatClampNeg) (fun k => a 4 (5 * x.toNatClampNeg + k)) (a 5 x.toNatClampNeg) d) is hC hnC 0 rfl rfl mw_316 mw_329 mw_310 mw_313 mw_311 mw_314 mw_315 mw_12 (by decide) ⟨by decide, by decide⟩ rfl (Nat.le_of_ble_eq_true rfl) ⟨by decide, by decide⟩ dX9_coldOf_16) is hC rfl ?_
    exact k_iret F (by first | (simp only [kcold, cdC, hk, hk0, hk1, if_true, if_false, not_true_eq_false, not_false_eq_true]; done) | (simp only [kcold, cdC, hk, hk0, hk1, if_true, if_false, not_true_eq_false, not_false_eq_true]; rfl)) rfl dX9_coldOf_19
set_option maxRecDepth 100000 in
set_option maxHeartbeats 4000000 in
theorem c_weightOf (l : Launch) (g : kG) (ad ca cb : Nat → Nat) (i : Nat → Int32) (l_ : Nat → Int64) (a : Nat → Nat → Int32) (h : Nat → Int64) (x : Int32) (h2 : 0 ≤ i 2 ∧ i 2 ≤ 6) : kM l yX9_weightOf cX9_weightOf 3 (some .int) (rmK 3 0 0 64) g [.ref ((ad 0)), .int x] (wK g ad ca cb (i, l_, a, h)) (kDi g (kwt (i, l_, a, h) x) (wK g ad ca cb (i, l_, a, h))) := by
  refine k_enter (by decide) (Nat.le_of_ble_eq_true rfl) ?_
  intro p e s m args below meth c A F
  refine k_world (ws' := (wC g ad (i, l_, a, h) (coolF ca (i 2).toNatClampNeg) ++ coolW g ca cb (a 3) (a 4) (a 5) (i 2).toNatClampNeg)) rfl ?_
  refine k_aload_n (n := 1) F dX9_weightOf_0 rfl 0 rfl rfl ?_
  refine k_iload_n (n := 2) F dX9_weightOf_1 rfl 1 rfl rfl ?_
  refine k_cqR (n := 5) F (k_rV (k := 1) (b := (ad 0)) (As := [.int x]) (rest := []) F (c_find l g ad (coolF ca (i 2).toNatClampNeg) i l_ a h x h2) [0, 1, 2, 3, 4, 5, 6, 7, 8, 9, 10, 11, 12, 13, 14] rfl rfl 0 rfl rfl mw_292 mw_289 mw_291 mw_s2 mw_1 (by decide) ⟨by decide, by decide⟩ rfl (Nat.le_of_ble_eq_true rfl) ⟨by decide, by decide⟩ dX9_weightOf_2) [0, 1, 2, 3, 4, 5, 6, 7, 8, 9, 10, 11, 12, 13, 14] rfl rfl ?_
  by_cases hk : kin x 0 (i 2 - 1) = 0
  · refine k_valV (y := .null) (by rw [if_pos hk]; rfl) ?_
    refine k_astore_nN (n := 6) (lv' := [(2, .null), (0, .ref ((ad 0))), (1, .int x)]) F dX9_weightOf_5 rfl (by decide) rfl rfl ?_
    refine k_aload_nN (n := 7) F dX9_weightOf_6 rfl 0 rfl rfl ?_
    refine k_ifnonnullN (n := 10) F dX9_weightOf_7 rfl ?_
    refine k_iconst (n := 11) (v := 0) F dX9_weightOf_10 rfl rfl ?_
    refine k_goto (tgt := 18) F dX9_weightOf_11 (by decide) ?_
    exact k_iret F (by first | (simp only [kwt, wtC, hk, if_true, if_false, not_true_eq_false, not_false_eq_true]; done) | (simp only [kwt, wtC, hk, if_true, if_false, not_true_eq_false, not_false_eq_true]; rfl)) rfl dX9_weightOf_18
  · refine k_valV (y := .ref (ca x.toNatClampNeg)) (by rw [if_neg hk, coolF_at (cool_lt hk h2.1 h2.2)]; rfl) ?_
    refine k_astore_n (n := 6) (lv' := [(2, .ref ((ca x.toNatClampNeg))), (0, .ref ((ad 0))), (1, .int x)]) F dX9_weightOf_5 rfl (by decide) rfl rfl ?_
    refine k_aload_n (n := 7) F dX9_weightOf_6 rfl 0 rfl rfl ?_
    refine k_ifnonnull (tgt := 14) F dX9_weightOf_7 (by decide) ?_
    refine k_aload_n (n := 15) F dX9_weightOf_14 rfl 0 rfl rfl ?_
    obtain ⟨is, hC, hnC⟩ := cool_at (g := g) (ca := ca) (cb := cb) (k3 := a 3) (k4 := a 4) (k5 := a 5) (wC g ad (i, l_, a, h) (coolF ca (i 2).toNatClampNeg)) (cool_lt hk h2.1 h2.2)
    by_cases hk0 : a 3 x.toNatClampNeg = 0
    · rw [coolC_0 hk0] at hC
      refine k_ciR (n := 18) F (k_rV (k := 0) (b := (ca x.toNatClampNeg)) (As := []) (rest := []) F (c_thTrace_0 l g (ca x.toNatClampNeg)) is hC hnC 0 rfl rfl mw_305 mw_293 mw_294 mw_295 mw_10 (by decide) ⟨by decide, by decide⟩ rfl (Nat.le_of_ble_eq_true rfl) ⟨by decide, by decide⟩ dX9_weightOf_15) is hC rfl ?_
      exact k_iret F (by first | (simp only [kwt, wtC, hk, hk0, if_true, if_false, not_true_eq_false, not_false_eq_true]; done) | (simp only [kwt, wtC, hk, hk0, if_true, if_false, not_true_eq_false, not_false_eq_true]; rfl)) rfl dX9_weightOf_18
    by_cases hk1 : a 3 x.toNatClampNeg = 1
    · rw [coolC_1 hk0 hk1] at hC
      refine k_ciR (n := 18) F (k_rU (k := 0) (b := (ca x.toNatClampNeg)) (As := []) (rest := []) F (c_whTrace_1 l g (ca x.toNatClampNeg) (cb x.toNatClampNeg) (fun k => a 4 (5 * x.toNatClampNeg + k))) is hC hnC 0 rfl rfl mw_302 mw_305 mw_293 mw_296 mw_294 mw_304 mw_301 mw_11 (by decide) ⟨by decide, by decide⟩ rfl (Nat.le_of_ble_eq_true rfl) ⟨by decide, by decide⟩ dX9_weightOf_15) is hC rfl ?_
      exact k_iret F (by first | (simp only [kwt, wtC, hk, hk0, hk1, if_true, if_false, not_true_eq_false, not_false_eq_true]; done) | (simp only [kwt, wtC, hk, hk0, hk1, if_true, if_false, not_true_eq_false, not_false_eq_true]; rfl)) rfl dX9_weightOf_18
    rw [coolC_2 hk0 hk1] at hC
    refine k_ciR (n := 18) F (k_rU (k := 0) (b := (ca x.toNatClampNeg)) (As := []) (rest := []) F (c_brTrace_2 l g (ca x.toNatClampNeg) (cb x.toNatClampNeg) (fun k => a 4 (5 * x.toNatClampNeg + k)) (a 5 x.toNatClampNeg)) is hC hnC 0 rfl rfl mw_299 mw_305 mw_293 mw_296 mw_294 mw_297 mw_298 mw_12 (by decide) ⟨by decide, by decide⟩ rfl (Nat.le_of_ble_eq_true rfl) ⟨by decide, by decide⟩ dX9_weightOf_15) is hC rfl ?_
    exact k_iret F (by first | (simp only [kwt, wtC, hk, hk0, hk1, if_true, if_false, not_true_eq_false, not_false_eq_true]; done) | (simp only [kwt, wtC, hk, hk0, hk1, if_true, if_false, not_true_eq_false, not_false_eq_true]; rfl)) rfl dX9_weightOf_18
set_option maxRecDepth 100000 in
set_option maxHeartbeats 4000000 in
theorem c_cold (l : Launch) (g : kG) (ad ca cb : Nat → Nat) (i : Nat → Int32) (l_ : Nat → Int64) (a : Nat → Nat → Int32) (h : Nat → Int64) (x d : Int32) (h2 : 0 ≤ i 2 ∧ i 2 ≤ 6) : kM l yX9_cold cX9_cold 3 (some .int) (rmK 4 0 0 88) g [.ref ((ad 0)), .int x, .int d] (wK g ad ca cb (i, l_, a, h)) (kDi g (f_cold (i, l_, a, h) x d).1 (wK g ad ca cb (f_cold (i, l_, a, h) x d).2)) := by
  refine k_enter (by decide) (Nat.le_of_ble_eq_true rfl) ?_
  intro p e s m args below meth c A F
  refine k_world (ws' := (wC g ad (i, l_, a, h) (coolF ca (i 2).toNatClampNeg) ++ coolW g ca cb (a 3) (a 4) (a 5) (i 2).toNatClampNeg)) rfl ?_
  refine k_aload_n (n := 1) F dX9_cold_0 rfl 0 rfl rfl ?_
  refine k_iload_n (n := 2) F dX9_cold_1 rfl 1 rfl rfl ?_
  refine k_ciR (n := 5) F (k_rV (k := 1) (b := (ad 0)) (As := [.int x]) (rest := []) F (c_isCooler l g ad (coolF ca (i 2).toNatClampNeg) i l_ a h x) [0, 1, 2, 3, 4, 5, 6, 7, 8, 9, 10, 11, 12, 13, 14] rfl rfl 0 rfl rfl mw_284 mw_281 mw_283 mw_s0 mw_1 (by decide) ⟨by decide, by decide⟩ rfl (Nat.le_of_ble_eq_true rfl) ⟨by decide, by decide⟩ dX9_cold_2) [0, 1, 2, 3, 4, 5, 6, 7, 8, 9, 10, 11, 12, 13, 14] rfl rfl ?_
  refine k_if_eq (n := 8) (tgt := 18) F dX9_cold_5 (by decide) rfl (fun hc1 => ?_) (fun hc1 => ?_)
  · refine k_iconst (n := 19) (v := -1) F dX9_cold_18 rfl rfl ?_
    exact k_iret F (by simp only [f_cold, kcold, kwt, hc1, if_true, if_false, not_true_eq_false, not_false_eq_true]) (by simp only [f_cold, kcold, kwt, hc1, if_true, if_false, not_true_eq_false, not_false_eq_true]; rfl) dX9_cold_19
  · refine k_iload_n (n := 9) F dX9_cold_8 rfl 2 rfl rfl ?_
    refine k_iconst (n := 10) (v := 0) F dX9_cold_9 rfl rfl ?_
    refine k_bipush (n := 12) (v := 40) F dX9_cold_10 rfl rfl ?_
    refine k_ciR (n := 15) F (k_rS (k := 3) (As := [.int d, .int 0, .int 40]) (rest := []) F (c_within l g d 0 40) [] rfl rfl mw_243 mw_241 mw_242 mw_1 (by decide) ⟨by decide, by decide⟩ rfl (Nat.le_of_ble_eq_true rfl) ⟨by decide, by decide⟩ dX9_cold_12) [] rfl rfl ?_
    refine k_if_ne (n := 18) (tgt := 20) F dX9_cold_15 (by decide) rfl (fun hc2 => ?_) (fun hc2 => ?_)
    · refine k_aload_n (n := 21) F dX9_cold_20 rfl 0 rfl rfl ?_
      refine k_dup (n := 22) F dX9_cold_21 rfl rfl ?_
      refine k_get (n := 25) (v := .long (l_ 1)) F uX9 0 12 rfl rfl (by decide) mw_208 rfl dX9_cold_22 rfl ?_
      refine k_aload_n (n := 26) F dX9_cold_25 rfl 0 rfl rfl ?_
      refine k_iload_n (n := 27) F dX9_cold_26 rfl 1 rfl rfl ?_
      refine k_ciR (n := 30) F (k_rV (k := 1) (b := (ad 0)) (As := [.int x]) (rest := [.long (l_ 1), .ref ((ad 0))]) F (c_weightOf l g ad ca cb i l_ a h x h2) (List.range (wC g ad (i, l_, a, h) (coolF ca (i 2).toNatClampNeg) ++ coolW g ca cb (a 3) (a 4) (a 5) (i 2).toNatClampNeg).length) (all_is _) (all_nd _) 0 rfl rfl mw_288 mw_285 mw_287 mw_s1 mw_1 (by decide) ⟨by decide, by decide⟩ rfl (Nat.le_of_ble_eq_true rfl) ⟨by decide, by decide⟩ dX9_cold_27) (List.range (wC g ad (i, l_, a, h) (coolF ca (i 2).toNatClampNeg) ++ coolW g ca cb (a 3) (a 4) (a 5) (i 2).toNatClampNeg).length) (all_is _) rfl ?_
      refine k_i2l (n := 31) F dX9_cold_30 rfl ?_
      refine k_ladd (n := 32) F dX9_cold_31 rfl ?_
      refine k_put (n := 35) (ws' := (wC g ad (i, vp_updL l_ 1 ((l_ 1) + ((kwt (i, l_, a, h) x).toInt64)), a, h) (coolF ca (i 2).toNatClampNeg) ++ coolW g ca cb (a 3) (a 4) (a 5) (i 2).toNatClampNeg)) F uX9 tyX9_ok nmX9 0 12 rfl rfl (by decide) mw_208 rfl rfl rfl (Nat.le_of_ble_eq_true rfl) rfl dX9_cold_32 rfl ?_
      refine k_aload_n (n := 36) F dX9_cold_35 rfl 0 rfl rfl ?_
      refine k_iload_n (n := 37) F dX9_cold_36 rfl 1 rfl rfl ?_
      refine k_iload_n (n := 38) F dX9_cold_37 rfl 2 rfl rfl ?_
      refine k_ciR (n := 41) F (k_rV (k := 2) (b := (ad 0)) (As := [.int x, .int d]) (rest := []) F (c_coldOf l g ad ca cb i (vp_updL l_ 1 ((l_ 1) + ((kwt (i, l_, a, h) x).toInt64))) a h x d h2) (List.range (wC g ad (i, vp_updL l_ 1 ((l_ 1) + ((kwt (i, l_, a, h) x).toInt64)), a, h) (coolF ca (i 2).toNatClampNeg) ++ coolW g ca cb (a 3) (a 4) (a 5) (i 2).toNatClampNeg).length) (all_is _) (all_nd _) 0 rfl rfl mw_309 mw_306 mw_308 mw_s3 mw_1 (by decide) ⟨by decide, by decide⟩ rfl (Nat.le_of_ble_eq_true rfl) ⟨by decide, by decide⟩ dX9_cold_38) (List.range (wC g ad (i, vp_updL l_ 1 ((l_ 1) + ((kwt (i, l_, a, h) x).toInt64)), a, h) (coolF ca (i 2).toNatClampNeg) ++ coolW g ca cb (a 3) (a 4) (a 5) (i 2).toNatClampNeg).length) (all_is _) rfl ?_
      exact k_iret F (by simp only [f_cold, kcold, kwt, hc1, hc2, if_true, if_false, not_true_eq_false, not_false_eq_true]) (by simp only [f_cold, kcold, kwt, hc1, hc2, if_true, if_false, not_true_eq_false, not_false_eq_true]; rfl) dX9_cold_41
    · refine k_iconst (n := 19) (v := -1) F dX9_cold_18 rfl rfl ?_
      exact k_iret F (by simp only [f_cold, kcold, kwt, hc1, hc2, if_true, if_false, not_true_eq_false, not_false_eq_true]) (by simp only [f_cold, kcold, kwt, hc1, hc2, if_true, if_false, not_true_eq_false, not_false_eq_true]; rfl) dX9_cold_19
set_option maxRecDepth 100000 in
set_option maxHeartbeats 4000000 in
theorem c_split (l : Launch) (g : kG) (ad ca cb : Nat → Nat) (i : Nat → Int32) (l_ : Nat → Int64) (a : Nat → Nat → Int32) (h : Nat → Int64) (x y d pr : Int32) (h2 : 0 ≤ i 2 ∧ i 2 ≤ 6) : kM l yX9_split cX9_split 5 (some .int) (rmK 4 0 0 88) g [.ref ((ad 0)), .int x, .int y, .int d, .int pr] (wK g ad ca cb (i, l_, a, h)) (kDi g (f_split (i, l_, a, h) x y d pr) (wK g ad ca cb (i, l_, a, h))) := by
  refine k_enter (by decide) (Nat.le_of_ble_eq_true rfl) ?_
  intro p e s m args below meth c A F
  refine k_world (ws' := (wC g ad (i, l_, a, h) (coolF ca (i 2).toNatClampNeg) ++ coolW g ca cb (a 3) (a 4) (a 5) (i 2).toNatClampNeg)) rfl ?_
  refine k_aload_n (n := 1) F dX9_split_0 rfl 0 rfl rfl ?_
  refine k_iload_n (n := 2) F dX9_split_1 rfl 1 rfl rfl ?_
  refine k_ciR (n := 5) F (k_rV (k := 1) (b := (ad 0)) (As := [.int x]) (rest := []) F (c_isCooler l g ad (coolF ca (i 2).toNatClampNeg) i l_ a h x) [0, 1, 2, 3, 4, 5, 6, 7, 8, 9, 10, 11, 12, 13, 14] rfl rfl 0 rfl rfl mw_284 mw_281 mw_283 mw_s0 mw_1 (by decide) ⟨by decide, by decide⟩ rfl (Nat.le_of_ble_eq_true rfl) ⟨by decide, by decide⟩ dX9_split_2) [0, 1, 2, 3, 4, 5, 6, 7, 8, 9, 10, 11, 12, 13, 14] rfl rfl ?_
  refine k_if_eq (n := 8) (tgt := 16) F dX9_split_5 (by decide) rfl (fun hc1 => ?_) (fun hc1 => ?_)
  · refine k_iconst (n := 17) (v := -1) F dX9_split_16 rfl rfl ?_
    exact k_iret F (by first | (simp only [f_split, kcold, hc1, if_true, if_false, not_true_eq_false, not_false_eq_true]; done) | (simp only [f_split, kcold, hc1, if_true, if_false, not_true_eq_false, not_false_eq_true]; rfl)) rfl dX9_split_17
  · refine k_aload_n (n := 9) F dX9_split_8 rfl 0 rfl rfl ?_
    refine k_iload_n (n := 10) F dX9_split_9 rfl 2 rfl rfl ?_
    refine k_ciR (n := 13) F (k_rV (k := 1) (b := (ad 0)) (As := [.int y]) (rest := []) F (c_isCooler l g ad (coolF ca (i 2).toNatClampNeg) i l_ a h y) [0, 1, 2, 3, 4, 5, 6, 7, 8, 9, 10, 11, 12, 13, 14] rfl rfl 0 rfl rfl mw_284 mw_281 mw_283 mw_s0 mw_1 (by decide) ⟨by decide, by decide⟩ rfl (Nat.le_of_ble_eq_true rfl) ⟨by decide, by decide⟩ dX9_split_10) [0, 1, 2, 3, 4, 5, 6, 7, 8, 9, 10, 11, 12, 13, 14] rfl rfl ?_
    refine k_if_ne (n := 16) (tgt := 18) F dX9_split_13 (by decide) rfl (fun hc2 => ?_) (fun hc2 => ?_)
    · refine k_iload_n (n := 19) F dX9_split_18 rfl 3 rfl rfl ?_
      refine k_iconst (n := 20) (v := 0) F dX9_split_19 rfl rfl ?_
      refine k_bipush (n := 22) (v := 40) F dX9_split_20 rfl rfl ?_
      refine k_ciR (n := 25) F (k_rS (k := 3) (As := [.int d, .int 0, .int 40]) (rest := []) F (c_within l g d 0 40) [] rfl rfl mw_243 mw_241 mw_242 mw_1 (by decide) ⟨by decide, by decide⟩ rfl (Nat.le_of_ble_eq_true rfl) ⟨by decide, by decide⟩ dX9_split_22) [] rfl rfl ?_
      refine k_if_eq (n := 28) (tgt := 39) F dX9_split_25 (by decide) rfl (fun hc3 => ?_) (fun hc3 => ?_)
      · refine k_iconst (n := 40) (v := -1) F dX9_split_39 rfl rfl ?_
        exact k_iret F (by first | (simp only [f_split, kcold, hc1, hc2, hc3, if_true, if_false, not_true_eq_false, not_false_eq_true]; done) | (simp only [f_split, kcold, hc1, hc2, hc3, if_true, if_false, not_true_eq_false, not_false_eq_true]; rfl)) rfl dX9_split_40
      · refine k_iload (n := 30) F dX9_split_28 4 rfl rfl ?_
        refine k_iconst (n := 31) (v := 0) F dX9_split_30 rfl rfl ?_
        refine k_bipush (n := 33) (v := 20) F dX9_split_31 rfl rfl ?_
        refine k_ciR (n := 36) F (k_rS (k := 3) (As := [.int pr, .int 0, .int 20]) (rest := []) F (c_within l g pr 0 20) [] rfl rfl mw_243 mw_241 mw_242 mw_1 (by decide) ⟨by decide, by decide⟩ rfl (Nat.le_of_ble_eq_true rfl) ⟨by decide, by decide⟩ dX9_split_33) [] rfl rfl ?_
        refine k_if_ne (n := 39) (tgt := 41) F dX9_split_36 (by decide) rfl (fun hc4 => ?_) (fun hc4 => ?_)
        · refine k_aload_n (n := 42) F dX9_split_41 rfl 0 rfl rfl ?_
          refine k_iload_n (n := 43) F dX9_split_42 rfl 1 rfl rfl ?_
          refine k_iload_n (n := 44) F dX9_split_43 rfl 3 rfl rfl ?_
          refine k_ciR (n := 47) F (k_rV (k := 2) (b := (ad 0)) (As := [.int x, .int d]) (rest := []) F (c_coldOf l g ad ca cb i l_ a h x d h2) (List.range (wC g ad (i, l_, a, h) (coolF ca (i 2).toNatClampNeg) ++ coolW g ca cb (a 3) (a 4) (a 5) (i 2).toNatClampNeg).length) (all_is _) (all_nd _) 0 rfl rfl mw_309 mw_306 mw_308 mw_s3 mw_1 (by decide) ⟨by decide, by decide⟩ rfl (Nat.le_of_ble_eq_true rfl) ⟨by decide, by decide⟩ dX9_split_44) (List.range (wC g ad (i, l_, a, h) (coolF ca (i 2).toNatClampNeg) ++ coolW g ca cb (a 3) (a 4) (a 5) (i 2).toNatClampNeg).length) (all_is _) rfl ?_
          refine k_aload_n (n := 48) F dX9_split_47 rfl 0 rfl rfl ?_
          refine k_iload_n (n := 49) F dX9_split_48 rfl 2 rfl rfl ?_
          refine k_iload_n (n := 50) F dX9_split_49 rfl 3 rfl rfl ?_
          refine k_ciR (n := 53) F (k_rV (k := 2) (b := (ad 0)) (As := [.int y, .int d]) (rest := [.int (kcold (i, l_, a, h) x d)]) F (c_coldOf l g ad ca cb i l_ a h y d h2) (List.range (wC g ad (i, l_, a, h) (coolF ca (i 2).toNatClampNeg) ++ coolW g ca cb (a 3) (a 4) (a 5) (i 2).toNatClampNeg).length) (all_is _) (all_nd _) 0 rfl rfl mw_309 mw_306 mw_308 mw_s3 mw_1 (by decide) ⟨by decide, by decide⟩ rfl (Nat.le_of_ble_eq_true rfl) ⟨by decide, by decide⟩ dX9_split_50) (List.range (wC g ad (i, l_, a, h) (coolF ca (i 2).toNatClampNeg) ++ coolW g ca cb (a 3) (a 4) (a 5) (i 2).toNatClampNeg).length) (all_is _) rfl ?_
          refine k_iload (n := 55) F dX9_split_53 4 rfl rfl ?_
          refine k_ciR (n := 58) F (k_rS (k := 3) (As := [.int (kcold (i, l_, a, h) x d), .int (kcold (i, l_, a, h) y d), .int pr]) (rest := []) F (c_bestShare l g (kcold (i, l_, a, h) x d) (kcold (i, l_, a, h) y d) pr) [] rfl rfl mw_564 mw_562 mw_563 mw_1 (by decide) ⟨by decide, by decide⟩ rfl (Nat.le_of_ble_eq_true rfl) ⟨by decide, by decide⟩ dX9_split_55) [] rfl rfl ?_
          exact k_iret F (by first | (simp only [f_split, kcold, hc1, hc2, hc3, hc4, if_true, if_false, not_true_eq_false, not_false_eq_true]; done) | (simp only [f_split, kcold, hc1, hc2, hc3, hc4, if_true, if_false, not_true_eq_false, not_false_eq_true]; rfl)) rfl dX9_split_58
        · refine k_iconst (n := 40) (v := -1) F dX9_split_39 rfl rfl ?_
          exact k_iret F (by first | (simp only [f_split, kcold, hc1, hc2, hc3, hc4, if_true, if_false, not_true_eq_false, not_false_eq_true]; done) | (simp only [f_split, kcold, hc1, hc2, hc3, hc4, if_true, if_false, not_true_eq_false, not_false_eq_true]; rfl)) rfl dX9_split_40
    · refine k_iconst (n := 17) (v := -1) F dX9_split_16 rfl rfl ?_
      exact k_iret F (by first | (simp only [f_split, kcold, hc1, hc2, if_true, if_false, not_true_eq_false, not_false_eq_true]; done) | (simp only [f_split, kcold, hc1, hc2, if_true, if_false, not_true_eq_false, not_false_eq_true]; rfl)) rfl dX9_split_17
