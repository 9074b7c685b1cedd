/-! worlds that tell the same -/
def kSm (g : kG) (w w' : va_W) : Prop := w.map Prod.fst = w'.map Prod.fst ∧ ∀ H : Heap, va_P g.1 vwCl w H → va_P g.1 vwCl w' H
theorem kSm.refl {g : kG} {w : va_W} : kSm g w w := ⟨rfl, fun _ h => h⟩
theorem kSm.of {g : kG} {w w' : va_W} (h : w = w') : kSm g w w' := h ▸ kSm.refl
theorem va_Pl {D : va_G} {cl : List vw_C} {X Y : va_W} {H : Heap} (h : va_P D cl (X ++ Y) H) : va_P D cl X H := fun k q hq => h k q (by
  rw [List.getElem?_append_left (List.getElem?_eq_some_iff.mp hq).1]; exact hq)
theorem va_Pr {D : va_G} {cl : List vw_C} {X Y : va_W} {H : Heap} (h : va_P D cl (X ++ Y) H) : va_P D cl Y H := fun k q hq => h (X.length + k) q (by
  rw [List.getElem?_append_right (by omega), Nat.add_sub_cancel_left]; exact hq)
theorem kSm.app {g : kG} {w w' v v' : va_W} (h1 : kSm g w w') (h2 : kSm g v v') : kSm g (w ++ v) (w' ++ v') :=
  ⟨by rw [List.map_append, List.map_append, h1.1, h2.1], fun H hP => (h1.2 H (va_Pl hP)).app (h2.2 H (va_Pr hP))⟩
theorem kSm_arr {g : kG} {z n : Nat} {cA : ClassId} {f f' : Nat → Int32} (h : ∀ j, j < n → f j = f' j) : kSm g [(z, .inl (cA, n, .inl f))] [(z, .inl (cA, n, .inl f'))] := by
  have e : vp_cell cA (n, .inl f) = vp_cell cA (n, .inl f') := by
    have ee : (fun j : Fin n => Value.int (f j.val)) = fun j => Value.int (f' j.val) := by
      funext j
      rw [h j.val j.isLt]
    simp only [vp_cell_i, arrV, ee]
  refine ⟨rfl, fun H hP k q hq => ?_⟩
  match k, hq with
  | 0, hq =>
    cases Option.some.inj hq
    show H[z]? = some (vp_cell cA (n, .inl f'))
    rw [← e]
    exact hP 0 _ rfl
theorem kSm_coolC {g : kG} {ca cb ca' cb' : Nat → Nat} {k3 k4 k5 k3' k4' k5' : Nat → Int32} {c c' : Nat} (h3 : k3 c = k3' c') (h4 : ∀ j, j < 5 → k4 (5 * c + j) = k4' (5 * c' + j)) (h5 : k5 c = k5' c') (ha : ca c = ca' c') (hb : cb c = cb' c') : kSm g (coolC g ca cb k3 k4 k5 c) (coolC g ca' cb' k3' k4' k5' c') := by
  unfold coolC
  rw [← h3, ← h5, ← ha, ← hb]
  split
  · exact kSm.refl
  · split
    · exact kSm.app (w := [_]) (w' := [_]) kSm.refl (kSm_arr h4)
    · exact kSm.app (w := [_]) (w' := [_]) kSm.refl (kSm_arr h4)
theorem kSm_coolW {g : kG} {ca cb ca' cb' : Nat → Nat} {k3 k4 k5 k3' k4' k5' : Nat → Int32} : ∀ {n : Nat}, (∀ c, c < n → k3 c = k3' c ∧ (∀ j, j < 5 → k4 (5 * c + j) = k4' (5 * c + j)) ∧ k5 c = k5' c ∧ ca c = ca' c ∧ cb c = cb' c) → kSm g (coolW g ca cb k3 k4 k5 n) (coolW g ca' cb' k3' k4' k5' n)
  | 0, _ => kSm.refl
  | n + 1, h => by
    have q := h n (by omega)
    exact (kSm_coolW (fun c hc => h c (by omega))).app (kSm_coolC q.1 q.2.1 q.2.2.1 q.2.2.2.1 q.2.2.2.2)
section
variable {p : Program} {l : Launch} {e : Env} {R : Room} {s : State} {m : MethodId} {args : Array Value} {below : List Frame} {meth : Method} {c : Code} {Q : State → Prop} {g : kG} {A : Nat → Prop} {nL : Nat} {cc : ByteArray} {own : String} {ret0 : Option FieldType} {nm : String} {ws ws' X Y : va_W} {cells slots pc n : Nat} {lv : List (Nat × Value)} {rest st0 : List Value}
theorem k_sm (h : kSm g ws ws') (kk : KW p l e R s m args below meth c Q g A nL ws' cells slots pc lv rest) : KW p l e R s m args below meth c Q g A nL ws cells slots pc lv rest := k_same h.2 h.1 kk
theorem k_swap (kk : KW p l e R s m args below meth c Q g A nL (Y ++ X) cells slots pc lv rest) : KW p l e R s m args below meth c Q g A nL (X ++ Y) cells slots pc lv rest := by
  intro H locs ls hP hD hS hl
  have lft : ∀ (k : Nat) (q : Nat × va_E), X[k]? = some q → (X ++ Y)[k]? = some q := fun k q h => by
    rw [List.getElem?_append_left (List.getElem?_eq_some_iff.mp h).1]; exact h
  have rgt : ∀ (k : Nat) (q : Nat × va_E), Y[k]? = some q → (X ++ Y)[X.length + k]? = some q := fun k q h => by
    rw [List.getElem?_append_right (by omega), Nat.add_sub_cancel_left]; exact h
  have hDX : va_D A X := ⟨fun i j x y hi hj e => hD.1 i j x y (lft i x hi) (lft j y hj) e, fun k q h => hD.2 k q (lft k q h)⟩
  have hDY : va_D A Y := ⟨fun i j x y hi hj e => by have := hD.1 _ _ x y (rgt i x hi) (rgt j y hj) e; omega, fun k q h => hD.2 _ q (rgt k q h)⟩
  refine kk H locs ls ((va_Pr hP).app (va_Pl hP)) (hDY.app hDX (fun i j x y hi hj e => ?_)) hS hl
  have h3 := hD.1 _ _ y x (lft j y hj) (rgt i x hi) e.symm
  have h4 := (List.getElem?_eq_some_iff.mp hj).1
  omega
/-- the cells of a new cooler -/
def coolN (g : kG) (q z : Nat) (k : Int32) (f : Nat → Int32) (lm : Int32) : va_W := coolC g (fun _ => q) (fun _ => z) (fun _ => k) f (fun _ => lm) 0
theorem k_cst {ad : Nat → Nat} {u : kS} {cf : Nat → Option Nat} {tl : va_W} {q z N : Nat} {k lm i : Int32} {f : Nat → Int32} (F : kF p s m args meth c g A nL cc own ret0 nm) (hk : k = 0 ∨ k = 1 ∨ k = 2) (hix : kIx i N 6) (hd : decode cc pc = .ok (.aastore, 1)) (hn : pc + 1 = n) (kk : KW p l e R s m args below meth c Q g A nL ((wC g ad u (va_up cf N (some q)) ++ tl) ++ coolN g q z k f lm) cells slots n lv rest) : KW p l e R s m args below meth c Q g A nL ((wC g ad u cf ++ tl) ++ coolN g q z k f lm) cells slots pc lv (.ref q :: .int i :: .ref (ad 1) :: rest) := by
  have kk2 := k_swap kk
  refine k_swap ?_
  rcases hk with rfl | rfl | rfl
  · exact k_aast0 F 2 0 rfl rfl hix rfl hd hn kk2
  · exact k_aast (r := (RX8, TX8, 1)) F 3 0 rfl nw_28 rfl rfl hix rfl hd hn kk2
  · exact k_aast (r := (RX2, TX2, 2)) F 3 0 rfl nw_29 rfl rfl hix rfl hd hn kk2
end
def upN (f : Nat → Nat) (n v : Nat) : Nat → Nat := fun j => if j = n then v else f j
theorem up5_lo {f : Nat → Int32} {n j : Nat} {x1 x2 x3 x4 x5 : Int32} (h : j < n) : up5 f n x1 x2 x3 x4 x5 j = f j := by
  unfold up5 upd
  rw [if_neg (by omega), if_neg (by omega), if_neg (by omega), if_neg (by omega), if_neg (by omega)]
theorem up5_at {f f' : Nat → Int32} {n n' j : Nat} {x1 x2 x3 x4 x5 : Int32} (h : j < 5) : up5 f n x1 x2 x3 x4 x5 (n + j) = up5 f' n' x1 x2 x3 x4 x5 (n' + j) := by
  unfold up5 upd
  rcases (show j = 0 ∨ j = 1 ∨ j = 2 ∨ j = 3 ∨ j = 4 by omega) with rfl | rfl | rfl | rfl | rfl <;> simp
theorem coolF_up {ca : Nat → Nat} {n q : Nat} : va_up (coolF ca n) n (some q) = coolF (upN ca n q) (n + 1) := by
  funext j
  unfold va_up coolF upN
  by_cases h1 : j = n
  · rw [if_pos h1, if_pos (by omega), if_pos h1]
  · rw [if_neg h1]
    by_cases h2 : j < n
    · rw [if_pos h2, if_pos (by omega), if_neg h1]
    · rw [if_neg h2, if_neg (by omega)]
theorem clamp1 {x : Int32} (h0 : 0 ≤ x) (h6 : x < 6) : (x + 1).toNatClampNeg = x.toNatClampNeg + 1 := by
  obtain ⟨k, hk, rfl⟩ := nI_of (Int32.not_lt.mpr h0)
  have q : ¬ 6 ≤ k := fun q => absurd h6 (Int32.not_lt.mpr (nI_le (a := 6) q hk))
  rw [nI_1, nI_clamp hk, nI_clamp (by omega)]
theorem coo_w {g : kG} {ad ca cb : Nat → Nat} {i : Nat → Int32} {l_ : Nat → Int64} {a : Nat → Nat → Int32} {h : Nat → Int64} {q z : Nat} {k x1 x2 x3 x4 x5 lm : Int32} (h0 : 0 ≤ i 2) (h6 : i 2 < 6) :
    kSm g (wC g ad (upd i 2 (i 2 + 1), l_, a, h) (va_up (coolF ca (i 2).toNatClampNeg) (i 2).toNatClampNeg (some q)) ++ (coolW g ca cb (a 3) (a 4) (a 5) (i 2).toNatClampNeg ++ coolN g q z k (up5 (fun _ => 0) 0 x1 x2 x3 x4 x5) lm)) (wK g ad (upN ca (i 2).toNatClampNeg q) (upN cb (i 2).toNatClampNeg z) (coo_S (i, l_, a, h) k x1 x2 x3 x4 x5 lm)) := by
  have en : ((coo_S (i, l_, a, h) k x1 x2 x3 x4 x5 lm).1 2).toNatClampNeg = (i 2).toNatClampNeg + 1 := clamp1 h0 h6
  unfold wK
  rw [en, coolF_up]
  refine kSm.app (kSm.of rfl) ?_
  show kSm g _ (coolW _ _ _ _ _ _ _ ++ coolC _ _ _ _ _ _ _)
  have e3 : (coo_S (i, l_, a, h) k x1 x2 x3 x4 x5 lm).2.2.1 3 = upd (a 3) (i 2).toNatClampNeg k := rfl
  have e4 : (coo_S (i, l_, a, h) k x1 x2 x3 x4 x5 lm).2.2.1 4 = up5 (a 4) (5 * (i 2).toNatClampNeg) x1 x2 x3 x4 x5 := rfl
  have e5 : (coo_S (i, l_, a, h) k x1 x2 x3 x4 x5 lm).2.2.1 5 = upd (a 5) (i 2).toNatClampNeg lm := rfl
  rw [e3, e4, e5]
  generalize (i 2).toNatClampNeg = n
  refine kSm.app (kSm_coolW (fun c hc => ⟨?_, fun j hj => ?_, ?_, ?_, ?_⟩)) (kSm_coolC ?_ (fun j hj => ?_) ?_ ?_ ?_)
  · unfold upd; rw [if_neg (by omega)]
  · rw [up5_lo (by omega)]
  · unfold upd; rw [if_neg (by omega)]
  · unfold upN; rw [if_neg (by omega)]
  · unfold upN; rw [if_neg (by omega)]
  · unfold upd; rw [if_pos rfl]
  · exact up5_at hj
  · unfold upd; rw [if_pos rfl]
  · unfold upN; rw [if_pos rfl]
  · unfold upN; rw [if_pos rfl]
theorem k012 {k : Int32} (h : ¬ kin k 0 2 = 0) : k = 0 ∨ k = 1 ∨ k = 2 := by
  obtain ⟨a1, a2⟩ := kin_n.mp h
  obtain ⟨j, hj, rfl⟩ := nI_of (Int32.not_lt.mpr a1)
  have h3 : j ≤ 2 := (nI_leI hj (by decide)).mp (show nI j ≤ nI 2 from a2)
  rcases (show j = 0 ∨ j = 1 ∨ j = 2 by omega) with rfl | rfl | rfl
  · exact Or.inl rfl
  · exact Or.inr (Or.inl rfl)
  · exact Or.inr (Or.inr rfl)
set_option maxRecDepth 100000 in
set_option maxHeartbeats 4000000 in
theorem c_build (l : Launch) (g : kG) (k x1 x2 x3 x4 x5 lm : Int32) : kM l yX9_build cX9_build 8 (some (.object "ColdWorks$Throttle")) (rmK 4 2 7 75) g [.int k, .int x1, .int x2, .int x3, .int x4, .int x5, .int lm] [] (kEq g (fun r w => ∃ q z : Nat, r = some q ∧ w = coolN g q z k (up5 (fun _ => 0) 0 x1 x2 x3 x4 x5) lm)) := by
  refine k_enter (by decide) (Nat.le_of_ble_eq_true rfl) ?_
  intro p e s m args below meth c A F
  refine k_iload_n (n := 1) F dX9_build_0 rfl 0 rfl rfl ?_
  refine k_if_ne (n := 4) (tgt := 12) F dX9_build_1 (by decide) rfl (fun hc1 => ?_) (fun hc1 => ?_)
  · refine k_iconst (n := 13) (v := 5) F dX9_build_12 rfl rfl ?_
    refine k_newI (n := 15) (N := 5) F mw_70 (by decide) rfl (by decide) (Nat.le_of_ble_eq_true rfl) (Nat.le_of_ble_eq_true rfl) dX9_build_13 rfl (fun q2 => ?_)
    refine k_world (ws' := [(q2, .inl (g.2 0, 5, .inl (fun _ => 0)))]) rfl ?_
    refine k_dup (n := 16) F dX9_build_15 rfl rfl ?_
    refine k_iconst (n := 17) (v := 0) F dX9_build_16 rfl rfl ?_
    refine k_iload_n (n := 18) F dX9_build_17 rfl 1 rfl rfl ?_
    refine k_iast (n := 19) (N := 0) (ws' := [(q2, .inl (g.2 0, 5, .inl (upd (fun _ => 0) 0 x1)))]) F 0 rfl (kIx_nI (j := 0) (by decide) (by decide)) rfl dX9_build_18 rfl ?_
    refine k_dup (n := 20) F dX9_build_19 rfl rfl ?_
    refine k_iconst (n := 21) (v := 1) F dX9_build_20 rfl rfl ?_
    refine k_iload_n (n := 22) F dX9_build_21 rfl 2 rfl rfl ?_
    refine k_iast (n := 23) (N := 1) (ws' := [(q2, .inl (g.2 0, 5, .inl (upd (upd (fun _ => 0) 0 x1) 1 x2)))]) F 0 rfl (kIx_nI (j := 1) (by decide) (by decide)) rfl dX9_build_22 rfl ?_
    refine k_dup (n := 24) F dX9_build_23 rfl rfl ?_
    refine k_iconst (n := 25) (v := 2) F dX9_build_24 rfl rfl ?_
    refine k_iload_n (n := 26) F dX9_build_25 rfl 3 rfl rfl ?_
    refine k_iast (n := 27) (N := 2) (ws' := [(q2, .inl (g.2 0, 5, .inl (upd (upd (upd (fun _ => 0) 0 x1) 1 x2) 2 x3)))]) F 0 rfl (kIx_nI (j := 2) (by decide) (by decide)) rfl dX9_build_26 rfl ?_
    refine k_dup (n := 28) F dX9_build_27 rfl rfl ?_
    refine k_iconst (n := 29) (v := 3) F dX9_build_28 rfl rfl ?_
    refine k_iload (n := 31) F dX9_build_29 4 rfl rfl ?_
    refine k_iast (n := 32) (N := 3) (ws' := [(q2, .inl (g.2 0, 5, .inl (upd (upd (upd (upd (fun _ => 0) 0 x1) 1 x2) 2 x3) 3 x4)))]) F 0 rfl (kIx_nI (j := 3) (by decide) (by decide)) rfl dX9_build_31 rfl ?_
    refine k_dup (n := 33) F dX9_build_32 rfl rfl ?_
    refine k_iconst (n := 34) (v := 4) F dX9_build_33 rfl rfl ?_
    refine k_iload (n := 36) F dX9_build_34 5 rfl rfl ?_
    refine k_iast (n := 37) (N := 4) (ws' := [(q2, .inl (g.2 0, 5, .inl (upd (upd (upd (upd (upd (fun _ => 0) 0 x1) 1 x2) 2 x3) 3 x4) 4 x5)))]) F 0 rfl (kIx_nI (j := 4) (by decide) (by decide)) rfl dX9_build_36 rfl ?_
    refine k_astore (n := 39) (lv' := [(7, .ref q2), (0, .int k), (1, .int x1), (2, .int x2), (3, .int x3), (4, .int x4), (5, .int x5), (6, .int lm)]) F dX9_build_37 (by decide) rfl rfl ?_
    refine k_iload_n (n := 40) F dX9_build_39 rfl 1 rfl rfl ?_
    refine k_iconst (n := 41) (v := 1) F dX9_build_40 rfl rfl ?_
    refine k_icmp_ne (n := 44) (tgt := 56) F dX9_build_41 (by decide) rfl (fun hc3 => ?_) (fun hc3 => ?_)
    · refine k_new (n := 59) (ci := 2) (fs := [.null, .int 0]) F uX2 tyX2_ok mw_266 mw_267 mw_12 rfl (fun j hj => by match j, hj with | 0, _ => rfl | 1, _ => rfl) (Nat.le_of_ble_eq_true rfl) (Nat.le_of_ble_eq_true rfl) dX9_build_56 rfl (fun q4 => ?_)
      refine k_world (ws' := [(q2, .inl (g.2 0, 5, .inl (upd (upd (upd (upd (upd (fun _ => 0) 0 x1) 1 x2) 2 x3) 3 x4) 4 x5))), (q4, .inr (2, [.null, .int 0]))]) rfl ?_
      refine k_dup (n := 60) F dX9_build_59 rfl rfl ?_
      refine k_aload (n := 62) F dX9_build_60 0 rfl rfl ?_
      refine k_iload (n := 64) F dX9_build_62 7 rfl rfl ?_
      refine k_cv (n := 67) (ws' := [(q2, .inl (g.2 0, 5, .inl (upd (upd (upd (upd (upd (fun _ => 0) 0 x1) 1 x2) 2 x3) 3 x4) 4 x5))), (q4, .inr (2, [.ref q2, .int lm]))]) F (k_rI (k := 2) (b := q4) (As := [.ref q2, .int lm]) (rest := [.ref q4]) F (c_iBraked l g q4 q2 lm) [1] rfl rfl mw_270 mw_268 mw_269 mw_12 rfl (by decide) ⟨by decide, by decide⟩ rfl (Nat.le_of_ble_eq_true rfl) ⟨by decide, by decide⟩ dX9_build_64) [1] [0] [0, 1] rfl rfl rfl (by decide) rfl rfl rfl ?_
      refine k_sub (ws' := [(q4, .inr (2, [.ref q2, .int lm])), (q2, .inl (g.2 0, 5, .inl (upd (upd (upd (upd (upd (fun _ => 0) 0 x1) 1 x2) 2 x3) 3 x4) 4 x5)))]) [1, 0] rfl rfl ?_
      refine k_widen (a := 2) (b := 7) (Nat.le_of_ble_eq_true rfl) (Nat.le_of_ble_eq_true rfl) ?_
      exact k_aretE (v := some q4) F ⟨q4, q2, rfl, by rw [coolN, coolC_2 hc1 hc3]; simp only [Nat.mul_zero, Nat.zero_add]; rfl⟩ dX9_build_67
    · refine k_new (n := 47) (ci := 8) (fs := [.null]) F uX8 tyX8_ok mw_256 mw_257 mw_11 rfl (fun j hj => by match j, hj with | 0, _ => rfl) (Nat.le_of_ble_eq_true rfl) (Nat.le_of_ble_eq_true rfl) dX9_build_44 rfl (fun q5 => ?_)
      refine k_world (ws' := [(q2, .inl (g.2 0, 5, .inl (upd (upd (upd (upd (upd (fun _ => 0) 0 x1) 1 x2) 2 x3) 3 x4) 4 x5))), (q5, .inr (8, [.null]))]) rfl ?_
      refine k_dup (n := 48) F dX9_build_47 rfl rfl ?_
      refine k_aload (n := 50) F dX9_build_48 0 rfl rfl ?_
      refine k_cv (n := 53) (ws' := [(q2, .inl (g.2 0, 5, .inl (upd (upd (upd (upd (upd (fun _ => 0) 0 x1) 1 x2) 2 x3) 3 x4) 4 x5))), (q5, .inr (8, [.ref q2]))]) F (k_rI (k := 1) (b := q5) (As := [.ref q2]) (rest := [.ref q5]) F (c_iWheel_8 l g q5 q2) [1] rfl rfl mw_260 mw_258 mw_259 mw_11 rfl (by decide) ⟨by decide, by decide⟩ rfl (Nat.le_of_ble_eq_true rfl) ⟨by decide, by decide⟩ dX9_build_50) [1] [0] [0, 1] rfl rfl rfl (by decide) rfl rfl rfl ?_
      refine k_goto (tgt := 67) F dX9_build_53 (by decide) ?_
      refine k_sub (ws' := [(q5, .inr (8, [.ref q2])), (q2, .inl (g.2 0, 5, .inl (upd (upd (upd (upd (upd (fun _ => 0) 0 x1) 1 x2) 2 x3) 3 x4) 4 x5)))]) [1, 0] rfl rfl ?_
      refine k_widen (a := 2) (b := 7) (Nat.le_of_ble_eq_true rfl) (Nat.le_of_ble_eq_true rfl) ?_
      exact k_aretE (v := some q5) F ⟨q5, q2, rfl, by rw [coolN, coolC_1 hc1 hc3]; simp only [Nat.mul_zero, Nat.zero_add]; rfl⟩ dX9_build_67
  · refine k_new (n := 7) (ci := 7) (fs := []) F uX7 tyX7_ok mw_23 mw_250 mw_10 rfl (fun j hj => absurd hj (Nat.not_lt_zero j)) (Nat.le_of_ble_eq_true rfl) (Nat.le_of_ble_eq_true rfl) dX9_build_4 rfl (fun q6 => ?_)
    refine k_world (ws' := [(q6, .inr (7, []))]) rfl ?_
    refine k_dup (n := 8) F dX9_build_7 rfl rfl ?_
    refine k_cv (n := 11) (ws' := [(q6, .inr (7, []))]) F (k_rIN (k := 0) (b := q6) (As := []) (rest := [.ref q6]) F (c_iThrottle_7 l g q6) [0] rfl rfl mw_253 nw_26 mw_252 mw_10 rfl (by decide) ⟨by decide, by decide⟩ rfl (Nat.le_of_ble_eq_true rfl) ⟨by decide, by decide⟩ dX9_build_8) [0] [] [0] rfl rfl rfl (by decide) rfl rfl rfl ?_
    refine k_widen (a := 2) (b := 7) (Nat.le_of_ble_eq_true rfl) (Nat.le_of_ble_eq_true rfl) ?_
    exact k_aretE (v := some q6) F ⟨q6, 0, rfl, by rw [coolN, coolC_0 hc1]⟩ dX9_build_11
set_option maxRecDepth 100000 in
set_option maxHeartbeats 4000000 in
theorem c_cooler (l : Launch) (g : kG) (ad ca cb : Nat → Nat) (i : Nat → Int32) (l_ : Nat → Int64) (a : Nat → Nat → Int32) (h : Nat → Int64) (k x1 x2 x3 x4 x5 lm : Int32) (h2 : 0 ≤ i 2 ∧ i 2 ≤ 6) : kM l yX9_cooler cX9_cooler 8 (some .int) (rmK 5 2 7 102) g [.ref ((ad 0)), .int k, .int x1, .int x2, .int x3, .int x4, .int x5, .int lm] (wK g ad ca cb (i, l_, a, h)) (kEi g (fun r w => r = (f_cooler (i, l_, a, h) k x1 x2 x3 x4 x5 lm).1 ∧ ∃ ca2 cb2 : Nat → Nat, w = wK g ad ca2 cb2 (f_cooler (i, l_, a, h) k x1 x2 x3 x4 x5 lm).2)) := by
  refine k_enter (by decide) (Nat.le_of_ble_eq_true rfl) ?_
  intro p e s m args below meth c A F
  refine k_world (ws' := (wC g ad (i, l_, a, h) (coolF ca (i 2).toNatClampNeg) ++ coolW g ca cb (a 3) (a 4) (a 5) (i 2).toNatClampNeg)) rfl ?_
  refine k_iload_n (n := 1) F dX9_cooler_0 rfl 1 rfl rfl ?_
  refine k_iconst (n := 2) (v := 0) F dX9_cooler_1 rfl rfl ?_
  refine k_iconst (n := 3) (v := 2) F dX9_cooler_2 rfl rfl ?_
  refine k_ciR (n := 6) F (k_rS (k := 3) (As := [.int k, .int 0, .int 2]) (rest := []) F (c_within l g k 0 2) [] rfl rfl mw_243 mw_241 mw_242 mw_1 (by decide) ⟨by decide, by decide⟩ rfl (Nat.le_of_ble_eq_true rfl) ⟨by decide, by decide⟩ dX9_cooler_3) [] rfl rfl ?_
  refine k_if_ne (n := 9) (tgt := 11) F dX9_cooler_6 (by decide) rfl (fun hc1 => ?_) (fun hc1 => ?_)
  · refine k_iload_n (n := 12) F dX9_cooler_11 rfl 1 rfl rfl ?_
    refine k_if_eq (n := 15) (tgt := 31) F dX9_cooler_12 (by decide) rfl (fun hc2 => ?_) (fun hc2 => ?_)
    · refine k_iload_n (n := 32) F dX9_cooler_31 rfl 1 rfl rfl ?_
      refine k_iconst (n := 33) (v := 2) F dX9_cooler_32 rfl rfl ?_
      refine k_icmp_ne (n := 36) (tgt := 49) F dX9_cooler_33 (by decide) rfl (fun _ => ?_) (fun h9 => absurd (hc2.symm.trans h9) (by decide))
      refine k_aload_n (n := 50) F dX9_cooler_49 rfl 0 rfl rfl ?_
      refine k_get (n := 53) (v := .int (i 2)) F uX9 0 7 rfl rfl (by decide) mw_203 rfl dX9_cooler_50 rfl ?_
      refine k_bipush (n := 55) (v := 6) F dX9_cooler_53 rfl rfl ?_
      refine k_icmp_lt (n := 58) (tgt := 61) F dX9_cooler_55 (by decide) rfl (fun hc3 => ?_) (fun hc3 => ?_)
      · refine k_aload_n (n := 62) F dX9_cooler_61 rfl 0 rfl rfl ?_
        refine k_get (n := 65) (v := .ref ((ad 1))) F uX9 0 0 rfl rfl (by decide) mw_196 rfl dX9_cooler_62 rfl ?_
        refine k_aload_n (n := 66) F dX9_cooler_65 rfl 0 rfl rfl ?_
        refine k_get (n := 69) (v := .int (i 2)) F uX9 0 7 rfl rfl (by decide) mw_203 rfl dX9_cooler_66 rfl ?_
        refine k_iload_n (n := 70) F dX9_cooler_69 rfl 1 rfl rfl ?_
        refine k_iload_n (n := 71) F dX9_cooler_70 rfl 2 rfl rfl ?_
        refine k_iload_n (n := 72) F dX9_cooler_71 rfl 3 rfl rfl ?_
        refine k_iload (n := 74) F dX9_cooler_72 4 rfl rfl ?_
        refine k_iload (n := 76) F dX9_cooler_74 5 rfl rfl ?_
        refine k_iload (n := 78) F dX9_cooler_76 6 rfl rfl ?_
        refine k_iload (n := 80) F dX9_cooler_78 7 rfl rfl ?_
        refine k_eq (n := 83) (wr := (wC g ad (i, l_, a, h) (coolF ca (i 2).toNatClampNeg) ++ coolW g ca cb (a 3) (a 4) (a 5) (i 2).toNatClampNeg)) F (k_rS (k := 7) (As := [.int k, .int x1, .int x2, .int x3, .int x4, .int x5, .int lm]) (rest := [.int (i 2), .ref ((ad 1))]) F (c_build l g k x1 x2 x3 x4 x5 lm) [] rfl rfl mw_249 mw_247 mw_248 mw_1 (by decide) ⟨by decide, by decide⟩ rfl (Nat.le_of_ble_eq_true rfl) ⟨by decide, by decide⟩ dX9_cooler_80) [] (List.range (wC g ad (i, l_, a, h) (coolF ca (i 2).toNatClampNeg) ++ coolW g ca cb (a 3) (a 4) (a 5) (i 2).toNatClampNeg).length) rfl (all_is _) (all_nd _) (fun _ _ h9 => nomatch h9) rfl ?_
        intro r9 u9 hu9
        obtain ⟨qn, zn, rfl, rfl⟩ := hu9
        refine k_valV (y := .ref qn) rfl ?_
        refine k_cst (n := 84) F (k012 hc1) (ixs6 h2.1 hc3) dX9_cooler_83 rfl ?_
        refine k_world (ws' := (wC g ad (i, l_, a, h) (va_up (coolF ca (i 2).toNatClampNeg) (i 2).toNatClampNeg (some qn)) ++ (coolW g ca cb (a 3) (a 4) (a 5) (i 2).toNatClampNeg ++ coolN g qn zn k (up5 (fun _ => 0) 0 x1 x2 x3 x4 x5) lm))) (List.append_assoc _ _ _) ?_
        refine k_aload_n (n := 85) F dX9_cooler_84 rfl 0 rfl rfl ?_
        refine k_dup (n := 86) F dX9_cooler_85 rfl rfl ?_
        refine k_get (n := 89) (v := .int (i 2)) F uX9 0 7 rfl rfl (by decide) mw_203 rfl dX9_cooler_86 rfl ?_
        refine k_iconst (n := 90) (v := 1) F dX9_cooler_89 rfl rfl ?_
        refine k_iadd (n := 91) F dX9_cooler_90 rfl ?_
        refine k_put (n := 94) (ws' := (wC g ad (upd i 2 ((i 2) + 1), l_, a, h) (va_up (coolF ca (i 2).toNatClampNeg) (i 2).toNatClampNeg (some qn)) ++ (coolW g ca cb (a 3) (a 4) (a 5) (i 2).toNatClampNeg ++ coolN g qn zn k (up5 (fun _ => 0) 0 x1 x2 x3 x4 x5) lm))) F uX9 tyX9_ok nmX9 0 7 rfl rfl (by decide) mw_203 rfl rfl rfl (Nat.le_of_ble_eq_true rfl) rfl dX9_cooler_91 rfl ?_
        refine k_aload_n (n := 95) F dX9_cooler_94 rfl 0 rfl rfl ?_
        refine k_get (n := 98) (v := .int ((i 2) + 1)) F uX9 0 7 rfl rfl (by decide) mw_203 rfl dX9_cooler_95 rfl ?_
        refine k_iconst (n := 99) (v := 1) F dX9_cooler_98 rfl rfl ?_
        refine k_isub (n := 100) F dX9_cooler_99 rfl ?_
        have eF : f_cooler (i, l_, a, h) k x1 x2 x3 x4 x5 lm = (i 2 + 1 - 1, coo_S (i, l_, a, h) k x1 x2 x3 x4 x5 lm) := (if_neg (coo_n hc1 (Or.inl hc2) (Or.inl (fun q9 => absurd (hc2.symm.trans q9) (by decide))))).trans (if_pos hc3)
        refine k_sm (coo_w h2.1 hc3) ?_
        exact k_iretE F ⟨by rw [eF], _, _, by rw [eF]⟩ dX9_cooler_100
      · refine k_bipush (n := 60) (v := -3) F dX9_cooler_58 rfl rfl ?_
        have eF : f_cooler (i, l_, a, h) k x1 x2 x3 x4 x5 lm = (-3, (i, l_, a, h)) := (if_neg (coo_n hc1 (Or.inl hc2) (Or.inl (fun q9 => absurd (hc2.symm.trans q9) (by decide))))).trans (if_neg hc3)
        refine k_world (ws' := (wK g ad ca cb (i, l_, a, h))) rfl ?_
        refine k_widen (a := 2) (b := 7) (Nat.le_of_ble_eq_true rfl) (Nat.le_of_ble_eq_true rfl) ?_
        exact k_iretE F ⟨by rw [eF], ca, cb, by rw [eF]⟩ dX9_cooler_60
    · refine k_iload_n (n := 16) F dX9_cooler_15 rfl 2 rfl rfl ?_
      refine k_iload_n (n := 17) F dX9_cooler_16 rfl 3 rfl rfl ?_
      refine k_iload (n := 19) F dX9_cooler_17 4 rfl rfl ?_
      refine k_iload (n := 21) F dX9_cooler_19 5 rfl rfl ?_
      refine k_iload (n := 23) F dX9_cooler_21 6 rfl rfl ?_
      refine k_ciR (n := 26) F (k_rS (k := 5) (As := [.int x1, .int x2, .int x3, .int x4, .int x5]) (rest := []) F (c_areCorners l g x1 x2 x3 x4 x5) [] rfl rfl mw_246 mw_244 mw_245 mw_1 (by decide) ⟨by decide, by decide⟩ rfl (Nat.le_of_ble_eq_true rfl) ⟨by decide, by decide⟩ dX9_cooler_23) [] rfl rfl ?_
      refine k_if_ne (n := 29) (tgt := 31) F dX9_cooler_26 (by decide) rfl (fun hc4 => ?_) (fun hc4 => ?_)
      · refine k_iload_n (n := 32) F dX9_cooler_31 rfl 1 rfl rfl ?_
        refine k_iconst (n := 33) (v := 2) F dX9_cooler_32 rfl rfl ?_
        refine k_icmp_ne (n := 36) (tgt := 49) F dX9_cooler_33 (by decide) rfl (fun hc5 => ?_) (fun hc5 => ?_)
        · refine k_aload_n (n := 50) F dX9_cooler_49 rfl 0 rfl rfl ?_
          refine k_get (n := 53) (v := .int (i 2)) F uX9 0 7 rfl rfl (by decide) mw_203 rfl dX9_cooler_50 rfl ?_
          refine k_bipush (n := 55) (v := 6) F dX9_cooler_53 rfl rfl ?_
          refine k_icmp_lt (n := 58) (tgt := 61) F dX9_cooler_55 (by decide) rfl (fun hc6 => ?_) (fun hc6 => ?_)
          · refine k_aload_n (n := 62) F dX9_cooler_61 rfl 0 rfl rfl ?_
            refine k_get (n := 65) (v := .ref ((ad 1))) F uX9 0 0 rfl rfl (by decide) mw_196 rfl dX9_cooler_62 rfl ?_
            refine k_aload_n (n := 66) F dX9_cooler_65 rfl 0 rfl rfl ?_
            refine k_get (n := 69) (v := .int (i 2)) F uX9 0 7 rfl rfl (by decide) mw_203 rfl dX9_cooler_66 rfl ?_
            refine k_iload_n (n := 70) F dX9_cooler_69 rfl 1 rfl rfl ?_
            refine k_iload_n (n := 71) F dX9_cooler_70 rfl 2 rfl rfl ?_
            refine k_iload_n (n := 72) F dX9_cooler_71 rfl 3 rfl rfl ?_
            refine k_iload (n := 74) F dX9_cooler_72 4 rfl rfl ?_
            refine k_iload (n := 76) F dX9_cooler_74 5 rfl rfl ?_
            refine k_iload (n := 78) F dX9_cooler_76 6 rfl rfl ?_
            refine k_iload (n := 80) F dX9_cooler_78 7 rfl rfl ?_
            refine k_eq (n := 83) (wr := (wC g ad (i, l_, a, h) (coolF ca (i 2).toNatClampNeg) ++ coolW g ca cb (a 3) (a 4) (a 5) (i 2).toNatClampNeg)) F (k_rS (k := 7) (As := [.int k, .int x1, .int x2, .int x3, .int x4, .int x5, .int lm]) (rest := [.int (i 2), .ref ((ad 1))]) F (c_build l g k x1 x2 x3 x4 x5 lm) [] rfl rfl mw_249 mw_247 mw_248 mw_1 (by decide) ⟨by decide, by decide⟩ rfl (Nat.le_of_ble_eq_true rfl) ⟨by decide, by decide⟩ dX9_cooler_80) [] (List.range (wC g ad (i, l_, a, h) (coolF ca (i 2).toNatClampNeg) ++ coolW g ca cb (a 3) (a 4) (a 5) (i 2).toNatClampNeg).length) rfl (all_is _) (all_nd _) (fun _ _ h9 => nomatch h9) rfl ?_
            intro r9 u9 hu9
            obtain ⟨qn, zn, rfl, rfl⟩ := hu9
            refine k_valV (y := .ref qn) rfl ?_
            refine k_cst (n := 84) F (k012 hc1) (ixs6 h2.1 hc6) dX9_cooler_83 rfl ?_
            refine k_world (ws' := (wC g ad (i, l_, a, h) (va_up (coolF ca (i 2).toNatClampNeg) (i 2).toNatClampNeg (some qn)) ++ (coolW g ca cb (a 3) (a 4) (a 5) (i 2).toNatClampNeg ++ coolN g qn zn k (up5 (fun _ => 0) 0 x1 x2 x3 x4 x5) lm))) (List.append_assoc _ _ _) ?_
            refine k_aload_n (n := 85) F dX9_cooler_84 rfl 0 rfl rfl ?_
            refine k_dup (n := 86) F dX9_cooler_85 rfl rfl ?_
            refine k_get (n := 89) (v := .int (i 2)) F uX9 0 7 rfl rfl (by decide) mw_203 rfl dX9_cooler_86 rfl ?_
            refine k_iconst (n := 90) (v := 1) F dX9_cooler_89 rfl rfl ?_
            refine k_iadd (n := 91) F dX9_cooler_90 rfl ?_
            refine k_put (n := 94) (ws' := (wC g ad (upd i 2 ((i 2) + 1), l_, a, h) (va_up (coolF ca (i 2).toNatClampNeg) (i 2).toNatClampNeg (some qn)) ++ (coolW g ca cb (a 3) (a 4) (a 5) (i 2).toNatClampNeg ++ coolN g qn zn k (up5 (fun _ => 0) 0 x1 x2 x3 x4 x5) lm))) F uX9 tyX9_ok nmX9 0 7 rfl rfl (by decide) mw_203 rfl rfl rfl (Nat.le_of_ble_eq_true rfl) rfl dX9_cooler_91 rfl ?_
            refine k_aload_n (n := 95) F dX9_cooler_94 rfl 0 rfl rfl ?_
            refine k_get (n := 98) (v := .int ((i 2) + 1)) F uX9 0 7 rfl rfl (by decide) mw_203 rfl dX9_cooler_95 rfl ?_
            refine k_iconst (n := 99) (v := 1) F dX9_cooler_98 rfl rfl ?_
            refine k_isub (n := 100) F dX9_cooler_99 rfl ?_
            have eF : f_cooler (i, l_, a, h) k x1 x2 x3 x4 x5 lm = (i 2 + 1 - 1, coo_S (i, l_, a, h) k x1 x2 x3 x4 x5 lm) := (if_neg (coo_n hc1 (Or.inr hc4) (Or.inl hc5))).trans (if_pos hc6)
            refine k_sm (coo_w h2.1 hc6) ?_
            exact k_iretE F ⟨by rw [eF], _, _, by rw [eF]⟩ dX9_cooler_100
          · refine k_bipush (n := 60) (v := -3) F dX9_cooler_58 rfl rfl ?_
            have eF : f_cooler (i, l_, a, h) k x1 x2 x3 x4 x5 lm = (-3, (i, l_, a, h)) := (if_neg (coo_n hc1 (Or.inr hc4) (Or.inl hc5))).trans (if_neg hc6)
            refine k_world (ws' := (wK g ad ca cb (i, l_, a, h))) rfl ?_
            refine k_widen (a := 2) (b := 7) (Nat.le_of_ble_eq_true rfl) (Nat.le_of_ble_eq_true rfl) ?_
            exact k_iretE F ⟨by rw [eF], ca, cb, by rw [eF]⟩ dX9_cooler_60
        · refine k_iload (n := 38) F dX9_cooler_36 7 rfl rfl ?_
          refine k_iconst (n := 39) (v := 0) F dX9_cooler_38 rfl rfl ?_
          refine k_bipush (n := 41) (v := 60) F dX9_cooler_39 rfl rfl ?_
          refine k_ciR (n := 44) F (k_rS (k := 3) (As := [.int lm, .int 0, .int 60]) (rest := []) F (c_within l g lm 0 60) [] rfl rfl mw_243 mw_241 mw_242 mw_1 (by decide) ⟨by decide, by decide⟩ rfl (Nat.le_of_ble_eq_true rfl) ⟨by decide, by decide⟩ dX9_cooler_41) [] rfl rfl ?_
          refine k_if_ne (n := 47) (tgt := 49) F dX9_cooler_44 (by decide) rfl (fun hc7 => ?_) (fun hc7 => ?_)
          · refine k_aload_n (n := 50) F dX9_cooler_49 rfl 0 rfl rfl ?_
            refine k_get (n := 53) (v := .int (i 2)) F uX9 0 7 rfl rfl (by decide) mw_203 rfl dX9_cooler_50 rfl ?_
            refine k_bipush (n := 55) (v := 6) F dX9_cooler_53 rfl rfl ?_
            refine k_icmp_lt (n := 58) (tgt := 61) F dX9_cooler_55 (by decide) rfl (fun hc8 => ?_) (fun hc8 => ?_)
            · refine k_aload_n (n := 62) F dX9_cooler_61 rfl 0 rfl rfl ?_
              refine k_get (n := 65) (v := .ref ((ad 1))) F uX9 0 0 rfl rfl (by decide) mw_196 rfl dX9_cooler_62 rfl ?_
              refine k_aload_n (n := 66) F dX9_cooler_65 rfl 0 rfl rfl ?_
              refine k_get (n := 69) (v := .int (i 2)) F uX9 0 7 rfl rfl (by decide) mw_203 rfl dX9_cooler_66 rfl ?_
              refine k_iload_n (n := 70) F dX9_cooler_69 rfl 1 rfl rfl ?_
              refine k_iload_n (n := 71) F dX9_cooler_70 rfl 2 rfl rfl ?_
              refine k_iload_n (n := 72) F dX9_cooler_71 rfl 3 rfl rfl ?_
              refine k_iload (n := 74) F dX9_cooler_72 4 rfl rfl ?_
              refine k_iload (n := 76) F dX9_cooler_74 5 rfl rfl ?_
              refine k_iload (n := 78) F dX9_cooler_76 6 rfl rfl ?_
              refine k_iload (n := 80) F dX9_cooler_78 7 rfl rfl ?_
              refine k_eq (n := 83) (wr := (wC g ad (i, l_, a, h) (coolF ca (i 2).toNatClampNeg) ++ coolW g ca cb (a 3) (a 4) (a 5) (i 2).toNatClampNeg)) F (k_rS (k := 7) (As := [.int k, .int x1, .int x2, .int x3, .int x4, .int x5, .int lm]) (rest := [.int (i 2), .ref ((ad 1))]) F (c_build l g k x1 x2 x3 x4 x5 lm) [] rfl rfl mw_249 mw_247 mw_248 mw_1 (by decide) ⟨by decide, by decide⟩ rfl (Nat.le_of_ble_eq_true rfl) ⟨by decide, by decide⟩ dX9_cooler_80) [] (List.range (wC g ad (i, l_, a, h) (coolF ca (i 2).toNatClampNeg) ++ coolW g ca cb (a 3) (a 4) (a 5) (i 2).toNatClampNeg).length) rfl (all_is _) (all_nd _) (fun _ _ h9 => nomatch h9) rfl ?_
              intro r9 u9 hu9
              obtain ⟨qn, zn, rfl, rfl⟩ := hu9
              refine k_valV (y := .ref qn) rfl ?_
              refine k_cst (n := 84) F (k012 hc1) (ixs6 h2.1 hc8) dX9_cooler_83 rfl ?_
              refine k_world (ws' := (wC g ad (i, l_, a, h) (va_up (coolF ca (i 2).toNatClampNeg) (i 2).toNatClampNeg (some qn)) ++ (coolW g ca cb (a 3) (a 4) (a 5) (i 2).toNatClampNeg ++ coolN g qn zn k (up5 (fun _ => 0) 0 x1 x2 x3 x4 x5) lm))) (List.append_assoc _ _ _) ?_
              refine k_aload_n (n := 85) F dX9_cooler_84 rfl 0 rfl rfl ?_
              refine k_dup (n := 86) F dX9_cooler_85 rfl rfl ?_
              refine k_get (n := 89) (v := .int (i 2)) F uX9 0 7 rfl rfl (by decide) mw_203 rfl dX9_cooler_86 rfl ?_
              refine k_iconst (n := 90) (v := 1) F dX9_cooler_89 rfl rfl ?_
              refine k_iadd (n := 91) F dX9_cooler_90 rfl ?_
              refine k_put (n := 94) (ws' := (wC g ad (upd i 2 ((i 2) + 1), l_, a, h) (va_up (coolF ca (i 2).toNatClampNeg) (i 2).toNatClampNeg (some qn)) ++ (coolW g ca cb (a 3) (a 4) (a 5) (i 2).toNatClampNeg ++ coolN g qn zn k (up5 (fun _ => 0) 0 x1 x2 x3 x4 x5) lm))) F uX9 tyX9_ok nmX9 0 7 rfl rfl (by decide) mw_203 rfl rfl rfl (Nat.le_of_ble_eq_true rfl) rfl dX9_cooler_91 rfl ?_
              refine k_aload_n (n := 95) F dX9_cooler_94 rfl 0 rfl rfl ?_
              refine k_get (n := 98) (v := .int ((i 2) + 1)) F uX9 0 7 rfl rfl (by decide) mw_203 rfl dX9_cooler_95 rfl ?_
              refine k_iconst (n := 99) (v := 1) F dX9_cooler_98 rfl rfl ?_
              refine k_isub (n := 100) F dX9_cooler_99 rfl ?_
              have eF : f_cooler (i, l_, a, h) k x1 x2 x3 x4 x5 lm = (i 2 + 1 - 1, coo_S (i, l_, a, h) k x1 x2 x3 x4 x5 lm) := (if_neg (coo_n hc1 (Or.inr hc4) (Or.inr hc7))).trans (if_pos hc8)
              refine k_sm (coo_w h2.1 hc8) ?_
              exact k_iretE F ⟨by rw [eF], _, _, by rw [eF]⟩ dX9_cooler_100
            · refine k_bipush (n := 60) (v := -3) F dX9_cooler_58 rfl rfl ?_
              have eF : f_cooler (i, l_, a, h) k x1 x2 x3 x4 x5 lm = (-3, (i, l_, a, h)) := (if_neg (coo_n hc1 (Or.inr hc4) (Or.inr hc7))).trans (if_neg hc8)
              refine k_world (ws' := (wK g ad ca cb (i, l_, a, h))) rfl ?_
              refine k_widen (a := 2) (b := 7) (Nat.le_of_ble_eq_true rfl) (Nat.le_of_ble_eq_true rfl) ?_
              exact k_iretE F ⟨by rw [eF], ca, cb, by rw [eF]⟩ dX9_cooler_60
          · refine k_iconst (n := 48) (v := -1) F dX9_cooler_47 rfl rfl ?_
            have eF : f_cooler (i, l_, a, h) k x1 x2 x3 x4 x5 lm = (-1, (i, l_, a, h)) := if_pos (coo_c hc5 hc7)
            refine k_world (ws' := (wK g ad ca cb (i, l_, a, h))) rfl ?_
            refine k_widen (a := 2) (b := 7) (Nat.le_of_ble_eq_true rfl) (Nat.le_of_ble_eq_true rfl) ?_
            exact k_iretE F ⟨by rw [eF], ca, cb, by rw [eF]⟩ dX9_cooler_48
      · refine k_iconst (n := 30) (v := -1) F dX9_cooler_29 rfl rfl ?_
        have eF : f_cooler (i, l_, a, h) k x1 x2 x3 x4 x5 lm = (-1, (i, l_, a, h)) := if_pos (coo_b hc2 hc4)
        refine k_world (ws' := (wK g ad ca cb (i, l_, a, h))) rfl ?_
        refine k_widen (a := 2) (b := 7) (Nat.le_of_ble_eq_true rfl) (Nat.le_of_ble_eq_true rfl) ?_
        exact k_iretE F ⟨by rw [eF], ca, cb, by rw [eF]⟩ dX9_cooler_30
  · refine k_iconst (n := 10) (v := -1) F dX9_cooler_9 rfl rfl ?_
    have eF : f_cooler (i, l_, a, h) k x1 x2 x3 x4 x5 lm = (-1, (i, l_, a, h)) := if_pos (coo_a hc1)
    refine k_world (ws' := (wK g ad ca cb (i, l_, a, h))) rfl ?_
    refine k_widen (a := 2) (b := 7) (Nat.le_of_ble_eq_true rfl) (Nat.le_of_ble_eq_true rfl) ?_
    exact k_iretE F ⟨by rw [eF], ca, cb, by rw [eF]⟩ dX9_cooler_10
