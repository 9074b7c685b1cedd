theorem va_joinT {A0 : Nat → Prop} {D : va_G} {cl : List vw_C} {ws tl wc w0 ws' : va_W} {H H1 : Heap} (hP : va_P D cl (ws ++ tl) H) (hD : va_D A0 (ws ++ tl)) (isC isR is : List Nat) (hC : isC.map (fun i => ws[i]?) = wc.map some) (hR : isR.map (fun i => ws[i]?) = (isR.filterMap (fun i => ws[i]?)).map some) (hnR : va_nd isR = true) (hdis : ∀ i ∈ isR, i ∉ isC) (hw' : is.map (fun i => (isR.filterMap (fun i => ws[i]?) ++ w0)[i]?) = ws'.map some) (hn' : va_nd is = true)
    (hk : ∀ q : Nat, q < H.size → ¬ va_A wc H.size q → H1[q]? = H[q]?) (hF : ∀ q, va_A wc H.size q → A0 q) (hP1 : va_P D cl w0 H1) (hD1 : va_D (va_A wc H.size) w0) : va_P D cl (ws' ++ tl) H1 ∧ va_D A0 (ws' ++ tl) := by
  have lft : ∀ (k : Nat) (q : Nat × va_E), ws[k]? = some q → (ws ++ tl)[k]? = some q := fun k q h => by
    rw [List.getElem?_append_left (List.getElem?_eq_some_iff.mp h).1]; exact h
  have rgt : ∀ (k : Nat) (q : Nat × va_E), tl[k]? = some q → (ws ++ tl)[ws.length + k]? = some q := fun k q h => by
    rw [List.getElem?_append_right (by omega), Nat.add_sub_cancel_left]; exact h
  have hPw : va_P D cl ws H := fun k q h => hP k q (lft k q h)
  have hDw : va_D A0 ws := ⟨fun i j x y hi hj e => hD.1 i j x y (lft i x hi) (lft j y hj) e, fun k q h => hD.2 k q (lft k q h)⟩
  obtain ⟨hP2, hD2⟩ := va_join hPw hDw isC isR hC hR hnR hdis hk hF hP1 hD1
  have hP3 := hP2.sub is (kfm hw')
  have hD3 := hD2.sub is hn' hw'
  have from_ : ∀ {js : List Nat} {w src : va_W}, js.map (fun i => src[i]?) = w.map some → ∀ (k : Nat) (q : Nat × va_E), w[k]? = some q → ∃ i : Nat, src[i]? = some q := by
    intro js w src hs k q hq
    have h1 : (js.map (fun i => src[i]?))[k]? = some (some q) := by rw [hs, List.getElem?_map, hq]; rfl
    rw [List.getElem?_map] at h1
    cases hi : js[k]? with
    | none => rw [hi] at h1; cases h1
    | some i => rw [hi] at h1; exact ⟨i, Option.some.inj h1⟩
  have apart : ∀ (i k : Nat) (x q : Nat × va_E), ws[i]? = some x → tl[k]? = some q → x.1 ≠ q.1 := by
    intro i k x q hi hk2 e
    have h3 := hD.1 i (ws.length + k) x q (lft i x hi) (rgt k q hk2) e
    have h4 := (List.getElem?_eq_some_iff.mp hi).1
    omega
  have tout : ∀ (k : Nat) (q : Nat × va_E), tl[k]? = some q → ¬ va_A wc H.size q.1 := by
    intro k q hq h
    rcases h with ⟨k2, e2, h2⟩ | h2
    · obtain ⟨i, hi⟩ := from_ hC k2 _ h2
      exact apart i k _ q hi hq rfl
    · have := (hP _ q (rgt k q hq)).lt
      omega
  refine ⟨hP3.app (fun k q hq => (hP _ q (rgt k q hq)).kept (hk q.1 (hP _ q (rgt k q hq)).lt (tout k q hq))), hD3.app ⟨fun i j x y hi hj e => ?_, fun k q h => hD.2 _ q (rgt k q h)⟩ (fun i j x y hi hj e => ?_)⟩
  · have h3 := hD.1 _ _ x y (rgt i x hi) (rgt j y hj) e
    omega
  · obtain ⟨m, hm⟩ := from_ hw' i x hi
    by_cases hl : m < (isR.filterMap (fun i => ws[i]?)).length
    · rw [List.getElem?_append_left hl] at hm
      obtain ⟨i2, hi2⟩ := from_ hR m x hm
      exact apart i2 j x y hi2 hj e
    · rw [List.getElem?_append_right (by omega)] at hm
      exact tout j y hj (by rw [← e]; exact hD1.2 _ x hm)
section KT
variable {p : Program} {l : Launch} {e : Env} {R : Room} {s : State} {m : MethodId} {args : Array Value} {below : List Frame} {meth : Method} {c : Code} {Q : State → Prop} {g : kG} {A : Nat → Prop} {nL : Nat} {cc : ByteArray} {own : String} {ret0 : Option FieldType} {nm : String} {ws ws' wc tl : va_W} {cells slots pc n : Nat} {lv : List (Nat × Value)} {rest st0 : List Value}
theorem k_ciT {mc ms : Nat} {r0 : Int32} {w0 : va_W} (F : kF p s m args meth c g A nL cc own ret0 nm) (hr : kR p l e R s m args below meth c g A nL (ws ++ tl) wc cells slots mc ms pc lv st0 rest (kDi g r0 w0)) (isC isR is : List Nat) (hC : isC.map (fun i => ws[i]?) = wc.map some) (hC2 : isC.map (fun i => (ws ++ tl)[i]?) = wc.map some) (hR : isR.map (fun i => ws[i]?) = (isR.filterMap (fun i => ws[i]?)).map some) (hnR : va_nd isR = true) (hdis : ∀ i ∈ isR, i ∉ isC) (hw' : is.map (fun i => (isR.filterMap (fun i => ws[i]?) ++ w0)[i]?) = ws'.map some) (hn' : va_nd is = true) (hn : pc + 3 = n) (kk : KW p l e R s m args below meth c Q g A nL (ws' ++ tl) (cells + mc) (slots + ms) n lv (.int r0 :: rest)) : KW p l e R s m args below meth c Q g A nL (ws ++ tl) cells slots pc lv st0 := by
  subst hn
  obtain ⟨a, hr⟩ := hr
  intro H locs ls hP hD hS hl
  have hFc := va_free (wc := wc) hD hS F.2.2.2.2.2.2.1 isC hC2
  refine va_calli (hr H locs ls hP hD hS hl) hS (fun q _ h => hFc q h) hFc (fun r u t H1 locs1 ht hvm hw hB hz hk hS1 => ?_)
  obtain ⟨rfl, rfl⟩ := hw
  obtain ⟨hP1, hD1⟩ := hB
  rw [ht] at hP1
  obtain ⟨hP2, hD2⟩ := va_joinT hP hD isC isR is hC hR hnR hdis hw' hn' hk hFc hP1 hD1
  exact kk H1 locs1 ls hP2 hD2 hS1 hl
theorem k_clT {mc ms : Nat} {r0 : Int64} {w0 : va_W} (F : kF p s m args meth c g A nL cc own ret0 nm) (hr : kR p l e R s m args below meth c g A nL (ws ++ tl) wc cells slots mc ms pc lv st0 rest (kDl g r0 w0)) (isC isR is : List Nat) (hC : isC.map (fun i => ws[i]?) = wc.map some) (hC2 : isC.map (fun i => (ws ++ tl)[i]?) = wc.map some) (hR : isR.map (fun i => ws[i]?) = (isR.filterMap (fun i => ws[i]?)).map some) (hnR : va_nd isR = true) (hdis : ∀ i ∈ isR, i ∉ isC) (hw' : is.map (fun i => (isR.filterMap (fun i => ws[i]?) ++ w0)[i]?) = ws'.map some) (hn' : va_nd is = true) (hn : pc + 3 = n) (kk : KW p l e R s m args below meth c Q g A nL (ws' ++ tl) (cells + mc) (slots + ms) n lv (.long r0 :: rest)) : KW p l e R s m args below meth c Q g A nL (ws ++ tl) cells slots pc lv st0 := by
  subst hn
  obtain ⟨a, hr⟩ := hr
  intro H locs ls hP hD hS hl
  have hFc := va_free (wc := wc) hD hS F.2.2.2.2.2.2.1 isC hC2
  refine va_calll (hr H locs ls hP hD hS hl) hS (fun q _ h => hFc q h) hFc (fun r u t H1 locs1 ht hvm hw hB hz hk hS1 => ?_)
  obtain ⟨rfl, rfl⟩ := hw
  obtain ⟨hP1, hD1⟩ := hB
  rw [ht] at hP1
  obtain ⟨hP2, hD2⟩ := va_joinT hP hD isC isR is hC hR hnR hdis hw' hn' hk hFc hP1 hD1
  exact kk H1 locs1 ls hP2 hD2 hS1 hl
theorem k_cvT {mc ms : Nat} {w0 : va_W} (F : kF p s m args meth c g A nL cc own ret0 nm) (hr : kR p l e R s m args below meth c g A nL (ws ++ tl) wc cells slots mc ms pc lv st0 rest (kDv g w0)) (isC isR is : List Nat) (hC : isC.map (fun i => ws[i]?) = wc.map some) (hC2 : isC.map (fun i => (ws ++ tl)[i]?) = wc.map some) (hR : isR.map (fun i => ws[i]?) = (isR.filterMap (fun i => ws[i]?)).map some) (hnR : va_nd isR = true) (hdis : ∀ i ∈ isR, i ∉ isC) (hw' : is.map (fun i => (isR.filterMap (fun i => ws[i]?) ++ w0)[i]?) = ws'.map some) (hn' : va_nd is = true) (hn : pc + 3 = n) (kk : KW p l e R s m args below meth c Q g A nL (ws' ++ tl) (cells + mc) (slots + ms) n lv (rest)) : KW p l e R s m args below meth c Q g A nL (ws ++ tl) cells slots pc lv st0 := by
  subst hn
  obtain ⟨a, hr⟩ := hr
  intro H locs ls hP hD hS hl
  have hFc := va_free (wc := wc) hD hS F.2.2.2.2.2.2.1 isC hC2
  refine va_callv (hr H locs ls hP hD hS hl) hS (fun q _ h => hFc q h) hFc (fun u t H1 locs1 ht hvm hw hB hz hk hS1 => ?_)
  subst hw
  obtain ⟨hP1, hD1⟩ := hB
  rw [ht] at hP1
  obtain ⟨hP2, hD2⟩ := va_joinT hP hD isC isR is hC hR hnR hdis hw' hn' hk hFc hP1 hD1
  exact kk H1 locs1 ls hP2 hD2 hS1 hl
end KT
section KQ
variable {p : Program} {l : Launch} {e : Env} {R : Room} {s : State} {m : MethodId} {args : Array Value} {below : List Frame} {meth : Method} {c : Code} {g : kG} {A : Nat → Prop} {nL : Nat} {cc : ByteArray} {own C : String} {nm : String} {ws : va_W} {cells slots pc : Nat} {lv : List (Nat × Value)}
theorem k_aret (F : kF p s m args meth c g A nL cc own (some (.object C)) nm) {v : Value} {r0 : Option Nat} {w0 : va_W} (hr : v = va_rf r0) (hw : ws = w0) (hd : decode cc pc = .ok (.areturn, 1)) : KW p l e R s m args below meth c (MQ below (kDq g r0 w0 A) args s cells slots A) g A nL ws cells slots pc lv [v] := by
  subst hr
  exact fun H locs ls hP hD hS hl => W.aret (Qc := kDq g r0 w0 A) F.1 F.2.1 F.2.2.2.2.2.2.2.1 (Or.inl ⟨_, rfl⟩) (va_rf_or r0) (fun t ht hW => ⟨⟨r0, ws, rfl, ⟨rfl, hw⟩, by rw [ht]; exact hP, hD⟩, hS.F ht⟩) hS.2.2 hd F.2.2.2.2.2.2.2.2.1
end KQ
section KNw
variable {p : Program} {l : Launch} {e : Env} {R : Room} {s : State} {m : MethodId} {args : Array Value} {below : List Frame} {meth : Method} {c : Code} {Q : State → Prop} {g : kG} {A : Nat → Prop} {nL : Nat} {cc : ByteArray} {own : String} {ret0 : Option FieldType} {nm : String} {ws : va_W} {cells slots pc n : Nat} {lv : List (Nat × Value)} {rest : List Value}

theorem k_new (F : kF p s m args meth c g A nL cc own ret0 nm) {C : String} {T : u_T} {N ci idx : Nat} {fs : List Value} (hin : ∀ w ∈ u_ws C T N, w ∈ uT) {ty0 : Nat → FieldType} (hty : ∀ k, k < N → parseFieldDescriptor (T k).2.2.1 = some (ty0 k)) (hcl : Cond.classLink own idx C ∈ uT) (hins : Cond.instantiable C N ∈ uT) (hini : Cond.initialized C ∈ uT) (hc : vwCl[ci]? = some (C, T, N)) (hfs : ∀ j, j < N → defaultValue (ty0 j) = vp_V fs j) (hcells : cells + 1 ≤ R.cells) (hslots : slots + N ≤ R.slots) (hd : decode cc pc = .ok (.new idx, 3)) (hn : pc + 3 = n) (kk : ∀ q : Nat, KW p l e R s m args below meth c Q g A nL (ws ++ [(q, .inr (ci, fs))]) (cells + 1) (slots + N) n lv (.ref q :: rest)) : KW p l e R s m args below meth c Q g A nL ws cells slots pc lv rest := by
  subst hn
  exact fun H locs ls hP hD hS hl => va_new F.1 F.2.1 F.2.2.2.2.1 hin ty0 hty F.2.2.2.1 (F.2.2.2.2.1 _ hcl) (F.2.2.2.2.1 _ hins) (F.2.2.2.2.1 _ hini) F.2.2.2.2.2.1.1 hP hD hS F.2.2.2.2.2.2.1 hc hfs hcells hslots hd (fun q H1 hP1 hD1 hS1 => kk q H1 locs ls hP1 hD1 hS1 hl)
theorem k_newI (F : kF p s m args meth c g A nL cc own ret0 nm) {z : Int32} {N : Nat} (harr : Cond.arrayClass .int ∈ uT) (hz : ¬ z < 0) (hN : z.toNatClampNeg = N) (hby : N * componentBytes .int ≤ 536870912) (hcells : cells + 1 ≤ R.cells) (hslots : slots + N ≤ R.slots) (hd : decode cc pc = .ok (.newarray .int, 2)) (hn : pc + 2 = n) (kk : ∀ q : Nat, KW p l e R s m args below meth c Q g A nL (ws ++ [(q, .inl (g.2 0, N, .inl (fun _ => 0)))]) (cells + 1) (slots + N) n lv (.ref q :: rest)) : KW p l e R s m args below meth c Q g A nL ws cells slots pc lv (.int z :: rest) := by
  subst hn
  intro H locs ls hP hD hS hl
  refine va_newa F.1 F.2.1 (atype := .int) (ty := .int) (F.2.2.2.2.1 _ harr) rfl F.2.2.2.2.2.1.1 hP hD hS F.2.2.2.2.2.2.1 (a0 := (N, .inl (fun _ => 0))) (fun _ => rfl) hz hN hby hcells hslots hd (fun q cA H1 hK1 hP1 hD1 hS1 => ?_)
  have e1 : s.vm.findClass ("[" ++ (.int : FieldType).toString) = some cA := (hK1.2 4 (cA, .int) rfl).2
  have e2 : s.vm.findClass ("[" ++ (.int : FieldType).toString) = some (g.2 0) := (hK1.2 0 (g.2 0, .int) rfl).2
  have e3 : cA = g.2 0 := Option.some.inj (e1.symm.trans e2)
  subst e3
  exact kk q H1 locs ls hP1 hD1 hS1 hl
theorem k_newJ (F : kF p s m args meth c g A nL cc own ret0 nm) {z : Int32} {N : Nat} (harr : Cond.arrayClass .long ∈ uT) (hz : ¬ z < 0) (hN : z.toNatClampNeg = N) (hby : N * componentBytes .long ≤ 536870912) (hcells : cells + 1 ≤ R.cells) (hslots : slots + N ≤ R.slots) (hd : decode cc pc = .ok (.newarray .long, 2)) (hn : pc + 2 = n) (kk : ∀ q : Nat, KW p l e R s m args below meth c Q g A nL (ws ++ [(q, .inl (g.2 1, N, .inr (.inl (fun _ => 0))))]) (cells + 1) (slots + N) n lv (.ref q :: rest)) : KW p l e R s m args below meth c Q g A nL ws cells slots pc lv (.int z :: rest) := by
  subst hn
  intro H locs ls hP hD hS hl
  refine va_newa F.1 F.2.1 (atype := .long) (ty := .long) (F.2.2.2.2.1 _ harr) rfl F.2.2.2.2.2.1.1 hP hD hS F.2.2.2.2.2.2.1 (a0 := (N, .inr (.inl (fun _ => 0)))) (fun _ => rfl) hz hN hby hcells hslots hd (fun q cA H1 hK1 hP1 hD1 hS1 => ?_)
  have e1 : s.vm.findClass ("[" ++ (.long : FieldType).toString) = some cA := (hK1.2 4 (cA, .long) rfl).2
  have e2 : s.vm.findClass ("[" ++ (.long : FieldType).toString) = some (g.2 1) := (hK1.2 1 (g.2 1, .long) rfl).2
  have e3 : cA = g.2 1 := Option.some.inj (e1.symm.trans e2)
  subst e3
  exact kk q H1 locs ls hP1 hD1 hS1 hl
theorem k_newZ (F : kF p s m args meth c g A nL cc own ret0 nm) {z : Int32} {N : Nat} (harr : Cond.arrayClass .boolean ∈ uT) (hz : ¬ z < 0) (hN : z.toNatClampNeg = N) (hby : N * componentBytes .boolean ≤ 536870912) (hcells : cells + 1 ≤ R.cells) (hslots : slots + N ≤ R.slots) (hd : decode cc pc = .ok (.newarray .boolean, 2)) (hn : pc + 2 = n) (kk : ∀ q : Nat, KW p l e R s m args below meth c Q g A nL (ws ++ [(q, .inl (g.2 2, N, .inl (fun _ => 0)))]) (cells + 1) (slots + N) n lv (.ref q :: rest)) : KW p l e R s m args below meth c Q g A nL ws cells slots pc lv (.int z :: rest) := by
  subst hn
  intro H locs ls hP hD hS hl
  refine va_newa F.1 F.2.1 (atype := .boolean) (ty := .boolean) (F.2.2.2.2.1 _ harr) rfl F.2.2.2.2.2.1.1 hP hD hS F.2.2.2.2.2.2.1 (a0 := (N, .inl (fun _ => 0))) (fun _ => rfl) hz hN hby hcells hslots hd (fun q cA H1 hK1 hP1 hD1 hS1 => ?_)
  have e1 : s.vm.findClass ("[" ++ (.boolean : FieldType).toString) = some cA := (hK1.2 4 (cA, .boolean) rfl).2
  have e2 : s.vm.findClass ("[" ++ (.boolean : FieldType).toString) = some (g.2 2) := (hK1.2 2 (g.2 2, .boolean) rfl).2
  have e3 : cA = g.2 2 := Option.some.inj (e1.symm.trans e2)
  subst e3
  exact kk q H1 locs ls hP1 hD1 hS1 hl
theorem k_newQ (F : kF p s m args meth c g A nL cc own ret0 nm) {z : Int32} {N idx : Nat} (hcl : Cond.classLink own idx "ColdWorks$Throttle" ∈ uT) (hz : ¬ z < 0) (hN : z.toNatClampNeg = N) (hby : N * 4 ≤ 536870912) (hcells : cells + 1 ≤ R.cells) (hslots : slots + N ≤ R.slots) (hd : decode cc pc = .ok (.anewarray idx, 3)) (hn : pc + 3 = n) (kk : ∀ q : Nat, KW p l e R s m args below meth c Q g A nL (ws ++ [(q, .inl (g.2 3, N, .inr (.inr (.inr (.inr (fun _ => none))))))]) (cells + 1) (slots + N) n lv (.ref q :: rest)) : KW p l e R s m args below meth c Q g A nL ws cells slots pc lv (.int z :: rest) := by
  subst hn
  intro H locs ls hP hD hS hl
  refine va_newq F.1 F.2.1 F.2.2.2.1 (F.2.2.2.2.1 _ hcl) F.2.2.2.2.2.1.2.2 F.2.2.2.2.2.1.1 hP hD hS F.2.2.2.2.2.2.1 hz hN hby hcells hslots hd (fun q cA H1 hK1 hP1 hD1 hS1 => ?_)
  obtain ⟨kA, comp, -, -, -, e1⟩ := (hK1.2 4 (cA, .object "ColdWorks$Throttle") rfl).2
  obtain ⟨kA2, comp2, -, -, -, e2⟩ := (hK1.2 3 (g.2 3, .object "ColdWorks$Throttle") rfl).2
  have e3 : cA = g.2 3 := Option.some.inj (e1.symm.trans e2)
  subst e3
  exact kk q H1 locs ls hP1 hD1 hS1 hl
/-- a body of a kind below goes into the row of bodies -/
theorem k_aast (F : kF p s m args meth c g A nL cc own ret0 nm) {a n0 N v ci : Nat} {i : Int32} {f : Nat → Option Nat} {vs : List Value} {r : vw_C} {ws' : va_W} (q0 qk : Nat) (ha : ws[q0]? = some (a, .inl (g.2 3, n0, .inr (.inr (.inr (.inr f)))))) (hca : Cond.castable r.1 "ColdWorks$Throttle" ∈ kN) (hv : ws[qk]? = some (v, .inr (ci, vs))) (hc : vwCl[ci]? = some r) (hix : kIx i N n0) (hw : ws.set q0 (a, .inl (g.2 3, n0, .inr (.inr (.inr (.inr (va_up f N (some v))))))) = ws') (hd : decode cc pc = .ok (.aastore, 1)) (hn : pc + 1 = n) (kk : KW p l e R s m args below meth c Q g A nL ws' cells slots n lv rest) : KW p l e R s m args below meth c Q g A nL ws cells slots pc lv (.ref v :: .int i :: .ref a :: rest) := by
  subst hn
  obtain ⟨rfl, hin⟩ := hix
  subst hw
  exact fun H locs ls hP hD hS hl => va_astqO F.1 F.2.1 F.2.2.2.2.2.1.1 hP hD hS q0 3 qk ci ha rfl (F.2.2.2.2.2.1.2.1 _ hca) hv hc hin hd (fun H1 locs1 hP1 hD1 hS1 => kk H1 locs1 ls hP1 hD1 hS1 hl)
theorem k_aast0 (F : kF p s m args meth c g A nL cc own ret0 nm) {a n0 N v : Nat} {i : Int32} {f : Nat → Option Nat} {vs : List Value} {ws' : va_W} (q0 qk : Nat) (ha : ws[q0]? = some (a, .inl (g.2 3, n0, .inr (.inr (.inr (.inr f)))))) (hv : ws[qk]? = some (v, .inr (7, vs))) (hix : kIx i N n0) (hw : ws.set q0 (a, .inl (g.2 3, n0, .inr (.inr (.inr (.inr (va_up f N (some v))))))) = ws') (hd : decode cc pc = .ok (.aastore, 1)) (hn : pc + 1 = n) (kk : KW p l e R s m args below meth c Q g A nL ws' cells slots n lv rest) : KW p l e R s m args below meth c Q g A nL ws cells slots pc lv (.ref v :: .int i :: .ref a :: rest) := by
  subst hn
  obtain ⟨rfl, hin⟩ := hix
  subst hw
  exact fun H locs ls hP hD hS hl => va_astq (r := (RX7, TX7, 0)) F.1 F.2.1 F.2.2.2.2.2.1.1 hP hD hS q0 3 qk 7 ha rfl hv rfl hin hd (fun H1 locs1 hP1 hD1 hS1 => kk H1 locs1 ls hP1 hD1 hS1 hl)
end KNw
