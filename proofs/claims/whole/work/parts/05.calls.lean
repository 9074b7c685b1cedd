section KC
variable {p : Program} {l : Launch} {e : Env} {R : Room} {s : State} {m : MethodId} {args : Array Value} {below : List Frame} {meth : Method} {c : Code} {Q : State → Prop} {g : kG} {A : Nat → Prop} {nL : Nat} {cc : ByteArray} {own : String} {ret0 : Option FieldType} {nm : String} {ws ws' wc wr : va_W} {cells slots pc n : Nat} {lv : List (Nat × Value)} {rest st0 : List Value}
/-- a call is run: whatever the way in which it is called -/
def kR (p : Program) (l : Launch) (e : Env) (R : Room) (s : State) (m : MethodId) (args : Array Value) (below : List Frame) (meth : Method) (c : Code) (g : kG) (A : Nat → Prop) (nL : Nat) (ws wc : va_W) (cells slots mc ms pc : Nat) (lv : List (Nat × Value)) (st0 rest : List Value) (Qx : kQ) : Prop :=
  ∃ a : Array Value, ∀ (H : Heap) (locs : List Loc) (ls : Array Slot), va_P g.1 vwCl ws H → va_D A ws → va_S A s.heap H locs → lv_has ls nL lv → va_Run p l e R s m args below meth c H locs cells slots mc ms (F0 m pc ls st0) rest (Qx (va_A wc H.size) a) (va_A wc H.size)
theorem k_keep {H H1 : Heap} {is : List Nat} (hP : va_P g.1 vwCl ws H) (hD : va_D A ws) (hC : is.map (fun i => ws[i]?) = wc.map some) (hk : ∀ q : Nat, q < H.size → ¬ va_A wc H.size q → H1[q]? = H[q]?) (hP1 : va_P g.1 vwCl wc H1) : va_P g.1 vwCl ws H1 := by
  intro k q hq
  have hlt := (hP k q hq).lt
  by_cases hz : va_A wc H.size q.1
  · rcases hz with ⟨k2, e2, h2⟩ | h2
    · have h1 : (is.map (fun i => ws[i]?))[k2]? = some (some (q.1, e2)) := by rw [hC, List.getElem?_map, h2]; rfl
      rw [List.getElem?_map] at h1
      cases hi : is[k2]? with
      | none => rw [hi] at h1; cases h1
      | some i =>
        rw [hi] at h1
        have h3 : ws[i]? = some (q.1, e2) := Option.some.inj h1
        have h4 := hD.1 k i q (q.1, e2) hq h3 rfl
        subst h4
        rw [hq] at h3
        have h5 : q = (q.1, e2) := Option.some.inj h3
        have h6 := hP1 k2 _ h2
        rw [← h5] at h6
        exact h6
    · omega
  · exact (hP k q hq).kept (hk q.1 hlt hz)
theorem k_ci {mc ms : Nat} {r0 : Int32} {w0 : va_W} (F : kF p s m args meth c g A nL cc own ret0 nm) (hr : kR p l e R s m args below meth c g A nL ws wc cells slots mc ms pc lv st0 rest (kDi g r0 w0)) (isC isR is : List Nat) (hC : isC.map (fun i => ws[i]?) = wc.map some) (hR : isR.map (fun i => ws[i]?) = (isR.filterMap (fun i => ws[i]?)).map some) (hnR : va_nd isR = true) (hdis : ∀ i ∈ isR, i ∉ isC) (hw' : is.map (fun i => (isR.filterMap (fun i => ws[i]?) ++ w0)[i]?) = ws'.map some) (hn' : va_nd is = true) (hn : pc + 3 = n) (kk : KW p l e R s m args below meth c Q g A nL ws' (cells + mc) (slots + ms) n lv (.int r0 :: rest)) : KW p l e R s m args below meth c Q g A nL ws cells slots pc lv st0 := by
  subst hn
  obtain ⟨a, hr⟩ := hr
  intro H locs ls hP hD hS hl
  have hFc := va_free (wc := wc) hD hS F.2.2.2.2.2.2.1 isC hC
  refine va_calli (hr H locs ls hP hD hS hl) hS (fun q _ h => hFc q h) hFc (fun r u t H1 locs1 ht hvm hw hB hz hk hS1 => ?_)
  obtain ⟨rfl, rfl⟩ := hw
  obtain ⟨hP1, hD1⟩ := hB
  rw [ht] at hP1
  obtain ⟨hP2, hD2⟩ := va_join hP hD isC isR hC hR hnR hdis hk hFc hP1 hD1
  exact kk H1 locs1 ls (hP2.sub is (kfm hw')) (hD2.sub is hn' hw') hS1 hl
/-- a call that leaves its cells as they are -/
theorem k_ciR {mc ms : Nat} {r0 : Int32} (F : kF p s m args meth c g A nL cc own ret0 nm) (hr : kR p l e R s m args below meth c g A nL ws wc cells slots mc ms pc lv st0 rest (kDi g r0 wc)) (isC : List Nat) (hC : isC.map (fun i => ws[i]?) = wc.map some) (hn : pc + 3 = n) (kk : KW p l e R s m args below meth c Q g A nL ws (cells + mc) (slots + ms) n lv (.int r0 :: rest)) : KW p l e R s m args below meth c Q g A nL ws cells slots pc lv st0 := by
  subst hn
  obtain ⟨a, hr⟩ := hr
  intro H locs ls hP hD hS hl
  have hFc := va_free (wc := wc) hD hS F.2.2.2.2.2.2.1 isC hC
  refine va_calli (hr H locs ls hP hD hS hl) hS (fun q _ h => hFc q h) hFc (fun r u t H1 locs1 ht hvm hw hB hz hk hS1 => ?_)
  obtain ⟨rfl, rfl⟩ := hw
  obtain ⟨hP1, hD1⟩ := hB
  rw [ht] at hP1
  exact kk H1 locs1 ls (k_keep hP hD hC hk hP1) hD hS1 hl
theorem k_cl {mc ms : Nat} {r0 : Int64} {w0 : va_W} (F : kF p s m args meth c g A nL cc own ret0 nm) (hr : kR p l e R s m args below meth c g A nL ws wc cells slots mc ms pc lv st0 rest (kDl g r0 w0)) (isC isR is : List Nat) (hC : isC.map (fun i => ws[i]?) = wc.map some) (hR : isR.map (fun i => ws[i]?) = (isR.filterMap (fun i => ws[i]?)).map some) (hnR : va_nd isR = true) (hdis : ∀ i ∈ isR, i ∉ isC) (hw' : is.map (fun i => (isR.filterMap (fun i => ws[i]?) ++ w0)[i]?) = ws'.map some) (hn' : va_nd is = true) (hn : pc + 3 = n) (kk : KW p l e R s m args below meth c Q g A nL ws' (cells + mc) (slots + ms) n lv (.long r0 :: rest)) : KW p l e R s m args below meth c Q g A nL ws cells slots pc lv st0 := by
  subst hn
  obtain ⟨a, hr⟩ := hr
  intro H locs ls hP hD hS hl
  have hFc := va_free (wc := wc) hD hS F.2.2.2.2.2.2.1 isC hC
  refine va_calll (hr H locs ls hP hD hS hl) hS (fun q _ h => hFc q h) hFc (fun r u t H1 locs1 ht hvm hw hB hz hk hS1 => ?_)
  obtain ⟨rfl, rfl⟩ := hw
  obtain ⟨hP1, hD1⟩ := hB
  rw [ht] at hP1
  obtain ⟨hP2, hD2⟩ := va_join hP hD isC isR hC hR hnR hdis hk hFc hP1 hD1
  exact kk H1 locs1 ls (hP2.sub is (kfm hw')) (hD2.sub is hn' hw') hS1 hl
/-- a call that leaves its cells as they are -/
theorem k_clR {mc ms : Nat} {r0 : Int64} (F : kF p s m args meth c g A nL cc own ret0 nm) (hr : kR p l e R s m args below meth c g A nL ws wc cells slots mc ms pc lv st0 rest (kDl g r0 wc)) (isC : List Nat) (hC : isC.map (fun i => ws[i]?) = wc.map some) (hn : pc + 3 = n) (kk : KW p l e R s m args below meth c Q g A nL ws (cells + mc) (slots + ms) n lv (.long r0 :: rest)) : KW p l e R s m args below meth c Q g A nL ws cells slots pc lv st0 := by
  subst hn
  obtain ⟨a, hr⟩ := hr
  intro H locs ls hP hD hS hl
  have hFc := va_free (wc := wc) hD hS F.2.2.2.2.2.2.1 isC hC
  refine va_calll (hr H locs ls hP hD hS hl) hS (fun q _ h => hFc q h) hFc (fun r u t H1 locs1 ht hvm hw hB hz hk hS1 => ?_)
  obtain ⟨rfl, rfl⟩ := hw
  obtain ⟨hP1, hD1⟩ := hB
  rw [ht] at hP1
  exact kk H1 locs1 ls (k_keep hP hD hC hk hP1) hD hS1 hl
theorem k_cv {mc ms : Nat} {w0 : va_W} (F : kF p s m args meth c g A nL cc own ret0 nm) (hr : kR p l e R s m args below meth c g A nL ws wc cells slots mc ms pc lv st0 rest (kDv g w0)) (isC isR is : List Nat) (hC : isC.map (fun i => ws[i]?) = wc.map some) (hR : isR.map (fun i => ws[i]?) = (isR.filterMap (fun i => ws[i]?)).map some) (hnR : va_nd isR = true) (hdis : ∀ i ∈ isR, i ∉ isC) (hw' : is.map (fun i => (isR.filterMap (fun i => ws[i]?) ++ w0)[i]?) = ws'.map some) (hn' : va_nd is = true) (hn : pc + 3 = n) (kk : KW p l e R s m args below meth c Q g A nL ws' (cells + mc) (slots + ms) n lv (rest)) : KW p l e R s m args below meth c Q g A nL ws cells slots pc lv st0 := by
  subst hn
  obtain ⟨a, hr⟩ := hr
  intro H locs ls hP hD hS hl
  have hFc := va_free (wc := wc) hD hS F.2.2.2.2.2.2.1 isC hC
  refine va_callv (hr H locs ls hP hD hS hl) hS (fun q _ h => hFc q h) hFc (fun u t H1 locs1 ht hvm hw hB hz hk hS1 => ?_)
  subst hw
  obtain ⟨hP1, hD1⟩ := hB
  rw [ht] at hP1
  obtain ⟨hP2, hD2⟩ := va_join hP hD isC isR hC hR hnR hdis hk hFc hP1 hD1
  exact kk H1 locs1 ls (hP2.sub is (kfm hw')) (hD2.sub is hn' hw') hS1 hl
/-- a call that leaves its cells as they are -/
theorem k_cvR {mc ms : Nat} (F : kF p s m args meth c g A nL cc own ret0 nm) (hr : kR p l e R s m args below meth c g A nL ws wc cells slots mc ms pc lv st0 rest (kDv g wc)) (isC : List Nat) (hC : isC.map (fun i => ws[i]?) = wc.map some) (hn : pc + 3 = n) (kk : KW p l e R s m args below meth c Q g A nL ws (cells + mc) (slots + ms) n lv (rest)) : KW p l e R s m args below meth c Q g A nL ws cells slots pc lv st0 := by
  subst hn
  obtain ⟨a, hr⟩ := hr
  intro H locs ls hP hD hS hl
  have hFc := va_free (wc := wc) hD hS F.2.2.2.2.2.2.1 isC hC
  refine va_callv (hr H locs ls hP hD hS hl) hS (fun q _ h => hFc q h) hFc (fun u t H1 locs1 ht hvm hw hB hz hk hS1 => ?_)
  subst hw
  obtain ⟨hP1, hD1⟩ := hB
  rw [ht] at hP1
  exact kk H1 locs1 ls (k_keep hP hD hC hk hP1) hD hS1 hl
theorem k_cq {mc ms : Nat} {r0 : Option Nat} {w0 : va_W} (F : kF p s m args meth c g A nL cc own ret0 nm) (hr : kR p l e R s m args below meth c g A nL ws wc cells slots mc ms pc lv st0 rest (kDq g r0 w0)) (isC isR is : List Nat) (hC : isC.map (fun i => ws[i]?) = wc.map some) (hR : isR.map (fun i => ws[i]?) = (isR.filterMap (fun i => ws[i]?)).map some) (hnR : va_nd isR = true) (hdis : ∀ i ∈ isR, i ∉ isC) (hw' : is.map (fun i => (isR.filterMap (fun i => ws[i]?) ++ w0)[i]?) = ws'.map some) (hn' : va_nd is = true) (hn : pc + 3 = n) (kk : KW p l e R s m args below meth c Q g A nL ws' (cells + mc) (slots + ms) n lv (va_rf r0 :: rest)) : KW p l e R s m args below meth c Q g A nL ws cells slots pc lv st0 := by
  subst hn
  obtain ⟨a, hr⟩ := hr
  intro H locs ls hP hD hS hl
  have hFc := va_free (wc := wc) hD hS F.2.2.2.2.2.2.1 isC hC
  refine va_callq (hr H locs ls hP hD hS hl) hS (fun q _ h => hFc q h) hFc (fun r u t H1 locs1 ht hvm hw hB hz hk hS1 => ?_)
  obtain ⟨rfl, rfl⟩ := hw
  obtain ⟨hP1, hD1⟩ := hB
  rw [ht] at hP1
  obtain ⟨hP2, hD2⟩ := va_join hP hD isC isR hC hR hnR hdis hk hFc hP1 hD1
  exact kk H1 locs1 ls (hP2.sub is (kfm hw')) (hD2.sub is hn' hw') hS1 hl
/-- a call that leaves its cells as they are -/
theorem k_cqR {mc ms : Nat} {r0 : Option Nat} (F : kF p s m args meth c g A nL cc own ret0 nm) (hr : kR p l e R s m args below meth c g A nL ws wc cells slots mc ms pc lv st0 rest (kDq g r0 wc)) (isC : List Nat) (hC : isC.map (fun i => ws[i]?) = wc.map some) (hn : pc + 3 = n) (kk : KW p l e R s m args below meth c Q g A nL ws (cells + mc) (slots + ms) n lv (va_rf r0 :: rest)) : KW p l e R s m args below meth c Q g A nL ws cells slots pc lv st0 := by
  subst hn
  obtain ⟨a, hr⟩ := hr
  intro H locs ls hP hD hS hl
  have hFc := va_free (wc := wc) hD hS F.2.2.2.2.2.2.1 isC hC
  refine va_callq (hr H locs ls hP hD hS hl) hS (fun q _ h => hFc q h) hFc (fun r u t H1 locs1 ht hvm hw hB hz hk hS1 => ?_)
  obtain ⟨rfl, rfl⟩ := hw
  obtain ⟨hP1, hD1⟩ := hB
  rw [ht] at hP1
  exact kk H1 locs1 ls (k_keep hP hD hC hk hP1) hD hS1 hl
theorem k_ev {mc ms : Nat} {po : va_W → Prop} (F : kF p s m args meth c g A nL cc own ret0 nm) (hr : kR p l e R s m args below meth c g A nL ws wc cells slots mc ms pc lv st0 rest (kEv g po)) (isC isR : List Nat) (hC : isC.map (fun i => ws[i]?) = wc.map some) (hR : isR.map (fun i => ws[i]?) = wr.map some) (hnR : va_nd isR = true) (hdis : ∀ i ∈ isR, i ∉ isC) (hn : pc + 3 = n) (kk : ∀ (u : va_W), po u → KW p l e R s m args below meth c Q g A nL (wr ++ u) (cells + mc) (slots + ms) n lv (rest)) : KW p l e R s m args below meth c Q g A nL ws cells slots pc lv st0 := by
  subst hn
  obtain ⟨a, hr⟩ := hr
  intro H locs ls hP hD hS hl
  have hFc := va_free (wc := wc) hD hS F.2.2.2.2.2.2.1 isC hC
  refine va_callv (hr H locs ls hP hD hS hl) hS (fun q _ h => hFc q h) hFc (fun u t H1 locs1 ht hvm hw hB hz hk hS1 => ?_)
  obtain ⟨hP1, hD1⟩ := hB
  rw [ht] at hP1
  obtain ⟨hP2, hD2⟩ := va_join hP hD isC isR hC hR hnR hdis hk hFc hP1 hD1
  exact kk u hw H1 locs1 ls hP2 hD2 hS1 hl
theorem k_ei {mc ms : Nat} {po : Int32 → va_W → Prop} (F : kF p s m args meth c g A nL cc own ret0 nm) (hr : kR p l e R s m args below meth c g A nL ws wc cells slots mc ms pc lv st0 rest (kEi g po)) (isC isR : List Nat) (hC : isC.map (fun i => ws[i]?) = wc.map some) (hR : isR.map (fun i => ws[i]?) = wr.map some) (hnR : va_nd isR = true) (hdis : ∀ i ∈ isR, i ∉ isC) (hn : pc + 3 = n) (kk : ∀ (r : Int32) (u : va_W), po r u → KW p l e R s m args below meth c Q g A nL (wr ++ u) (cells + mc) (slots + ms) n lv (.int r :: rest)) : KW p l e R s m args below meth c Q g A nL ws cells slots pc lv st0 := by
  subst hn
  obtain ⟨a, hr⟩ := hr
  intro H locs ls hP hD hS hl
  have hFc := va_free (wc := wc) hD hS F.2.2.2.2.2.2.1 isC hC
  refine va_calli (hr H locs ls hP hD hS hl) hS (fun q _ h => hFc q h) hFc (fun r u t H1 locs1 ht hvm hw hB hz hk hS1 => ?_)
  obtain ⟨hP1, hD1⟩ := hB
  rw [ht] at hP1
  obtain ⟨hP2, hD2⟩ := va_join hP hD isC isR hC hR hnR hdis hk hFc hP1 hD1
  exact kk r u hw H1 locs1 ls hP2 hD2 hS1 hl
theorem k_eq {mc ms : Nat} {po : Option Nat → va_W → Prop} (F : kF p s m args meth c g A nL cc own ret0 nm) (hr : kR p l e R s m args below meth c g A nL ws wc cells slots mc ms pc lv st0 rest (kEq g po)) (isC isR : List Nat) (hC : isC.map (fun i => ws[i]?) = wc.map some) (hR : isR.map (fun i => ws[i]?) = wr.map some) (hnR : va_nd isR = true) (hdis : ∀ i ∈ isR, i ∉ isC) (hn : pc + 3 = n) (kk : ∀ (r : Option Nat) (u : va_W), po r u → KW p l e R s m args below meth c Q g A nL (wr ++ u) (cells + mc) (slots + ms) n lv (va_rf r :: rest)) : KW p l e R s m args below meth c Q g A nL ws cells slots pc lv st0 := by
  subst hn
  obtain ⟨a, hr⟩ := hr
  intro H locs ls hP hD hS hl
  have hFc := va_free (wc := wc) hD hS F.2.2.2.2.2.2.1 isC hC
  refine va_callq (hr H locs ls hP hD hS hl) hS (fun q _ h => hFc q h) hFc (fun r u t H1 locs1 ht hvm hw hB hz hk hS1 => ?_)
  obtain ⟨hP1, hD1⟩ := hB
  rw [ht] at hP1
  obtain ⟨hP2, hD2⟩ := va_join hP hD isC isR hC hR hnR hdis hk hFc hP1 hD1
  exact kk r u hw H1 locs1 ls hP2 hD2 hS1 hl
theorem k_rV {C : String} {T : u_T} {N ci b : Nat} {fs : List Value} {y : MethodName} {bytes : ByteArray} {maxL idx k : Nat} {ret : Option FieldType} {rm : Room} {Qx : kQ} {As : List Value} (F : kF p s m args meth c g A nL cc own ret0 nm) (M : kM l y bytes maxL ret rm g (.ref b :: As) wc Qx) (isC : List Nat) (hC : isC.map (fun i => ws[i]?) = wc.map some) (hnC : va_nd isC = true) (q0 : Nat) (hrec : wc[q0]? = some (b, .inr (ci, fs))) (hcl : vwCl[ci]? = some (C, T, N)) (hcode : Cond.code y bytes maxL ret ∈ uT) (hlink : Cond.methodLink own idx y ∈ uT) (hinst : Cond.instanceMethod y ∈ uT) (hsel : Cond.selects C y y ∈ uT) (hini : Cond.initialized y.cls ∈ uT) (hd0 : y.cls ≠ "java/lang/invoke/MethodHandle" ∧ y.cls ≠ "java/lang/invoke/VarHandle" ∧ (parseMethodDescriptor y.desc).map (fun d => d.parameters.length) = some k) (hR : rm.frames + 1 ≤ R.frames ∧ 8 + (maxL + 11) + rm.locals ≤ R.locals) (hlen : As.length = k) (hsum : (rest.map fun v => v.category).sum ≤ 8) (hf : cells + rm.cells ≤ R.cells ∧ slots + rm.slots ≤ R.slots) (hd : decode cc pc = .ok (.invokevirtual idx, 3)) : kR p l e R s m args below meth c g A nL ws wc cells slots rm.cells rm.slots pc lv (As.reverse ++ .ref b :: rest) rest Qx :=
  ⟨_, fun H locs ls hP hD hS hl => va_runV (C := C) (n := k) ⟨F.1, F.2.1, F.2.2.1, F.2.2.2.1, F.2.2.2.2.1⟩ (M H.size) ⟨callB_of k F.2.2.2.2.1 (kGI hcode) rfl rfl rfl (F.2.2.2.2.1 _ hini) (F.2.2.2.2.1 _ hlink) hd0 hR, F.2.2.2.2.1 _ hinst, F.2.2.2.2.1 _ hsel⟩ ⟨kPre_blind, va_recv F.2.2.2.2.2.1.1 (hP.sub isC (kfm hC)) hcl hrec, fun U hU hW => ⟨rfl, by rw [hU], by rw [hU]; exact hP.sub isC (kfm hC), F.2.2.2.2.2.1.warm hW, (hD.sub isC hnC hC).weaken (fun _ _ _ _ => trivial)⟩⟩ rfl hlen hl.1 rfl (lv_room hsum) hd hf⟩
theorem k_rS {y : MethodName} {bytes : ByteArray} {maxL idx k : Nat} {ret : Option FieldType} {rm : Room} {Qx : kQ} {As : List Value} (F : kF p s m args meth c g A nL cc own ret0 nm) (M : kM l y bytes maxL ret rm g As wc Qx) (isC : List Nat) (hC : isC.map (fun i => ws[i]?) = wc.map some) (hnC : va_nd isC = true) (hcode : Cond.code y bytes maxL ret ∈ uT) (hlink : Cond.methodLink own idx y ∈ uT) (hstat : Cond.static y ∈ uT) (hini : Cond.initialized y.cls ∈ uT) (hd0 : y.cls ≠ "java/lang/invoke/MethodHandle" ∧ y.cls ≠ "java/lang/invoke/VarHandle" ∧ (parseMethodDescriptor y.desc).map (fun d => d.parameters.length) = some k) (hR : rm.frames + 1 ≤ R.frames ∧ 8 + (maxL + 11) + rm.locals ≤ R.locals) (hlen : As.length = k) (hsum : (rest.map fun v => v.category).sum ≤ 8) (hf : cells + rm.cells ≤ R.cells ∧ slots + rm.slots ≤ R.slots) (hd : decode cc pc = .ok (.invokestatic idx, 3)) : kR p l e R s m args below meth c g A nL ws wc cells slots rm.cells rm.slots pc lv (As.reverse ++ rest) rest Qx :=
  ⟨_, fun H locs ls hP hD hS hl => va_runS (n := k) ⟨F.1, F.2.1, F.2.2.1, F.2.2.2.1, F.2.2.2.2.1⟩ (M H.size) ⟨callB_of k F.2.2.2.2.1 (kGI hcode) rfl rfl rfl (F.2.2.2.2.1 _ hini) (F.2.2.2.2.1 _ hlink) hd0 hR, F.2.2.2.2.1 _ hstat⟩ ⟨kPre_blind, fun U hU hW => ⟨rfl, by rw [hU], by rw [hU]; exact hP.sub isC (kfm hC), F.2.2.2.2.2.1.warm hW, (hD.sub isC hnC hC).weaken (fun _ _ _ _ => trivial)⟩⟩ rfl hlen hl.1 rfl (lv_room hsum) hd hf⟩
theorem k_rI {b : Nat} {y : MethodName} {bytes : ByteArray} {maxL idx k : Nat} {rm : Room} {Qx : kQ} {As : List Value} (F : kF p s m args meth c g A nL cc own ret0 nm) (M : kM l y bytes maxL none rm g (.ref b :: As) wc Qx) (isC : List Nat) (hC : isC.map (fun i => ws[i]?) = wc.map some) (hnC : va_nd isC = true) (hcode : Cond.code y bytes maxL none ∈ uT) (hlink : Cond.methodLink own idx y ∈ uT) (hinst : Cond.instanceMethod y ∈ uT) (hini : Cond.initialized y.cls ∈ uT) (hy1 : y.name = "<init>") (hd0 : y.cls ≠ "java/lang/invoke/MethodHandle" ∧ y.cls ≠ "java/lang/invoke/VarHandle" ∧ (parseMethodDescriptor y.desc).map (fun d => d.parameters.length) = some k) (hR : rm.frames + 1 ≤ R.frames ∧ 8 + (maxL + 11) + rm.locals ≤ R.locals) (hlen : As.length = k) (hsum : (rest.map fun v => v.category).sum ≤ 8) (hf : cells + rm.cells ≤ R.cells ∧ slots + rm.slots ≤ R.slots) (hd : decode cc pc = .ok (.invokespecial idx, 3)) : kR p l e R s m args below meth c g A nL ws wc cells slots rm.cells rm.slots pc lv (As.reverse ++ .ref b :: rest) rest Qx :=
  ⟨_, fun H locs ls hP hD hS hl => va_runI (n := k) ⟨F.1, F.2.1, F.2.2.1, F.2.2.2.1, F.2.2.2.2.1⟩ (M H.size) ⟨callB_of k F.2.2.2.2.1 (kGI hcode) rfl rfl rfl (F.2.2.2.2.1 _ hini) (F.2.2.2.2.1 _ hlink) hd0 hR, hy1, F.2.2.2.2.1 _ hinst⟩ ⟨kPre_blind, fun U hU hW => ⟨rfl, by rw [hU], by rw [hU]; exact hP.sub isC (kfm hC), F.2.2.2.2.2.1.warm hW, (hD.sub isC hnC hC).weaken (fun _ _ _ _ => trivial)⟩⟩ rfl hlen hl.1 rfl (lv_room hsum) hd hf⟩
theorem k_rIN {b : Nat} {host : String} {y : MethodName} {bytes : ByteArray} {maxL idx k : Nat} {rm : Room} {Qx : kQ} {As : List Value} (F : kF p s m args meth c g A nL cc own ret0 nm) (M : kM l y bytes maxL none rm g (.ref b :: As) wc Qx) (isC : List Nat) (hC : isC.map (fun i => ws[i]?) = wc.map some) (hnC : va_nd isC = true) (hcode : Cond.code y bytes maxL none ∈ uT) (hlink : Cond.methodLinkNest own idx y host ∈ kN) (hinst : Cond.instanceMethod y ∈ uT) (hini : Cond.initialized y.cls ∈ uT) (hy1 : y.name = "<init>") (hd0 : y.cls ≠ "java/lang/invoke/MethodHandle" ∧ y.cls ≠ "java/lang/invoke/VarHandle" ∧ (parseMethodDescriptor y.desc).map (fun d => d.parameters.length) = some k) (hR : rm.frames + 1 ≤ R.frames ∧ 8 + (maxL + 11) + rm.locals ≤ R.locals) (hlen : As.length = k) (hsum : (rest.map fun v => v.category).sum ≤ 8) (hf : cells + rm.cells ≤ R.cells ∧ slots + rm.slots ≤ R.slots) (hd : decode cc pc = .ok (.invokespecial idx, 3)) : kR p l e R s m args below meth c g A nL ws wc cells slots rm.cells rm.slots pc lv (As.reverse ++ .ref b :: rest) rest Qx :=
  ⟨_, fun H locs ls hP hD hS hl => va_runIN (n := k) (host := host) ⟨F.1, F.2.1, F.2.2.1, F.2.2.2.1, F.2.2.2.2.1⟩ (M H.size) ⟨va_cnB k F.2.2.2.2.1 (kGI hcode) rfl rfl rfl (F.2.2.2.2.2.1.2.1 _ hlink) (F.2.2.2.2.1 _ hini) hd0 hR, hy1, F.2.2.2.2.1 _ hinst⟩ ⟨kPre_blind, fun U hU hW => ⟨rfl, by rw [hU], by rw [hU]; exact hP.sub isC (kfm hC), F.2.2.2.2.2.1.warm hW, (hD.sub isC hnC hC).weaken (fun _ _ _ _ => trivial)⟩⟩ rfl hlen hl.1 rfl (lv_room hsum) hd hf⟩
theorem k_rSU {C : String} {T : u_T} {N ci b : Nat} {fs : List Value} {y : MethodName} {bytes : ByteArray} {maxL idx k : Nat} {ret : Option FieldType} {rm : Room} {Qx : kQ} {As : List Value} (F : kF p s m args meth c g A nL cc own ret0 nm) (M : kM l y bytes maxL ret rm g (.ref b :: As) wc Qx) (isC : List Nat) (hC : isC.map (fun i => ws[i]?) = wc.map some) (hnC : va_nd isC = true) (q0 : Nat) (hrec : wc[q0]? = some (b, .inr (ci, fs))) (hcl : vwCl[ci]? = some (C, T, N)) (hcode : Cond.code y bytes maxL ret ∈ uT) (hlink : Cond.methodLink own idx y ∈ uT) (hsame : Cond.sameMethod y.cls y.cls y.name y.desc ∈ uT) (hsup : Cond.superclass own y.cls ∈ uT) (hinst : Cond.instanceMethod y ∈ uT) (hini : Cond.initialized y.cls ∈ uT) (hno : y.name ≠ "<init>") (hd0 : y.cls ≠ "java/lang/invoke/MethodHandle" ∧ y.cls ≠ "java/lang/invoke/VarHandle" ∧ (parseMethodDescriptor y.desc).map (fun d => d.parameters.length) = some k) (hR : rm.frames + 1 ≤ R.frames ∧ 8 + (maxL + 11) + rm.locals ≤ R.locals) (hlen : As.length = k) (hsum : (rest.map fun v => v.category).sum ≤ 8) (hf : cells + rm.cells ≤ R.cells ∧ slots + rm.slots ≤ R.slots) (hd : decode cc pc = .ok (.invokespecial idx, 3)) : kR p l e R s m args below meth c g A nL ws wc cells slots rm.cells rm.slots pc lv (As.reverse ++ .ref b :: rest) rest Qx :=
  ⟨_, fun H locs ls hP hD hS hl => va_runSU (n := k) (C := C) (F.2.2.2.2.2.1.1.1 ci _ hcl).2 ⟨F.1, F.2.1, F.2.2.1, F.2.2.2.1, F.2.2.2.2.1⟩ (M H.size) (va_cwSU k F.2.2.2.2.1 (fun w hw => by
    rcases List.mem_append.mp (show w ∈ ([.methodLink own idx y, .sameMethod y.cls y.cls y.name y.desc, .superclass own y.cls, .instanceMethod y, .initialized y.cls] : List Cond) ++ kWd y bytes maxL ret from hw) with h | h
    · have : w ∈ uT := by
        simp only [List.mem_cons, List.not_mem_nil, or_false] at h
        rcases h with rfl | rfl | rfl | rfl | rfl
        · exact hlink
        · exact hsame
        · exact hsup
        · exact hinst
        · exact hini
      exact ⟨this, good_of_word (uT_good this)⟩
    · exact kGI hcode w h) rfl rfl rfl ⟨hno, hd0.2.2⟩ hR) ⟨kPre_blind, va_recv F.2.2.2.2.2.1.1 (hP.sub isC (kfm hC)) hcl hrec, fun U hU hW => ⟨rfl, by rw [hU], by rw [hU]; exact hP.sub isC (kfm hC), F.2.2.2.2.2.1.warm hW, (hD.sub isC hnC hC).weaken (fun _ _ _ _ => trivial)⟩⟩ rfl hlen hl.1 rfl (lv_room hsum) hd hf⟩
theorem k_rU {C owner : String} {T : u_T} {N ci b : Nat} {fs : List Value} {x : MethodName} {b0 : ByteArray} {m0 : Nat} {r0 : Option FieldType} {y : MethodName} {bytes : ByteArray} {maxL idx k : Nat} {ret : Option FieldType} {rm : Room} {Qx : kQ} {As : List Value} (F : kF p s m args meth c g A nL cc own ret0 nm) (M : kM l y bytes maxL ret rm g (.ref b :: As) wc Qx) (isC : List Nat) (hC : isC.map (fun i => ws[i]?) = wc.map some) (hnC : va_nd isC = true) (q0 : Nat) (hrec : wc[q0]? = some (b, .inr (ci, fs))) (hcl : vwCl[ci]? = some (C, T, N)) (hcode : Cond.code y bytes maxL ret ∈ uT) (hcode0 : Cond.code ⟨owner, x.name, x.desc⟩ b0 m0 r0 ∈ uT) (hlink : Cond.methodLink own idx x ∈ uT) (hsame : Cond.sameMethod x.cls owner x.name x.desc ∈ uT) (hinst0 : Cond.instanceMethod ⟨owner, x.name, x.desc⟩ ∈ uT) (hsel : Cond.selects C x y ∈ uT) (hinst : Cond.instanceMethod y ∈ uT) (hini : Cond.initialized y.cls ∈ uT) (hd0 : owner ≠ "java/lang/invoke/MethodHandle" ∧ owner ≠ "java/lang/invoke/VarHandle" ∧ (parseMethodDescriptor x.desc).map (fun d => d.parameters.length) = some k) (hR : rm.frames + 1 ≤ R.frames ∧ 8 + (maxL + 11) + rm.locals ≤ R.locals) (hlen : As.length = k) (hsum : (rest.map fun v => v.category).sum ≤ 8) (hf : cells + rm.cells ≤ R.cells ∧ slots + rm.slots ≤ R.slots) (hd : decode cc pc = .ok (.invokevirtual idx, 3)) : kR p l e R s m args below meth c g A nL ws wc cells slots rm.cells rm.slots pc lv (As.reverse ++ .ref b :: rest) rest Qx :=
  ⟨_, fun H locs ls hP hD hS hl => va_runU (n := k) (C := C) ⟨F.1, F.2.1, F.2.2.1, F.2.2.2.1, F.2.2.2.2.1⟩ (M H.size) (va_cwO k F.2.2.2.2.1 (fun w hw => by
    rcases List.mem_append.mp (show w ∈ ([.methodLink own idx x, .sameMethod x.cls owner x.name x.desc, .instanceMethod ⟨owner, x.name, x.desc⟩, .selects C x y, .instanceMethod y, .initialized y.cls] : List Cond) ++ kWd y bytes maxL ret from hw) with h | h
    · have : w ∈ uT := by
        simp only [List.mem_cons, List.not_mem_nil, or_false] at h
        rcases h with rfl | rfl | rfl | rfl | rfl | rfl
        · exact hlink
        · exact hsame
        · exact hinst0
        · exact hsel
        · exact hinst
        · exact hini
      exact ⟨this, good_of_word (uT_good this)⟩
    · exact kGI hcode w h) rfl rfl rfl hcode0 hd0 hR) ⟨kPre_blind, va_recv F.2.2.2.2.2.1.1 (hP.sub isC (kfm hC)) hcl hrec, fun U hU hW => ⟨rfl, by rw [hU], by rw [hU]; exact hP.sub isC (kfm hC), F.2.2.2.2.2.1.warm hW, (hD.sub isC hnC hC).weaken (fun _ _ _ _ => trivial)⟩⟩ rfl hlen hl.1 rfl (lv_room hsum) hd hf⟩
theorem k_objInit (F : kF p s m args meth c g A nL cc own ret0 nm) {idx a : Nat} (hlink : Cond.methodLink own idx objectInit ∈ uT) (hinst : Cond.instanceMethod objectInit ∈ uT) (hcode : Cond.code objectInit ⟨#[0xb1]⟩ 1 none ∈ uT) (hd : decode cc pc = .ok (.invokespecial idx, 3)) (hfr : 1 ≤ R.frames) (hlo : (rest.map fun v => v.category).sum + 12 ≤ R.locals) (hn : pc + 3 = n) (kk : KW p l e R s m args below meth c Q g A nL ws cells slots n lv rest) : KW p l e R s m args below meth c Q g A nL ws cells slots pc lv (.ref a :: rest) := by
  subst hn
  intro H locs ls hP hD hS hl
  refine W.objInit F.1 F.2.1 F.2.2.2.1 (F.2.2.2.2.1 _ hlink) (F.2.2.2.2.1 _ hinst) (F.2.2.2.2.1 _ hcode) rfl (by rw [F.2.2.1]; exact hl.1) rfl hd hfr (by show 2 * 0 + _ + 12 ≤ _; omega) ?_
  exact kk H locs ls hP hD hS hl
theorem k_mmin (F : kF p s m args meth c g A nL cc own ret0 nm) {idx : Nat} {x y : Int32} (hlink : Cond.methodLink own idx Lib.Math.min.name ∈ uT) (hstat : Cond.static Lib.Math.min.name ∈ uT) (hini : Cond.initialized "java/lang/Math" ∈ uT) (hcode : Cond.code Lib.Math.min.name Lib.Math.min.code 2 (some .int) ∈ uT) (hd : decode cc pc = .ok (.invokestatic idx, 3)) (hfr : 1 ≤ R.frames) (hlo : (rest.map fun v => v.category).sum + 13 ≤ R.locals) (hc : cells ≤ R.cells) (hs : slots ≤ R.slots) (hn : pc + 3 = n) (kk : KW p l e R s m args below meth c Q g A nL ws cells slots n lv (.int (if y < x then y else x) :: rest)) : KW p l e R s m args below meth c Q g A nL ws cells slots pc lv (.int y :: .int x :: rest) := by
  subst hn
  exact fun H locs ls hP hD hS hl => va_mmin F.1 F.2.1 (F.2.2.1.trans hl.1.symm) F.2.2.2.1 (F.2.2.2.2.1 _ hlink) (F.2.2.2.2.1 _ hstat) (F.2.2.2.2.1 _ hini) (F.2.2.2.2.1 _ hcode) hfr hlo hc hs hd (kk H locs ls hP hD hS hl)
theorem k_mmax (F : kF p s m args meth c g A nL cc own ret0 nm) {idx : Nat} {x y : Int32} (hlink : Cond.methodLink own idx Lib.Math.max.name ∈ uT) (hstat : Cond.static Lib.Math.max.name ∈ uT) (hini : Cond.initialized "java/lang/Math" ∈ uT) (hcode : Cond.code Lib.Math.max.name Lib.Math.max.code 2 (some .int) ∈ uT) (hd : decode cc pc = .ok (.invokestatic idx, 3)) (hfr : 1 ≤ R.frames) (hlo : (rest.map fun v => v.category).sum + 13 ≤ R.locals) (hc : cells ≤ R.cells) (hs : slots ≤ R.slots) (hn : pc + 3 = n) (kk : KW p l e R s m args below meth c Q g A nL ws cells slots n lv (.int (if x < y then y else x) :: rest)) : KW p l e R s m args below meth c Q g A nL ws cells slots pc lv (.int y :: .int x :: rest) := by
  subst hn
  exact fun H locs ls hP hD hS hl => va_mmax F.1 F.2.1 (F.2.2.1.trans hl.1.symm) F.2.2.2.1 (F.2.2.2.2.1 _ hlink) (F.2.2.2.2.1 _ hstat) (F.2.2.2.2.1 _ hini) (F.2.2.2.2.1 _ hcode) hfr hlo hc hs hd (kk H locs ls hP hD hS hl)
theorem k_copyi (F : kF p s m args meth c g A nL cc own ret0 nm) {idx a a0 n0 n1 S D N : Nat} {f h : Nat → Int32} {sp dp z : Int32} (hlink : Cond.methodLink own idx arraycopyName ∈ uT) (hnat : Cond.native arraycopyName ∈ uT) (hstat : Cond.static arraycopyName ∈ uT) (hini : Cond.initialized "java/lang/System" ∈ uT) (q0 q1 : Nat) (ha0 : ws[q0]? = some (a0, .inl (g.2 0, n0, .inl f))) (ha1 : ws[q1]? = some (a, .inl (g.2 0, n1, .inl h))) (hsp : ¬ sp < 0 ∧ sp.toNatClampNeg = S) (hdp : ¬ dp < 0 ∧ dp.toNatClampNeg = D) (hz : ¬ z < 0 ∧ z.toNatClampNeg = N) (h4 : S + N ≤ n0) (h5 : D + N ≤ n1) (hw : ws.set q1 (a, .inl (g.2 0, n1, .inl (va_cpy f h S D N))) = ws') (hd : decode cc pc = .ok (.invokestatic idx, 3)) (hfr : 1 ≤ R.frames) (hlo : (rest.map fun v => v.category).sum + (nativeFrameWords "java/lang/System" "arraycopy" 5 + 11) ≤ R.locals) (hn : pc + 3 = n) (kk : KW p l e R s m args below meth c Q g A nL ws' cells slots n lv rest) : KW p l e R s m args below meth c Q g A nL ws cells slots pc lv (.int z :: .int dp :: .ref a :: .int sp :: .ref a0 :: rest) := by
  subst hn
  obtain ⟨h1, rfl⟩ := hsp
  obtain ⟨h2, rfl⟩ := hdp
  obtain ⟨h3, rfl⟩ := hz
  subst hw
  exact fun H locs ls hP hD hS hl => va_copyi F.1 F.2.1 (F.2.2.1.trans hl.1.symm) F.2.2.2.1 (F.2.2.2.2.1 _ hlink) (F.2.2.2.2.1 _ hnat) (F.2.2.2.2.1 _ hstat) (F.2.2.2.2.1 _ hini) F.2.2.2.2.2.1.1 hP hD hS q0 q1 0 0 ha0 ha1 rfl rfl rfl h1 h2 h3 h4 h5 (fun _ _ => rfl) hfr hlo hd (fun H1 locs1 hP1 hD1 hS1 => kk H1 locs1 ls hP1 hD1 hS1 hl)
end KC
