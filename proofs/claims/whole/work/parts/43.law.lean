/-! the law: one half of the world is called -/
theorem va_nd_of : ∀ {w : List Nat}, w.Nodup → va_nd w = true
  | [], _ => rfl
  | a :: w, h => by
    have h := List.nodup_cons.mp h
    show (decide (a ∉ w) && va_nd w) = true
    rw [va_nd_of h.2, decide_eq_true h.1]
    rfl
theorem kl_map (X Y : va_W) : (List.range X.length).map (fun i => (X ++ Y)[i]?) = X.map some := by
  apply List.ext_getElem (by simp)
  intro k h1 h2
  have hk : k < X.length := by simpa using h1
  simp [List.getElem?_append_left hk, List.getElem?_eq_getElem hk]
theorem kl_mapR (X Y : va_W) : (List.range' X.length Y.length).map (fun i => (X ++ Y)[i]?) = Y.map some := by
  apply List.ext_getElem (by simp)
  intro k h1 h2
  have hk : k < Y.length := by simpa using h1
  simp [List.getElem?_append_right, hk]
theorem kl_dis (X Y : va_W) : ∀ i ∈ List.range' X.length Y.length, i ∉ List.range X.length := fun i h1 h2 => by
  have a := List.mem_range'_1.mp h1
  have b := List.mem_range.mp h2
  omega
def kEl (g : kG) (po : Int64 → va_W → Prop) : kQ := fun A => va_Ql po (kB g A) A
section
variable {p : Program} {l : Launch} {e : Env} {R : Room} {s : State} {m : MethodId} {args : Array Value} {below : List Frame} {meth : Method} {c : Code} {Q : State → Prop} {g : kG} {A : Nat → Prop} {nL : Nat} {cc : ByteArray} {own : String} {ret0 : Option FieldType} {nm : String} {X Y : va_W} {cells slots pc n : Nat} {lv : List (Nat × Value)} {rest st0 : List Value}
theorem kl_i {mc ms : Nat} {po : Int32 → va_W → Prop} (F : kF p s m args meth c g A nL cc own ret0 nm) (hr : kR p l e R s m args below meth c g A nL (X ++ Y) X cells slots mc ms pc lv st0 rest (kEi g po)) (hn : pc + 3 = n) (kk : ∀ (r : Int32) (u : va_W), po r u → KW p l e R s m args below meth c Q g A nL (u ++ Y) (cells + mc) (slots + ms) n lv (.int r :: rest)) : KW p l e R s m args below meth c Q g A nL (X ++ Y) cells slots pc lv st0 := by
  subst hn
  obtain ⟨a, hr⟩ := hr
  intro H locs ls hP hD hS hl
  have hFc := va_free (wc := X) hD hS F.2.2.2.2.2.2.1 (List.range X.length) (kl_map X Y)
  refine va_calli (hr H locs ls hP hD hS hl) hS (fun q _ h => hFc q h) hFc (fun r u t H1 locs1 ht hvm hw hB hz hk hS1 => ?_)
  obtain ⟨hP1, hD1⟩ := hB
  rw [ht] at hP1
  obtain ⟨hP2, hD2⟩ := va_join hP hD (List.range X.length) (List.range' X.length Y.length) (kl_map X Y) (kl_mapR X Y) (va_nd_of List.nodup_range') (kl_dis X Y) hk hFc hP1 hD1
  exact k_swap (kk r u hw) H1 locs1 ls hP2 hD2 hS1 hl
theorem kl_l {mc ms : Nat} {po : Int64 → va_W → Prop} (F : kF p s m args meth c g A nL cc own ret0 nm) (hr : kR p l e R s m args below meth c g A nL (X ++ Y) X cells slots mc ms pc lv st0 rest (kEl g po)) (hn : pc + 3 = n) (kk : ∀ (r : Int64) (u : va_W), po r u → KW p l e R s m args below meth c Q g A nL (u ++ Y) (cells + mc) (slots + ms) n lv (.long r :: rest)) : KW p l e R s m args below meth c Q g A nL (X ++ Y) cells slots pc lv st0 := by
  subst hn
  obtain ⟨a, hr⟩ := hr
  intro H locs ls hP hD hS hl
  have hFc := va_free (wc := X) hD hS F.2.2.2.2.2.2.1 (List.range X.length) (kl_map X Y)
  refine va_calll (hr H locs ls hP hD hS hl) hS (fun q _ h => hFc q h) hFc (fun r u t H1 locs1 ht hvm hw hB hz hk hS1 => ?_)
  obtain ⟨hP1, hD1⟩ := hB
  rw [ht] at hP1
  obtain ⟨hP2, hD2⟩ := va_join hP hD (List.range X.length) (List.range' X.length Y.length) (kl_map X Y) (kl_mapR X Y) (va_nd_of List.nodup_range') (kl_dis X Y) hk hFc hP1 hD1
  exact k_swap (kk r u hw) H1 locs1 ls hP2 hD2 hS1 hl
/-- the coolers' keys are as before -/
def cq (u v : kS) : Prop := v.1 2 = u.1 2 ∧ v.2.2.1 3 = u.2.2.1 3 ∧ v.2.2.1 4 = u.2.2.1 4 ∧ v.2.2.1 5 = u.2.2.1 5
abbrev cfU (ca : Nat → Nat) (u : kS) : Nat → Option Nat := coolF ca (u.1 2).toNatClampNeg
abbrev cwU (g : kG) (ca cb : Nat → Nat) (u : kS) : va_W := coolW g ca cb (u.2.2.1 3) (u.2.2.1 4) (u.2.2.1 5) (u.1 2).toNatClampNeg
theorem wK_of {ad ca cb : Nat → Nat} {u v : kS} (h : cq u v) : wC g ad v (cfU ca u) ++ (cwU g ca cb u ++ Y) = wK g ad ca cb v ++ Y := by
  rw [← List.append_assoc]
  unfold wK cfU cwU
  rw [h.1, h.2.1, h.2.2.1, h.2.2.2]
/-- a call of the class that leaves the coolers -/
theorem kl_Ci {C : String} {T : u_T} {N : Nat} {y : MethodName} {bytes : ByteArray} {maxL idx k : Nat} {ret : Option FieldType} {rm : Room} {As : List Value} {r0 : Int32} {u v : kS} {ad ca cb : Nat → Nat} (F : kF p s m args meth c g A nL cc own ret0 nm) (M : kM l y bytes maxL ret rm g (.ref (ad 0) :: As) (wC g ad u (cfU ca u)) (kDi g r0 (wC g ad v (cfU ca u)))) (hq : cq u v) (hcl : vwCl[9]? = some (C, T, N)) (hcode : Cond.code y bytes maxL ret ∈ uT) (hlink : Cond.methodLink own idx y ∈ uT) (hinst : Cond.instanceMethod y ∈ uT) (hsel : Cond.selects C y y ∈ uT) (hini : Cond.initialized y.cls ∈ uT) (hd0 : y.cls ≠ "java/lang/invoke/MethodHandle" ∧ y.cls ≠ "java/lang/invoke/VarHandle" ∧ (parseMethodDescriptor y.desc).map (fun d => d.parameters.length) = some k) (hR : rm.frames + 1 ≤ R.frames ∧ 8 + (maxL + 11) + rm.locals ≤ R.locals) (hlen : As.length = k) (hsum : (rest.map fun v => v.category).sum ≤ 8) (hf : cells + rm.cells ≤ R.cells ∧ slots + rm.slots ≤ R.slots) (hd : decode cc pc = .ok (.invokevirtual idx, 3)) (hn : pc + 3 = n) (h2 : rm.cells ≤ 2 ∧ rm.slots ≤ 7) (kk : KW p l e R s m args below meth c Q g A nL (Y ++ wK g ad ca cb v) (cells + 2) (slots + 7) n lv (.int r0 :: rest)) : KW p l e R s m args below meth c Q g A nL (wK g ad ca cb u ++ Y) cells slots pc lv (As.reverse ++ .ref (ad 0) :: rest) := by
  refine k_world (ws' := wC g ad u (cfU ca u) ++ (cwU g ca cb u ++ Y)) (List.append_assoc _ _ _) ?_
  refine kl_i (po := fun r w => r = r0 ∧ w = wC g ad v (cfU ca u)) F (k_rV (wc := wC g ad u (cfU ca u)) (ci := 9) F M (List.range (wC g ad u (cfU ca u)).length) (kl_map _ _) (va_nd_of List.nodup_range) 0 rfl hcl hcode hlink hinst hsel hini hd0 hR hlen hsum hf hd) hn (fun r w hw => ?_)
  rw [hw.1, hw.2]
  refine k_world (wK_of hq) ?_
  refine k_widen (Nat.add_le_add_left h2.1 _) (Nat.add_le_add_left h2.2 _) ?_
  exact k_swap kk
/-- a call of the reference -/
theorem kl_Ri {C : String} {T : u_T} {N : Nat} {y : MethodName} {bytes : ByteArray} {maxL idx k : Nat} {ret : Option FieldType} {rm : Room} {As : List Value} {r0 : Int32} {u v : kS} {h0 : Nat} {ad : Nat → Nat} (F : kF p s m args meth c g A nL cc own ret0 nm) (M : kM l y bytes maxL ret rm g (.ref h0 :: As) (wR g h0 ad u) (kDi g r0 (wR g h0 ad v))) (hcl : vwCl[10]? = some (C, T, N)) (hcode : Cond.code y bytes maxL ret ∈ uT) (hlink : Cond.methodLink own idx y ∈ uT) (hinst : Cond.instanceMethod y ∈ uT) (hsel : Cond.selects C y y ∈ uT) (hini : Cond.initialized y.cls ∈ uT) (hd0 : y.cls ≠ "java/lang/invoke/MethodHandle" ∧ y.cls ≠ "java/lang/invoke/VarHandle" ∧ (parseMethodDescriptor y.desc).map (fun d => d.parameters.length) = some k) (hR : rm.frames + 1 ≤ R.frames ∧ 8 + (maxL + 11) + rm.locals ≤ R.locals) (hlen : As.length = k) (hsum : (rest.map fun v => v.category).sum ≤ 8) (hf : cells + rm.cells ≤ R.cells ∧ slots + rm.slots ≤ R.slots) (hd : decode cc pc = .ok (.invokevirtual idx, 3)) (hn : pc + 3 = n) (h2 : rm.cells = 0 ∧ rm.slots = 0) (kk : KW p l e R s m args below meth c Q g A nL (Y ++ wR g h0 ad v) cells slots n lv (.int r0 :: rest)) : KW p l e R s m args below meth c Q g A nL (wR g h0 ad u ++ Y) cells slots pc lv (As.reverse ++ .ref h0 :: rest) := by
  refine kl_i (po := fun r w => r = r0 ∧ w = wR g h0 ad v) F (k_rV (wc := wR g h0 ad u) (ci := 10) F M (List.range (wR g h0 ad u).length) (kl_map _ _) (va_nd_of List.nodup_range) 0 rfl hcl hcode hlink hinst hsel hini hd0 hR hlen hsum hf hd) hn (fun r w hw => ?_)
  rw [hw.1, hw.2, h2.1, h2.2]
  exact k_swap kk
/-- a call of the class that leaves the coolers -/
theorem kl_Cl {C : String} {T : u_T} {N : Nat} {y : MethodName} {bytes : ByteArray} {maxL idx k : Nat} {ret : Option FieldType} {rm : Room} {As : List Value} {r0 : Int64} {u v : kS} {ad ca cb : Nat → Nat} (F : kF p s m args meth c g A nL cc own ret0 nm) (M : kM l y bytes maxL ret rm g (.ref (ad 0) :: As) (wC g ad u (cfU ca u)) (kDl g r0 (wC g ad v (cfU ca u)))) (hq : cq u v) (hcl : vwCl[9]? = some (C, T, N)) (hcode : Cond.code y bytes maxL ret ∈ uT) (hlink : Cond.methodLink own idx y ∈ uT) (hinst : Cond.instanceMethod y ∈ uT) (hsel : Cond.selects C y y ∈ uT) (hini : Cond.initialized y.cls ∈ uT) (hd0 : y.cls ≠ "java/lang/invoke/MethodHandle" ∧ y.cls ≠ "java/lang/invoke/VarHandle" ∧ (parseMethodDescriptor y.desc).map (fun d => d.parameters.length) = some k) (hR : rm.frames + 1 ≤ R.frames ∧ 8 + (maxL + 11) + rm.locals ≤ R.locals) (hlen : As.length = k) (hsum : (rest.map fun v => v.category).sum ≤ 8) (hf : cells + rm.cells ≤ R.cells ∧ slots + rm.slots ≤ R.slots) (hd : decode cc pc = .ok (.invokevirtual idx, 3)) (hn : pc + 3 = n) (h2 : rm.cells ≤ 2 ∧ rm.slots ≤ 7) (kk : KW p l e R s m args below meth c Q g A nL (Y ++ wK g ad ca cb v) (cells + 2) (slots + 7) n lv (.long r0 :: rest)) : KW p l e R s m args below meth c Q g A nL (wK g ad ca cb u ++ Y) cells slots pc lv (As.reverse ++ .ref (ad 0) :: rest) := by
  refine k_world (ws' := wC g ad u (cfU ca u) ++ (cwU g ca cb u ++ Y)) (List.append_assoc _ _ _) ?_
  refine kl_l (po := fun r w => r = r0 ∧ w = wC g ad v (cfU ca u)) F (k_rV (wc := wC g ad u (cfU ca u)) (ci := 9) F M (List.range (wC g ad u (cfU ca u)).length) (kl_map _ _) (va_nd_of List.nodup_range) 0 rfl hcl hcode hlink hinst hsel hini hd0 hR hlen hsum hf hd) hn (fun r w hw => ?_)
  rw [hw.1, hw.2]
  refine k_world (wK_of hq) ?_
  refine k_widen (Nat.add_le_add_left h2.1 _) (Nat.add_le_add_left h2.2 _) ?_
  exact k_swap kk
/-- a call of the reference -/
theorem kl_Rl {C : String} {T : u_T} {N : Nat} {y : MethodName} {bytes : ByteArray} {maxL idx k : Nat} {ret : Option FieldType} {rm : Room} {As : List Value} {r0 : Int64} {u v : kS} {h0 : Nat} {ad : Nat → Nat} (F : kF p s m args meth c g A nL cc own ret0 nm) (M : kM l y bytes maxL ret rm g (.ref h0 :: As) (wR g h0 ad u) (kDl g r0 (wR g h0 ad v))) (hcl : vwCl[10]? = some (C, T, N)) (hcode : Cond.code y bytes maxL ret ∈ uT) (hlink : Cond.methodLink own idx y ∈ uT) (hinst : Cond.instanceMethod y ∈ uT) (hsel : Cond.selects C y y ∈ uT) (hini : Cond.initialized y.cls ∈ uT) (hd0 : y.cls ≠ "java/lang/invoke/MethodHandle" ∧ y.cls ≠ "java/lang/invoke/VarHandle" ∧ (parseMethodDescriptor y.desc).map (fun d => d.parameters.length) = some k) (hR : rm.frames + 1 ≤ R.frames ∧ 8 + (maxL + 11) + rm.locals ≤ R.locals) (hlen : As.length = k) (hsum : (rest.map fun v => v.category).sum ≤ 8) (hf : cells + rm.cells ≤ R.cells ∧ slots + rm.slots ≤ R.slots) (hd : decode cc pc = .ok (.invokevirtual idx, 3)) (hn : pc + 3 = n) (h2 : rm.cells = 0 ∧ rm.slots = 0) (kk : KW p l e R s m args below meth c Q g A nL (Y ++ wR g h0 ad v) cells slots n lv (.long r0 :: rest)) : KW p l e R s m args below meth c Q g A nL (wR g h0 ad u ++ Y) cells slots pc lv (As.reverse ++ .ref h0 :: rest) := by
  refine kl_l (po := fun r w => r = r0 ∧ w = wR g h0 ad v) F (k_rV (wc := wR g h0 ad u) (ci := 10) F M (List.range (wR g h0 ad u).length) (kl_map _ _) (va_nd_of List.nodup_range) 0 rfl hcl hcode hlink hinst hsel hini hd0 hR hlen hsum hf hd) hn (fun r w hw => ?_)
  rw [hw.1, hw.2, h2.1, h2.2]
  exact k_swap kk
/-- a call of the class that takes the coolers along -/
theorem kl_K {C : String} {T : u_T} {N : Nat} {y : MethodName} {bytes : ByteArray} {maxL idx k : Nat} {ret : Option FieldType} {rm : Room} {As : List Value} {r0 : Int32} {u v : kS} {ad ca cb : Nat → Nat} (F : kF p s m args meth c g A nL cc own ret0 nm) (M : kM l y bytes maxL ret rm g (.ref (ad 0) :: As) (wK g ad ca cb u) (kEi g (fun r w => r = r0 ∧ ∃ ca2 cb2 : Nat → Nat, w = wK g ad ca2 cb2 v))) (hcl : vwCl[9]? = some (C, T, N)) (hcode : Cond.code y bytes maxL ret ∈ uT) (hlink : Cond.methodLink own idx y ∈ uT) (hinst : Cond.instanceMethod y ∈ uT) (hsel : Cond.selects C y y ∈ uT) (hini : Cond.initialized y.cls ∈ uT) (hd0 : y.cls ≠ "java/lang/invoke/MethodHandle" ∧ y.cls ≠ "java/lang/invoke/VarHandle" ∧ (parseMethodDescriptor y.desc).map (fun d => d.parameters.length) = some k) (hR : rm.frames + 1 ≤ R.frames ∧ 8 + (maxL + 11) + rm.locals ≤ R.locals) (hlen : As.length = k) (hsum : (rest.map fun v => v.category).sum ≤ 8) (hf : cells + rm.cells ≤ R.cells ∧ slots + rm.slots ≤ R.slots) (hd : decode cc pc = .ok (.invokevirtual idx, 3)) (hn : pc + 3 = n) (h2 : rm.cells ≤ 2 ∧ rm.slots ≤ 7) (kk : ∀ ca cb : Nat → Nat, KW p l e R s m args below meth c Q g A nL (Y ++ wK g ad ca cb v) (cells + 2) (slots + 7) n lv (.int r0 :: rest)) : KW p l e R s m args below meth c Q g A nL (wK g ad ca cb u ++ Y) cells slots pc lv (As.reverse ++ .ref (ad 0) :: rest) := by
  refine kl_i (po := fun r w => r = r0 ∧ ∃ ca2 cb2 : Nat → Nat, w = wK g ad ca2 cb2 v) F (k_rV (wc := wK g ad ca cb u) (ci := 9) F M (List.range (wK g ad ca cb u).length) (kl_map _ _) (va_nd_of List.nodup_range) 0 rfl hcl hcode hlink hinst hsel hini hd0 hR hlen hsum hf hd) hn (fun r w hw => ?_)
  obtain ⟨h3, ca2, cb2, h4⟩ := hw
  rw [h3, h4]
  refine k_widen (Nat.add_le_add_left h2.1 _) (Nat.add_le_add_left h2.2 _) ?_
  exact k_swap (kk ca2 cb2)
theorem kl_Kd {C : String} {T : u_T} {N : Nat} {y : MethodName} {bytes : ByteArray} {maxL idx k : Nat} {ret : Option FieldType} {rm : Room} {As : List Value} {r0 : Int32} {u v : kS} {ad ca cb : Nat → Nat} (F : kF p s m args meth c g A nL cc own ret0 nm) (M : kM l y bytes maxL ret rm g (.ref (ad 0) :: As) (wK g ad ca cb u) (kDi g r0 (wK g ad ca cb v))) (hcl : vwCl[9]? = some (C, T, N)) (hcode : Cond.code y bytes maxL ret ∈ uT) (hlink : Cond.methodLink own idx y ∈ uT) (hinst : Cond.instanceMethod y ∈ uT) (hsel : Cond.selects C y y ∈ uT) (hini : Cond.initialized y.cls ∈ uT) (hd0 : y.cls ≠ "java/lang/invoke/MethodHandle" ∧ y.cls ≠ "java/lang/invoke/VarHandle" ∧ (parseMethodDescriptor y.desc).map (fun d => d.parameters.length) = some k) (hR : rm.frames + 1 ≤ R.frames ∧ 8 + (maxL + 11) + rm.locals ≤ R.locals) (hlen : As.length = k) (hsum : (rest.map fun v => v.category).sum ≤ 8) (hf : cells + rm.cells ≤ R.cells ∧ slots + rm.slots ≤ R.slots) (hd : decode cc pc = .ok (.invokevirtual idx, 3)) (hn : pc + 3 = n) (h2 : rm.cells ≤ 2 ∧ rm.slots ≤ 7) (kk : KW p l e R s m args below meth c Q g A nL (Y ++ wK g ad ca cb v) (cells + 2) (slots + 7) n lv (.int r0 :: rest)) : KW p l e R s m args below meth c Q g A nL (wK g ad ca cb u ++ Y) cells slots pc lv (As.reverse ++ .ref (ad 0) :: rest) := by
  refine kl_i (po := fun r w => r = r0 ∧ w = wK g ad ca cb v) F (k_rV (wc := wK g ad ca cb u) (ci := 9) F M (List.range (wK g ad ca cb u).length) (kl_map _ _) (va_nd_of List.nodup_range) 0 rfl hcl hcode hlink hinst hsel hini hd0 hR hlen hsum hf hd) hn (fun r w hw => ?_)
  rw [hw.1, hw.2]
  refine k_widen (Nat.add_le_add_left h2.1 _) (Nat.add_le_add_left h2.2 _) ?_
  exact k_swap kk
/-- the script: its places and its length -/
theorem k_sld (F : kF p s m args meth c g A nL cc own ret0 nm) {b L : Nat} {xs : Nat → Int32} (hX : va_X b L xs s s.heap) (hbl : b < s.heap.size) (hbA : ¬ A b) {i v : Int32} (hv : vp_in i L ∧ xs i.toNatClampNeg = v) (hd : decode cc pc = .ok (.iaload, 1)) (hn : pc + 1 = n) (kk : KW p l e R s m args below meth c Q g A nL X cells slots n lv (.int v :: rest)) : KW p l e R s m args below meth c Q g A nL X cells slots pc lv (.int i :: .ref b :: rest) := by
  subst hn
  obtain ⟨hv, rfl⟩ := hv
  exact fun H locs ls hP hD hS hl => va_sld F.1 F.2.1 hX hbl hbA hS hv hd (kk H locs ls hP hD hS hl)
theorem k_slen (F : kF p s m args meth c g A nL cc own ret0 nm) {b L : Nat} {xs : Nat → Int32} (hX : va_X b L xs s s.heap) (hbl : b < s.heap.size) (hbA : ¬ A b) (hd : decode cc pc = .ok (.arraylength, 1)) (hn : pc + 1 = n) (kk : KW p l e R s m args below meth c Q g A nL X cells slots n lv (.int (nI L) :: rest)) : KW p l e R s m args below meth c Q g A nL X cells slots pc lv (.ref b :: rest) := by
  subst hn
  exact fun H locs ls hP hD hS hl => va_slen F.1 F.2.1 hX hbl hbA hS hd (kk H locs ls hP hD hS hl)
end
theorem cq_r {u : kS} : cq u u := ⟨rfl, rfl, rfl, rfl⟩
theorem cq_ite {α : Type} {u : kS} {c : Prop} [Decidable c] {x y : α × kS} (h1 : cq u x.2) (h2 : cq u y.2) : cq u (if c then x else y).2 := by
  split
  · exact h1
  · exact h2
theorem cq_iteS {u : kS} {c : Prop} [Decidable c] {x y : kS} (h1 : cq u x) (h2 : cq u y) : cq u (if c then x else y) := by
  split
  · exact h1
  · exact h2
section
variable {u : kS} {n d x v wh pp : Int32}
theorem cq_cells : cq u (f_cells u n pp).2 := by
  unfold f_cells
  exact cq_ite cq_r (cq_ite cq_r (cq_ite cq_r ⟨rfl, rfl, rfl, rfl⟩))
theorem cq_sR {k : Nat} : cq u (sR u k v) := ⟨rfl, rfl, rfl, rfl⟩
theorem cq_set : cq u (f_set u wh v).2 := by
  unfold f_set
  refine cq_ite cq_r ?_
  show cq u (chgS u wh v)
  unfold chgS
  exact cq_iteS cq_sR (cq_iteS cq_sR (cq_iteS cq_sR (cq_iteS cq_sR (cq_iteS cq_sR cq_sR))))
theorem cq_start : cq u (f_start u).2 := by
  unfold f_start
  exact cq_ite cq_r (cq_ite cq_r (cq_ite cq_r ⟨rfl, rfl, rfl, rfl⟩))
theorem cq_low : cq u (f_low u).2 := by
  unfold f_low
  exact cq_ite ⟨rfl, rfl, rfl, rfl⟩ cq_r
theorem cq_high : cq u (f_high u).2 := by
  unfold f_high
  exact cq_ite ⟨rfl, rfl, rfl, rfl⟩ cq_r
theorem cq_trip : cq u (f_trip u).2 := by
  unfold f_trip
  exact cq_ite cq_r (cq_ite cq_r ⟨rfl, rfl, rfl, rfl⟩)
theorem cq_reset : cq u (f_reset u).2 := by
  unfold f_reset
  exact cq_ite cq_r (cq_ite cq_r ⟨rfl, rfl, rfl, rfl⟩)
theorem cq_order : cq u (f_order u n d).2 := by
  unfold f_order
  exact cq_ite cq_r (cq_ite cq_r (cq_ite ⟨rfl, rfl, rfl, rfl⟩ cq_r))
theorem cq_deliver : cq u (f_deliver u).2 := by
  unfold f_deliver
  exact cq_ite ⟨rfl, rfl, rfl, rfl⟩ cq_r
theorem cq_back : cq u (f_back u n).2 := by
  unfold f_back
  exact cq_ite cq_r (cq_ite cq_r (cq_ite cq_r ⟨rfl, rfl, rfl, rfl⟩))
theorem cq_lose : cq u (f_lose u x v).2 := by
  unfold f_lose
  exact cq_ite cq_r ⟨rfl, rfl, rfl, rfl⟩
end
