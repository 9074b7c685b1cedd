abbrev kG : Type := va_G × (Nat → ClassId)
def kT (g : kG) : List (ClassId × FieldType) := [(g.2 0, .int), (g.2 1, .long), (g.2 2, .boolean), (g.2 3, .object "ColdWorks$Throttle")]
/-- what is known of the tables: the classes, the array kinds, the nest's words -/
def kK (g : kG) (U : State) : Prop := va_K g.1 vwCl (kT g) U ∧ (∀ w ∈ kN, va_Nw w U) ∧ va_AO "ColdWorks$Throttle" U
def kNf : Cond → Bool
  | .fieldLinkNest .. => true
  | .methodLinkNest .. => true
  | .castable .. => true
  | _ => false
theorem kNf_warm {w : Cond} (h : kNf w = true) {s U : State} (hW : s.WarmedH U.vm) (hZ : va_Nw w s) : va_Nw w U := by
  cases w <;> first | exact va_Nw.warmF hW hZ | exact va_Nw.warmM hW hZ | exact va_Nw.warmC hW hZ | (simp [kNf] at h; done)
theorem kNf_tab {w : Cond} (h : kNf w = true) : w.onTables = true := by
  cases w <;> first | rfl | (simp [kNf] at h; done)
theorem kNf_all : ∀ w ∈ kN, kNf w = true := fun w hw => List.all_eq_true.mp (show kN.all kNf = true from rfl) w hw
theorem kK.warm {g : kG} {s U : State} (hW : s.WarmedH U.vm) (h : kK g s) : kK g U := ⟨va_K.moved hW.alike h.1, fun w hw => kNf_warm (kNf_all w hw) hW (h.2.1 w hw), h.2.2.moved hW.alike⟩
theorem kK.calling {g : kG} {U : State} {fr : JFrame} {mk : MethodId} {a : Array Value} (h : kK g U) : kK g (U.calling fr mk a) := ⟨va_K.moved (u := U) (U := U.calling fr mk a) (Vm.Alike.refl U.vm) h.1, fun w hw => va_Nw.same (kNf_tab (kNf_all w hw)) (u := U) (U := U.calling fr mk a) rfl (h.2.1 w hw), va_AO.moved (u := U) (U := U.calling fr mk a) (Vm.Alike.refl U.vm) h.2.2⟩
def kPre (g : kG) (av : List Value) (ws : va_W) (sz : Nat) : Array Value → State → Prop := va_Pc av (fun U => U.heap.size = sz ∧ va_P g.1 vwCl ws U.heap ∧ kK g U ∧ va_D (fun _ => True) ws)
theorem kPre_blind {g : kG} {av : List Value} {ws : va_W} {sz : Nat} : FrameBlind (kPre g av ws sz) := fun a U fr mk q => by
  obtain ⟨q0, q1, qP, qK, qD⟩ := q
  exact ⟨q0, q1, qP, qK.calling, qD⟩
def kWd (y : MethodName) (cc : ByteArray) (nL : Nat) (ret : Option FieldType) : List Cond := Cond.code y cc nL ret :: uT
theorem kGI {y : MethodName} {cc : ByteArray} {nL : Nat} {ret : Option FieldType} (h : Cond.code y cc nL ret ∈ uT) : GoodIn uT (kWd y cc nL ret) := by
  intro w hw
  rcases List.mem_cons.mp hw with rfl | hw
  · exact ⟨h, good_of_word (uT_good h)⟩
  · exact ⟨hw, good_of_word (uT_good hw)⟩
def kB (g : kG) (A : Nat → Prop) (w : va_W) (t : State) : Prop := va_P g.1 vwCl w t.heap ∧ va_D A w
abbrev kQ : Type := (Nat → Prop) → Array Value → State → Outcome → State → Prop
/-- contracts that tell the answer and the world behind it -/
def kDi (g : kG) (r0 : Int32) (w0 : va_W) : kQ := fun A => va_Qi (fun r w => r = r0 ∧ w = w0) (kB g A) A
def kDl (g : kG) (r0 : Int64) (w0 : va_W) : kQ := fun A => va_Ql (fun r w => r = r0 ∧ w = w0) (kB g A) A
def kDv (g : kG) (w0 : va_W) : kQ := fun A => va_Qv (fun w => w = w0) (kB g A) A
def kDq (g : kG) (r0 : Option Nat) (w0 : va_W) : kQ := fun A => va_Qq (fun r w => r = r0 ∧ w = w0) (kB g A) A
/-- contracts with a world that is only described -/
def kEv (g : kG) (po : va_W → Prop) : kQ := fun A => va_Qv po (kB g A) A
def kEi (g : kG) (po : Int32 → va_W → Prop) : kQ := fun A => va_Qi po (kB g A) A
def kEq (g : kG) (po : Option Nat → va_W → Prop) : kQ := fun A => va_Qq po (kB g A) A
/-- the contract of a method: from the world ws to what Qx says; mc cells of ms slots are made at most -/
def kM (l : Launch) (y : MethodName) (cc : ByteArray) (nL : Nat) (ret : Option FieldType) (rm : Room) (g : kG) (av : List Value) (ws : va_W) (Qx : kQ) : Prop := ∀ sz : Nat, Met l y (kWd y cc nL ret) rm (kPre g av ws sz) (Qx (va_A ws sz)) rm.cells rm.slots (va_A ws sz)
def KW (p : Program) (l : Launch) (e : Env) (R : Room) (s : State) (m : MethodId) (args : Array Value) (below : List Frame) (meth : Method) (c : Code) (Q : State → Prop) (g : kG) (A : Nat → Prop) (nL : Nat) (ws : va_W) (cells slots pc : Nat) (lv : List (Nat × Value)) (st : List Value) : Prop :=
  ∀ (H : Heap) (locs : List Loc) (ls : Array Slot), va_P g.1 vwCl ws H → va_D A ws → va_S A s.heap H locs → lv_has ls nL lv → W p l e R s m args below meth c H locs cells slots Q (F0 m pc ls st)
def kF (p : Program) (s : State) (m : MethodId) (args : Array Value) (meth : Method) (c : Code) (g : kG) (A : Nat → Prop) (nL : Nat) (cc : ByteArray) (own : String) (ret : Option FieldType) (nm : String) : Prop :=
  p.tables.exec = Jvm.exec ∧ c.code = cc ∧ c.maxLocals = nL ∧ s.vm.findClass own = some m.cls ∧ (∀ w ∈ uT, w.before args s = true) ∧ kK g s ∧ (∀ q : Nat, s.heap.size ≤ q → A q) ∧ meth.sig.returnType = ret ∧ meth.locks = false ∧ meth.name = nm
/-- an index with its number, inside a row of n places -/
def kIx (i : Int32) (N n : Nat) : Prop := i.toNatClampNeg = N ∧ vp_in i n
theorem kIx_nI {j n : Nat} (h : j < n) (hn : n < 2 ^ 31) : kIx (nI j) j n := ⟨nI_clamp (by omega), vp_in_nI h hn⟩
theorem kfm {ws wc : va_W} {is : List Nat} (h : is.map (fun i => ws[i]?) = wc.map some) : is.filterMap (fun i => ws[i]?) = wc := by
  have h2 : (is.map (fun i => ws[i]?)).filterMap id = (wc.map some).filterMap id := by rw [h]
  rw [List.filterMap_map, List.filterMap_map] at h2
  have e1 : (id ∘ fun i : Nat => ws[i]?) = (fun i : Nat => ws[i]?) := rfl
  have e2 : (id ∘ some : (Nat × va_E) → Option (Nat × va_E)) = some := rfl
  rw [e1, e2, List.filterMap_some] at h2
  exact h2
section KA
variable {p : Program} {l : Launch} {e : Env} {R : Room} {s : State} {m : MethodId} {args : Array Value} {below : List Frame} {meth : Method} {c : Code} {Q : State → Prop} {g : kG} {A : Nat → Prop} {nL : Nat} {cc : ByteArray} {own : String} {ret : Option FieldType} {nm : String} {ws ws' : va_W} {cells slots pc n : Nat} {lv lv' : List (Nat × Value)} {rest : List Value}
theorem k_iconst (F : kF p s m args meth c g A nL cc own ret nm) {z : Int} {v : Int32} (hd : decode cc pc = .ok (.iconst z, 1)) (hv : Int32.ofInt z = v) (hn : pc + 1 = n) (kk : KW p l e R s m args below meth c Q g A nL ws cells slots n lv (.int v :: rest)) : KW p l e R s m args below meth c Q g A nL ws cells slots pc lv (rest) := by
  subst hn
  exact fun H locs ls hP hD hS hl => lv_iconst F.1 F.2.1 hd hv (kk H locs ls hP hD hS hl)
theorem k_bipush (F : kF p s m args meth c g A nL cc own ret nm) {z : Int} {v : Int32} (hd : decode cc pc = .ok (.bipush z, 2)) (hv : (Int8.ofInt z).toInt32 = v) (hn : pc + 2 = n) (kk : KW p l e R s m args below meth c Q g A nL ws cells slots n lv (.int v :: rest)) : KW p l e R s m args below meth c Q g A nL ws cells slots pc lv (rest) := by
  subst hn
  exact fun H locs ls hP hD hS hl => lv_bipush F.1 F.2.1 hd hv (kk H locs ls hP hD hS hl)
theorem k_sipush (F : kF p s m args meth c g A nL cc own ret nm) {z : Int} {v : Int32} (hd : decode cc pc = .ok (.sipush z, 3)) (hv : (Int16.ofInt z).toInt32 = v) (hn : pc + 3 = n) (kk : KW p l e R s m args below meth c Q g A nL ws cells slots n lv (.int v :: rest)) : KW p l e R s m args below meth c Q g A nL ws cells slots pc lv (rest) := by
  subst hn
  exact fun H locs ls hP hD hS hl => lv_sipush F.1 F.2.1 hd hv (kk H locs ls hP hD hS hl)
theorem k_lconst (F : kF p s m args meth c g A nL cc own ret nm) {z : Fin 2} {v : Int64} (hd : decode cc pc = .ok (.lconst z, 1)) (hv : Int64.ofNat (z : Nat) = v) (hn : pc + 1 = n) (kk : KW p l e R s m args below meth c Q g A nL ws cells slots n lv (.long v :: rest)) : KW p l e R s m args below meth c Q g A nL ws cells slots pc lv (rest) := by
  subst hn
  exact fun H locs ls hP hD hS hl => lv_lconst F.1 F.2.1 hd hv (kk H locs ls hP hD hS hl)
theorem k_ldc2 (F : kF p s m args meth c g A nL cc own ret nm) {idx : Nat} {v : Int64} (hw : Cond.constantLong own idx v ∈ uT) (hd : decode cc pc = .ok (.ldc2_w idx, 3)) (hn : pc + 3 = n) (kk : KW p l e R s m args below meth c Q g A nL ws cells slots n lv (.long v :: rest)) : KW p l e R s m args below meth c Q g A nL ws cells slots pc lv (rest) := by
  subst hn
  exact fun H locs ls hP hD hS hl => lv_ldc2 F.1 F.2.1 F.2.2.2.1 (F.2.2.2.2.1 _ hw) hd (kk H locs ls hP hD hS hl)
theorem k_null (F : kF p s m args meth c g A nL cc own ret nm) (hd : decode cc pc = .ok (.aconst_null, 1)) (hn : pc + 1 = n) (kk : KW p l e R s m args below meth c Q g A nL ws cells slots n lv (.null :: rest)) : KW p l e R s m args below meth c Q g A nL ws cells slots pc lv (rest) := by
  subst hn
  exact fun H locs ls hP hD hS hl => lv_null F.1 F.2.1 hd (kk H locs ls hP hD hS hl)
theorem k_iload_n (F : kF p s m args meth c g A nL cc own ret nm) {k : Fin 4} {i : Nat} {x : Int32} (hd : decode cc pc = .ok (.iload_n k, 1)) (hi : (k : Nat) = i) (j : Nat) (hj : lv[j]? = some (i, .int x)) (hn : pc + 1 = n) (kk : KW p l e R s m args below meth c Q g A nL ws cells slots n lv (.int x :: rest)) : KW p l e R s m args below meth c Q g A nL ws cells slots pc lv (rest) := by
  subst hn
  exact fun H locs ls hP hD hS hl => lv_iload_n F.1 F.2.1 hd hi (lv_at hl j hj) (kk H locs ls hP hD hS hl)
theorem k_iload (F : kF p s m args meth c g A nL cc own ret nm) {i : Nat} {x : Int32} (hd : decode cc pc = .ok (.iload i, 2)) (j : Nat) (hj : lv[j]? = some (i, .int x)) (hn : pc + 2 = n) (kk : KW p l e R s m args below meth c Q g A nL ws cells slots n lv (.int x :: rest)) : KW p l e R s m args below meth c Q g A nL ws cells slots pc lv (rest) := by
  subst hn
  exact fun H locs ls hP hD hS hl => lv_iload F.1 F.2.1 hd (lv_at hl j hj) (kk H locs ls hP hD hS hl)
theorem k_istore_n (F : kF p s m args meth c g A nL cc own ret nm) {k : Fin 4} {i : Nat} {x : Int32} (hd : decode cc pc = .ok (.istore_n k, 1)) (hi : (k : Nat) = i) (hlt : i < nL) (hlv : (i, Value.int x) :: lv.filter (fun q => !(q.1 == i) && !(q.1 + 1 == i && q.2.category == 2)) = lv') (hn : pc + 1 = n) (kk : KW p l e R s m args below meth c Q g A nL ws cells slots n lv' rest) : KW p l e R s m args below meth c Q g A nL ws cells slots pc lv (.int x :: rest) := by
  subst hn
  exact fun H locs ls hP hD hS hl => lv_istore_n F.1 F.2.1 hd hi hl hlt hlv (fun ls1 hl1 => kk H locs ls1 hP hD hS hl1)
theorem k_istore (F : kF p s m args meth c g A nL cc own ret nm) {i : Nat} {x : Int32} (hd : decode cc pc = .ok (.istore i, 2)) (hlt : i < nL) (hlv : (i, Value.int x) :: lv.filter (fun q => !(q.1 == i) && !(q.1 + 1 == i && q.2.category == 2)) = lv') (hn : pc + 2 = n) (kk : KW p l e R s m args below meth c Q g A nL ws cells slots n lv' rest) : KW p l e R s m args below meth c Q g A nL ws cells slots pc lv (.int x :: rest) := by
  subst hn
  exact fun H locs ls hP hD hS hl => lv_istore F.1 F.2.1 hd hl hlt hlv (fun ls1 hl1 => kk H locs ls1 hP hD hS hl1)
theorem k_lload_n (F : kF p s m args meth c g A nL cc own ret nm) {k : Fin 4} {i : Nat} {x : Int64} (hd : decode cc pc = .ok (.lload_n k, 1)) (hi : (k : Nat) = i) (j : Nat) (hj : lv[j]? = some (i, .long x)) (hn : pc + 1 = n) (kk : KW p l e R s m args below meth c Q g A nL ws cells slots n lv (.long x :: rest)) : KW p l e R s m args below meth c Q g A nL ws cells slots pc lv (rest) := by
  subst hn
  exact fun H locs ls hP hD hS hl => lv_lload_n F.1 F.2.1 hd hi (lv_at hl j hj) (kk H locs ls hP hD hS hl)
theorem k_lload (F : kF p s m args meth c g A nL cc own ret nm) {i : Nat} {x : Int64} (hd : decode cc pc = .ok (.lload i, 2)) (j : Nat) (hj : lv[j]? = some (i, .long x)) (hn : pc + 2 = n) (kk : KW p l e R s m args below meth c Q g A nL ws cells slots n lv (.long x :: rest)) : KW p l e R s m args below meth c Q g A nL ws cells slots pc lv (rest) := by
  subst hn
  exact fun H locs ls hP hD hS hl => lv_lload F.1 F.2.1 hd (lv_at hl j hj) (kk H locs ls hP hD hS hl)
theorem k_lstore_n (F : kF p s m args meth c g A nL cc own ret nm) {k : Fin 4} {i : Nat} {x : Int64} (hd : decode cc pc = .ok (.lstore_n k, 1)) (hi : (k : Nat) = i) (hlt : i + 1 < nL) (hlv : (i, Value.long x) :: lv.filter (fun q => !(q.1 == i) && (!(q.1 == i + 1) && !(q.1 + 1 == i && q.2.category == 2))) = lv') (hn : pc + 1 = n) (kk : KW p l e R s m args below meth c Q g A nL ws cells slots n lv' rest) : KW p l e R s m args below meth c Q g A nL ws cells slots pc lv (.long x :: rest) := by
  subst hn
  exact fun H locs ls hP hD hS hl => lv_lstore_n F.1 F.2.1 hd hi hl hlt hlv (fun ls1 hl1 => kk H locs ls1 hP hD hS hl1)
theorem k_lstore (F : kF p s m args meth c g A nL cc own ret nm) {i : Nat} {x : Int64} (hd : decode cc pc = .ok (.lstore i, 2)) (hlt : i + 1 < nL) (hlv : (i, Value.long x) :: lv.filter (fun q => !(q.1 == i) && (!(q.1 == i + 1) && !(q.1 + 1 == i && q.2.category == 2))) = lv') (hn : pc + 2 = n) (kk : KW p l e R s m args below meth c Q g A nL ws cells slots n lv' rest) : KW p l e R s m args below meth c Q g A nL ws cells slots pc lv (.long x :: rest) := by
  subst hn
  exact fun H locs ls hP hD hS hl => lv_lstore F.1 F.2.1 hd hl hlt hlv (fun ls1 hl1 => kk H locs ls1 hP hD hS hl1)
theorem k_aload_n (F : kF p s m args meth c g A nL cc own ret nm) {k : Fin 4} {i : Nat} {x : Nat} (hd : decode cc pc = .ok (.aload_n k, 1)) (hi : (k : Nat) = i) (j : Nat) (hj : lv[j]? = some (i, .ref x)) (hn : pc + 1 = n) (kk : KW p l e R s m args below meth c Q g A nL ws cells slots n lv (.ref x :: rest)) : KW p l e R s m args below meth c Q g A nL ws cells slots pc lv (rest) := by
  subst hn
  exact fun H locs ls hP hD hS hl => lv_aload_n F.1 F.2.1 hd hi (lv_at hl j hj) (kk H locs ls hP hD hS hl)
theorem k_aload (F : kF p s m args meth c g A nL cc own ret nm) {i : Nat} {x : Nat} (hd : decode cc pc = .ok (.aload i, 2)) (j : Nat) (hj : lv[j]? = some (i, .ref x)) (hn : pc + 2 = n) (kk : KW p l e R s m args below meth c Q g A nL ws cells slots n lv (.ref x :: rest)) : KW p l e R s m args below meth c Q g A nL ws cells slots pc lv (rest) := by
  subst hn
  exact fun H locs ls hP hD hS hl => lv_aload F.1 F.2.1 hd (lv_at hl j hj) (kk H locs ls hP hD hS hl)
theorem k_astore_n (F : kF p s m args meth c g A nL cc own ret nm) {k : Fin 4} {i : Nat} {x : Nat} (hd : decode cc pc = .ok (.astore_n k, 1)) (hi : (k : Nat) = i) (hlt : i < nL) (hlv : (i, Value.ref x) :: lv.filter (fun q => !(q.1 == i) && !(q.1 + 1 == i && q.2.category == 2)) = lv') (hn : pc + 1 = n) (kk : KW p l e R s m args below meth c Q g A nL ws cells slots n lv' rest) : KW p l e R s m args below meth c Q g A nL ws cells slots pc lv (.ref x :: rest) := by
  subst hn
  exact fun H locs ls hP hD hS hl => lv_astore_n F.1 F.2.1 hd hi hl hlt hlv (fun ls1 hl1 => kk H locs ls1 hP hD hS hl1)
theorem k_astore (F : kF p s m args meth c g A nL cc own ret nm) {i : Nat} {x : Nat} (hd : decode cc pc = .ok (.astore i, 2)) (hlt : i < nL) (hlv : (i, Value.ref x) :: lv.filter (fun q => !(q.1 == i) && !(q.1 + 1 == i && q.2.category == 2)) = lv') (hn : pc + 2 = n) (kk : KW p l e R s m args below meth c Q g A nL ws cells slots n lv' rest) : KW p l e R s m args below meth c Q g A nL ws cells slots pc lv (.ref x :: rest) := by
  subst hn
  exact fun H locs ls hP hD hS hl => lv_astore F.1 F.2.1 hd hl hlt hlv (fun ls1 hl1 => kk H locs ls1 hP hD hS hl1)
theorem k_aload_nN (F : kF p s m args meth c g A nL cc own ret nm) {k : Fin 4} {i : Nat} (hd : decode cc pc = .ok (.aload_n k, 1)) (hi : (k : Nat) = i) (j : Nat) (hj : lv[j]? = some (i, .null)) (hn : pc + 1 = n) (kk : KW p l e R s m args below meth c Q g A nL ws cells slots n lv (.null :: rest)) : KW p l e R s m args below meth c Q g A nL ws cells slots pc lv (rest) := by
  subst hn
  exact fun H locs ls hP hD hS hl => lv_aload_nN F.1 F.2.1 hd hi (lv_at hl j hj) (kk H locs ls hP hD hS hl)
theorem k_astore_nN (F : kF p s m args meth c g A nL cc own ret nm) {k : Fin 4} {i : Nat} (hd : decode cc pc = .ok (.astore_n k, 1)) (hi : (k : Nat) = i) (hlt : i < nL) (hlv : (i, Value.null) :: lv.filter (fun q => !(q.1 == i) && !(q.1 + 1 == i && q.2.category == 2)) = lv') (hn : pc + 1 = n) (kk : KW p l e R s m args below meth c Q g A nL ws cells slots n lv' rest) : KW p l e R s m args below meth c Q g A nL ws cells slots pc lv (.null :: rest) := by
  subst hn
  exact fun H locs ls hP hD hS hl => lv_astore_nN F.1 F.2.1 hd hi hl hlt hlv (fun ls1 hl1 => kk H locs ls1 hP hD hS hl1)
theorem k_iinc (F : kF p s m args meth c g A nL cc own ret nm) {i j : Nat} {z : Int} {x v : Int32} (hd : decode cc pc = .ok (.iinc i z, 3)) (hj : lv[j]? = some (i, .int x)) (hv : x + Int32.ofInt z = v) (hlt : i < nL) (hlv : (i, Value.int v) :: lv.filter (fun q => !(q.1 == i) && !(q.1 + 1 == i && q.2.category == 2)) = lv') (hn : pc + 3 = n) (kk : KW p l e R s m args below meth c Q g A nL ws cells slots n lv' rest) : KW p l e R s m args below meth c Q g A nL ws cells slots pc lv rest := by
  subst hn
  exact fun H locs ls hP hD hS hl => lv_iinc F.1 F.2.1 hd hl hj hv hlt hlv (fun ls1 hl1 => kk H locs ls1 hP hD hS hl1)
theorem k_iadd (F : kF p s m args meth c g A nL cc own ret nm) {x y : Int32} (hd : decode cc pc = .ok (.iadd, 1)) (hn : pc + 1 = n) (kk : KW p l e R s m args below meth c Q g A nL ws cells slots n lv (.int (x + y) :: rest)) : KW p l e R s m args below meth c Q g A nL ws cells slots pc lv (.int y :: .int x :: rest) := by
  subst hn
  exact fun H locs ls hP hD hS hl => lv_iadd F.1 F.2.1 hd (kk H locs ls hP hD hS hl)
theorem k_isub (F : kF p s m args meth c g A nL cc own ret nm) {x y : Int32} (hd : decode cc pc = .ok (.isub, 1)) (hn : pc + 1 = n) (kk : KW p l e R s m args below meth c Q g A nL ws cells slots n lv (.int (x - y) :: rest)) : KW p l e R s m args below meth c Q g A nL ws cells slots pc lv (.int y :: .int x :: rest) := by
  subst hn
  exact fun H locs ls hP hD hS hl => lv_isub F.1 F.2.1 hd (kk H locs ls hP hD hS hl)
theorem k_imul (F : kF p s m args meth c g A nL cc own ret nm) {x y : Int32} (hd : decode cc pc = .ok (.imul, 1)) (hn : pc + 1 = n) (kk : KW p l e R s m args below meth c Q g A nL ws cells slots n lv (.int (x * y) :: rest)) : KW p l e R s m args below meth c Q g A nL ws cells slots pc lv (.int y :: .int x :: rest) := by
  subst hn
  exact fun H locs ls hP hD hS hl => lv_imul F.1 F.2.1 hd (kk H locs ls hP hD hS hl)
theorem k_iand (F : kF p s m args meth c g A nL cc own ret nm) {x y : Int32} (hd : decode cc pc = .ok (.iand, 1)) (hn : pc + 1 = n) (kk : KW p l e R s m args below meth c Q g A nL ws cells slots n lv (.int (x &&& y) :: rest)) : KW p l e R s m args below meth c Q g A nL ws cells slots pc lv (.int y :: .int x :: rest) := by
  subst hn
  exact fun H locs ls hP hD hS hl => lv_iand F.1 F.2.1 hd (kk H locs ls hP hD hS hl)
theorem k_ior (F : kF p s m args meth c g A nL cc own ret nm) {x y : Int32} (hd : decode cc pc = .ok (.ior, 1)) (hn : pc + 1 = n) (kk : KW p l e R s m args below meth c Q g A nL ws cells slots n lv (.int (x ||| y) :: rest)) : KW p l e R s m args below meth c Q g A nL ws cells slots pc lv (.int y :: .int x :: rest) := by
  subst hn
  exact fun H locs ls hP hD hS hl => lv_ior F.1 F.2.1 hd (kk H locs ls hP hD hS hl)
theorem k_idiv (F : kF p s m args meth c g A nL cc own ret nm) {x y : Int32} (hd : decode cc pc = .ok (.idiv, 1)) (hy : ¬ y = 0) (hn : pc + 1 = n) (kk : KW p l e R s m args below meth c Q g A nL ws cells slots n lv (.int (x / y) :: rest)) : KW p l e R s m args below meth c Q g A nL ws cells slots pc lv (.int y :: .int x :: rest) := by
  subst hn
  exact fun H locs ls hP hD hS hl => lv_idiv F.1 F.2.1 hd hy (kk H locs ls hP hD hS hl)
theorem k_irem (F : kF p s m args meth c g A nL cc own ret nm) {x y : Int32} (hd : decode cc pc = .ok (.irem, 1)) (hy : ¬ y = 0) (hn : pc + 1 = n) (kk : KW p l e R s m args below meth c Q g A nL ws cells slots n lv (.int (x - x / y * y) :: rest)) : KW p l e R s m args below meth c Q g A nL ws cells slots pc lv (.int y :: .int x :: rest) := by
  subst hn
  exact fun H locs ls hP hD hS hl => lv_irem F.1 F.2.1 hd hy (kk H locs ls hP hD hS hl)
theorem k_ladd (F : kF p s m args meth c g A nL cc own ret nm) {x y : Int64} (hd : decode cc pc = .ok (.ladd, 1)) (hn : pc + 1 = n) (kk : KW p l e R s m args below meth c Q g A nL ws cells slots n lv (.long (x + y) :: rest)) : KW p l e R s m args below meth c Q g A nL ws cells slots pc lv (.long y :: .long x :: rest) := by
  subst hn
  exact fun H locs ls hP hD hS hl => lv_ladd F.1 F.2.1 hd (kk H locs ls hP hD hS hl)
theorem k_lsub (F : kF p s m args meth c g A nL cc own ret nm) {x y : Int64} (hd : decode cc pc = .ok (.lsub, 1)) (hn : pc + 1 = n) (kk : KW p l e R s m args below meth c Q g A nL ws cells slots n lv (.long (x - y) :: rest)) : KW p l e R s m args below meth c Q g A nL ws cells slots pc lv (.long y :: .long x :: rest) := by
  subst hn
  exact fun H locs ls hP hD hS hl => lv_lsub F.1 F.2.1 hd (kk H locs ls hP hD hS hl)
theorem k_lcmp (F : kF p s m args meth c g A nL cc own ret nm) {x y : Int64} (hd : decode cc pc = .ok (.lcmp, 1)) (hn : pc + 1 = n) (kk : KW p l e R s m args below meth c Q g A nL ws cells slots n lv (.int (lg_cmp x y) :: rest)) : KW p l e R s m args below meth c Q g A nL ws cells slots pc lv (.long y :: .long x :: rest) := by
  subst hn
  exact fun H locs ls hP hD hS hl => W.lcmp F.1 F.2.1 hd (kk H locs ls hP hD hS hl)
theorem k_i2l (F : kF p s m args meth c g A nL cc own ret nm) {x : Int32} (hd : decode cc pc = .ok (.i2l, 1)) (hn : pc + 1 = n) (kk : KW p l e R s m args below meth c Q g A nL ws cells slots n lv (.long x.toInt64 :: rest)) : KW p l e R s m args below meth c Q g A nL ws cells slots pc lv (.int x :: rest) := by
  subst hn
  exact fun H locs ls hP hD hS hl => lv_i2l F.1 F.2.1 hd rfl (kk H locs ls hP hD hS hl)
theorem k_dup (F : kF p s m args meth c g A nL cc own ret nm) {va : Value} (hd : decode cc pc = .ok (.dup, 1)) (hva : va.category = 1) (hn : pc + 1 = n) (kk : KW p l e R s m args below meth c Q g A nL ws cells slots n lv (va :: va :: rest)) : KW p l e R s m args below meth c Q g A nL ws cells slots pc lv (va :: rest) := by
  subst hn
  exact fun H locs ls hP hD hS hl => lv_dup F.1 F.2.1 hd hva (kk H locs ls hP hD hS hl)
theorem k_pop (F : kF p s m args meth c g A nL cc own ret nm) {va : Value} (hd : decode cc pc = .ok (.pop, 1)) (hva : va.category = 1) (hn : pc + 1 = n) (kk : KW p l e R s m args below meth c Q g A nL ws cells slots n lv (rest)) : KW p l e R s m args below meth c Q g A nL ws cells slots pc lv (va :: rest) := by
  subst hn
  exact fun H locs ls hP hD hS hl => lv_pop F.1 F.2.1 hd hva (kk H locs ls hP hD hS hl)
theorem k_dup_x1 (F : kF p s m args meth c g A nL cc own ret nm) {va vb : Value} (hd : decode cc pc = .ok (.dup_x1, 1)) (hva : va.category = 1) (hvb : vb.category = 1) (hn : pc + 1 = n) (kk : KW p l e R s m args below meth c Q g A nL ws cells slots n lv (va :: vb :: va :: rest)) : KW p l e R s m args below meth c Q g A nL ws cells slots pc lv (va :: vb :: rest) := by
  subst hn
  exact fun H locs ls hP hD hS hl => lv_dup_x1 F.1 F.2.1 hd hva hvb (kk H locs ls hP hD hS hl)
theorem k_dup_x2 (F : kF p s m args meth c g A nL cc own ret nm) {va vb vd : Value} (hd : decode cc pc = .ok (.dup_x2, 1)) (hva : va.category = 1) (hvb : vb.category = 1) (hvd : vd.category = 1) (hn : pc + 1 = n) (kk : KW p l e R s m args below meth c Q g A nL ws cells slots n lv (va :: vb :: vd :: va :: rest)) : KW p l e R s m args below meth c Q g A nL ws cells slots pc lv (va :: vb :: vd :: rest) := by
  subst hn
  exact fun H locs ls hP hD hS hl => lv_dup_x2 F.1 F.2.1 hd hva hvb hvd (kk H locs ls hP hD hS hl)
theorem k_dup2_11 (F : kF p s m args meth c g A nL cc own ret nm) {va vb : Value} (hd : decode cc pc = .ok (.dup2, 1)) (hva : va.category = 1) (hvb : vb.category = 1) (hn : pc + 1 = n) (kk : KW p l e R s m args below meth c Q g A nL ws cells slots n lv (va :: vb :: va :: vb :: rest)) : KW p l e R s m args below meth c Q g A nL ws cells slots pc lv (va :: vb :: rest) := by
  subst hn
  exact fun H locs ls hP hD hS hl => lv_dup2_11 F.1 F.2.1 hd hva hvb (kk H locs ls hP hD hS hl)
theorem k_dup2_2 (F : kF p s m args meth c g A nL cc own ret nm) {va : Value} (hd : decode cc pc = .ok (.dup2, 1)) (hva : va.category = 2) (hn : pc + 1 = n) (kk : KW p l e R s m args below meth c Q g A nL ws cells slots n lv (va :: va :: rest)) : KW p l e R s m args below meth c Q g A nL ws cells slots pc lv (va :: rest) := by
  subst hn
  exact fun H locs ls hP hD hS hl => lv_dup2_2 F.1 F.2.1 hd hva (kk H locs ls hP hD hS hl)
theorem k_goto (F : kF p s m args meth c g A nL cc own ret nm) {off : Int} {tgt : Nat} (hd : decode cc pc = .ok (.goto off, 3)) (ht : (pc : Int) + off = (tgt : Int)) (kk : KW p l e R s m args below meth c Q g A nL ws cells slots tgt lv rest) : KW p l e R s m args below meth c Q g A nL ws cells slots pc lv rest := fun H locs ls hP hD hS hl => lv_goto F.1 F.2.1 hd ht (kk H locs ls hP hD hS hl)
theorem k_if_eq (F : kF p s m args meth c g A nL cc own ret nm) {x : Int32} {off : Int} {tgt : Nat} (hd : decode cc pc = .ok (.ifCond .eq off, 3)) (ht : (pc : Int) + off = (tgt : Int)) (hn : pc + 3 = n) (kt : x = 0 → KW p l e R s m args below meth c Q g A nL ws cells slots tgt lv rest) (kf : ¬ x = 0 → KW p l e R s m args below meth c Q g A nL ws cells slots n lv rest) : KW p l e R s m args below meth c Q g A nL ws cells slots pc lv (.int x :: rest) := by
  subst hn
  exact fun H locs ls hP hD hS hl => lv_if_eq F.1 F.2.1 hd ht (fun h => kt h H locs ls hP hD hS hl) (fun h => kf h H locs ls hP hD hS hl)
theorem k_if_ne (F : kF p s m args meth c g A nL cc own ret nm) {x : Int32} {off : Int} {tgt : Nat} (hd : decode cc pc = .ok (.ifCond .ne off, 3)) (ht : (pc : Int) + off = (tgt : Int)) (hn : pc + 3 = n) (kt : ¬ x = 0 → KW p l e R s m args below meth c Q g A nL ws cells slots tgt lv rest) (kf : x = 0 → KW p l e R s m args below meth c Q g A nL ws cells slots n lv rest) : KW p l e R s m args below meth c Q g A nL ws cells slots pc lv (.int x :: rest) := by
  subst hn
  exact fun H locs ls hP hD hS hl => lv_if_ne F.1 F.2.1 hd ht (fun h => kt h H locs ls hP hD hS hl) (fun h => kf h H locs ls hP hD hS hl)
theorem k_if_lt (F : kF p s m args meth c g A nL cc own ret nm) {x : Int32} {off : Int} {tgt : Nat} (hd : decode cc pc = .ok (.ifCond .lt off, 3)) (ht : (pc : Int) + off = (tgt : Int)) (hn : pc + 3 = n) (kt : x < 0 → KW p l e R s m args below meth c Q g A nL ws cells slots tgt lv rest) (kf : ¬ x < 0 → KW p l e R s m args below meth c Q g A nL ws cells slots n lv rest) : KW p l e R s m args below meth c Q g A nL ws cells slots pc lv (.int x :: rest) := by
  subst hn
  exact fun H locs ls hP hD hS hl => lv_if_lt F.1 F.2.1 hd ht (fun h => kt h H locs ls hP hD hS hl) (fun h => kf h H locs ls hP hD hS hl)
theorem k_if_ge (F : kF p s m args meth c g A nL cc own ret nm) {x : Int32} {off : Int} {tgt : Nat} (hd : decode cc pc = .ok (.ifCond .ge off, 3)) (ht : (pc : Int) + off = (tgt : Int)) (hn : pc + 3 = n) (kt : 0 ≤ x → KW p l e R s m args below meth c Q g A nL ws cells slots tgt lv rest) (kf : ¬ 0 ≤ x → KW p l e R s m args below meth c Q g A nL ws cells slots n lv rest) : KW p l e R s m args below meth c Q g A nL ws cells slots pc lv (.int x :: rest) := by
  subst hn
  exact fun H locs ls hP hD hS hl => lv_if_ge F.1 F.2.1 hd ht (fun h => kt h H locs ls hP hD hS hl) (fun h => kf h H locs ls hP hD hS hl)
theorem k_if_gt (F : kF p s m args meth c g A nL cc own ret nm) {x : Int32} {off : Int} {tgt : Nat} (hd : decode cc pc = .ok (.ifCond .gt off, 3)) (ht : (pc : Int) + off = (tgt : Int)) (hn : pc + 3 = n) (kt : 0 < x → KW p l e R s m args below meth c Q g A nL ws cells slots tgt lv rest) (kf : ¬ 0 < x → KW p l e R s m args below meth c Q g A nL ws cells slots n lv rest) : KW p l e R s m args below meth c Q g A nL ws cells slots pc lv (.int x :: rest) := by
  subst hn
  exact fun H locs ls hP hD hS hl => lv_if_gt F.1 F.2.1 hd ht (fun h => kt h H locs ls hP hD hS hl) (fun h => kf h H locs ls hP hD hS hl)
theorem k_if_le (F : kF p s m args meth c g A nL cc own ret nm) {x : Int32} {off : Int} {tgt : Nat} (hd : decode cc pc = .ok (.ifCond .le off, 3)) (ht : (pc : Int) + off = (tgt : Int)) (hn : pc + 3 = n) (kt : x ≤ 0 → KW p l e R s m args below meth c Q g A nL ws cells slots tgt lv rest) (kf : ¬ x ≤ 0 → KW p l e R s m args below meth c Q g A nL ws cells slots n lv rest) : KW p l e R s m args below meth c Q g A nL ws cells slots pc lv (.int x :: rest) := by
  subst hn
  exact fun H locs ls hP hD hS hl => lv_if_le F.1 F.2.1 hd ht (fun h => kt h H locs ls hP hD hS hl) (fun h => kf h H locs ls hP hD hS hl)
theorem k_icmp_eq (F : kF p s m args meth c g A nL cc own ret nm) {x y : Int32} {off : Int} {tgt : Nat} (hd : decode cc pc = .ok (.if_icmp .eq off, 3)) (ht : (pc : Int) + off = (tgt : Int)) (hn : pc + 3 = n) (kt : x = y → KW p l e R s m args below meth c Q g A nL ws cells slots tgt lv rest) (kf : ¬ x = y → KW p l e R s m args below meth c Q g A nL ws cells slots n lv rest) : KW p l e R s m args below meth c Q g A nL ws cells slots pc lv (.int y :: .int x :: rest) := by
  subst hn
  exact fun H locs ls hP hD hS hl => lv_icmp_eq F.1 F.2.1 hd ht (fun h => kt h H locs ls hP hD hS hl) (fun h => kf h H locs ls hP hD hS hl)
theorem k_icmp_ne (F : kF p s m args meth c g A nL cc own ret nm) {x y : Int32} {off : Int} {tgt : Nat} (hd : decode cc pc = .ok (.if_icmp .ne off, 3)) (ht : (pc : Int) + off = (tgt : Int)) (hn : pc + 3 = n) (kt : ¬ x = y → KW p l e R s m args below meth c Q g A nL ws cells slots tgt lv rest) (kf : x = y → KW p l e R s m args below meth c Q g A nL ws cells slots n lv rest) : KW p l e R s m args below meth c Q g A nL ws cells slots pc lv (.int y :: .int x :: rest) := by
  subst hn
  exact fun H locs ls hP hD hS hl => lv_icmp_ne F.1 F.2.1 hd ht (fun h => kt h H locs ls hP hD hS hl) (fun h => kf h H locs ls hP hD hS hl)
theorem k_icmp_lt (F : kF p s m args meth c g A nL cc own ret nm) {x y : Int32} {off : Int} {tgt : Nat} (hd : decode cc pc = .ok (.if_icmp .lt off, 3)) (ht : (pc : Int) + off = (tgt : Int)) (hn : pc + 3 = n) (kt : x < y → KW p l e R s m args below meth c Q g A nL ws cells slots tgt lv rest) (kf : ¬ x < y → KW p l e R s m args below meth c Q g A nL ws cells slots n lv rest) : KW p l e R s m args below meth c Q g A nL ws cells slots pc lv (.int y :: .int x :: rest) := by
  subst hn
  exact fun H locs ls hP hD hS hl => lv_icmp_lt F.1 F.2.1 hd ht (fun h => kt h H locs ls hP hD hS hl) (fun h => kf h H locs ls hP hD hS hl)
theorem k_icmp_ge (F : kF p s m args meth c g A nL cc own ret nm) {x y : Int32} {off : Int} {tgt : Nat} (hd : decode cc pc = .ok (.if_icmp .ge off, 3)) (ht : (pc : Int) + off = (tgt : Int)) (hn : pc + 3 = n) (kt : y ≤ x → KW p l e R s m args below meth c Q g A nL ws cells slots tgt lv rest) (kf : ¬ y ≤ x → KW p l e R s m args below meth c Q g A nL ws cells slots n lv rest) : KW p l e R s m args below meth c Q g A nL ws cells slots pc lv (.int y :: .int x :: rest) := by
  subst hn
  exact fun H locs ls hP hD hS hl => lv_icmp_ge F.1 F.2.1 hd ht (fun h => kt h H locs ls hP hD hS hl) (fun h => kf h H locs ls hP hD hS hl)
theorem k_icmp_gt (F : kF p s m args meth c g A nL cc own ret nm) {x y : Int32} {off : Int} {tgt : Nat} (hd : decode cc pc = .ok (.if_icmp .gt off, 3)) (ht : (pc : Int) + off = (tgt : Int)) (hn : pc + 3 = n) (kt : y < x → KW p l e R s m args below meth c Q g A nL ws cells slots tgt lv rest) (kf : ¬ y < x → KW p l e R s m args below meth c Q g A nL ws cells slots n lv rest) : KW p l e R s m args below meth c Q g A nL ws cells slots pc lv (.int y :: .int x :: rest) := by
  subst hn
  exact fun H locs ls hP hD hS hl => lv_icmp_gt F.1 F.2.1 hd ht (fun h => kt h H locs ls hP hD hS hl) (fun h => kf h H locs ls hP hD hS hl)
theorem k_icmp_le (F : kF p s m args meth c g A nL cc own ret nm) {x y : Int32} {off : Int} {tgt : Nat} (hd : decode cc pc = .ok (.if_icmp .le off, 3)) (ht : (pc : Int) + off = (tgt : Int)) (hn : pc + 3 = n) (kt : x ≤ y → KW p l e R s m args below meth c Q g A nL ws cells slots tgt lv rest) (kf : ¬ x ≤ y → KW p l e R s m args below meth c Q g A nL ws cells slots n lv rest) : KW p l e R s m args below meth c Q g A nL ws cells slots pc lv (.int y :: .int x :: rest) := by
  subst hn
  exact fun H locs ls hP hD hS hl => lv_icmp_le F.1 F.2.1 hd ht (fun h => kt h H locs ls hP hD hS hl) (fun h => kf h H locs ls hP hD hS hl)
theorem k_ifnull (F : kF p s m args meth c g A nL cc own ret nm) {x : Nat} {off : Int} (hd : decode cc pc = .ok (.ifnull off, 3)) (hn : pc + 3 = n) (kk : KW p l e R s m args below meth c Q g A nL ws cells slots n lv rest) : KW p l e R s m args below meth c Q g A nL ws cells slots pc lv (.ref x :: rest) := by
  subst hn
  exact fun H locs ls hP hD hS hl => lv_ifnull F.1 F.2.1 hd (kk H locs ls hP hD hS hl)
theorem k_ifnullN (F : kF p s m args meth c g A nL cc own ret nm) {off : Int} {tgt : Nat} (hd : decode cc pc = .ok (.ifnull off, 3)) (ht : (pc : Int) + off = (tgt : Int)) (kk : KW p l e R s m args below meth c Q g A nL ws cells slots tgt lv rest) : KW p l e R s m args below meth c Q g A nL ws cells slots pc lv (.null :: rest) := fun H locs ls hP hD hS hl => lv_ifnullN F.1 F.2.1 hd ht (kk H locs ls hP hD hS hl)
theorem k_ifnonnull (F : kF p s m args meth c g A nL cc own ret nm) {x : Nat} {off : Int} {tgt : Nat} (hd : decode cc pc = .ok (.ifnonnull off, 3)) (ht : (pc : Int) + off = (tgt : Int)) (kk : KW p l e R s m args below meth c Q g A nL ws cells slots tgt lv rest) : KW p l e R s m args below meth c Q g A nL ws cells slots pc lv (.ref x :: rest) := fun H locs ls hP hD hS hl => lv_ifnonnull F.1 F.2.1 hd ht (kk H locs ls hP hD hS hl)
theorem k_ifnonnullN (F : kF p s m args meth c g A nL cc own ret nm) {off : Int} (hd : decode cc pc = .ok (.ifnonnull off, 3)) (hn : pc + 3 = n) (kk : KW p l e R s m args below meth c Q g A nL ws cells slots n lv rest) : KW p l e R s m args below meth c Q g A nL ws cells slots pc lv (.null :: rest) := by
  subst hn
  exact fun H locs ls hP hD hS hl => lv_ifnonnullN F.1 F.2.1 hd (kk H locs ls hP hD hS hl)
theorem k_tableOut (F : kF p s m args meth c g A nL cc own ret nm) {dflt lo hi : Int} {offs : Array Int} {len : Nat} {x : Int32} {tgt : Nat} (hd : decode cc pc = .ok (.tableswitch dflt lo hi offs, len)) (h : x.toInt < lo ∨ hi < x.toInt) (ht : (pc : Int) + dflt = (tgt : Int)) (kk : KW p l e R s m args below meth c Q g A nL ws cells slots tgt lv rest) : KW p l e R s m args below meth c Q g A nL ws cells slots pc lv (.int x :: rest) := fun H locs ls hP hD hS hl => lv_tableOut F.1 F.2.1 hd h ht (kk H locs ls hP hD hS hl)
theorem k_tableIn (F : kF p s m args meth c g A nL cc own ret nm) {dflt lo hi : Int} {offs : Array Int} {len : Nat} {x : Int32} {off : Int} {tgt : Nat} (hd : decode cc pc = .ok (.tableswitch dflt lo hi offs, len)) (h1 : ¬ x.toInt < lo) (h2 : ¬ hi < x.toInt) (ho : offs[(x.toInt - lo).toNat]? = some off) (ht : (pc : Int) + off = (tgt : Int)) (kk : KW p l e R s m args below meth c Q g A nL ws cells slots tgt lv rest) : KW p l e R s m args below meth c Q g A nL ws cells slots pc lv (.int x :: rest) := fun H locs ls hP hD hS hl => lv_tableIn F.1 F.2.1 hd h1 h2 ho ht (kk H locs ls hP hD hS hl)
theorem k_lookup (F : kF p s m args meth c g A nL cc own ret nm) {dflt : Int} {ps : Array (Int × Int)} {len : Nat} {x : Int32} {off : Int} {tgt : Nat} (hd : decode cc pc = .ok (.lookupswitch dflt ps, len)) (hp : (ps.toList.zip (ps.toList.drop 1)).all (fun (a, next) => a.1 < next.1) = true) (ho : Op.lookupswitch.offset ps.toList dflt x.toInt = off) (ht : (pc : Int) + off = (tgt : Int)) (kk : KW p l e R s m args below meth c Q g A nL ws cells slots tgt lv rest) : KW p l e R s m args below meth c Q g A nL ws cells slots pc lv (.int x :: rest) := fun H locs ls hP hD hS hl => lv_lookup F.1 F.2.1 hd hp ho ht (kk H locs ls hP hD hS hl)
theorem k_get (F : kF p s m args meth c g A nL cc own ret nm) {C : String} {T : u_T} {N ci idx a : Nat} {fs : List Value} {v : Value} (hin : ∀ w ∈ u_ws C T N, w ∈ uT) (q0 k : Nat) (he : ws[q0]? = some (a, .inr (ci, fs))) (hc : vwCl[ci]? = some (C, T, N)) (hk : k < N) (hlink : Cond.fieldLink own idx (T k).1 (T k).2.1 (T k).2.2.1 ∈ uT) (hv : fs[k]? = some v) (hd : decode cc pc = .ok (.getfield idx, 3)) (hn : pc + 3 = n) (kk : KW p l e R s m args below meth c Q g A nL ws cells slots n lv (v :: rest)) : KW p l e R s m args below meth c Q g A nL ws cells slots pc lv (.ref a :: rest) := by
  subst hn
  exact fun H locs ls hP hD hS hl => va_get F.1 F.2.1 F.2.2.2.2.1 hin F.2.2.2.1 F.2.2.2.2.2.1.1 hP q0 he hc k hk (F.2.2.2.2.1 _ hlink) (fun _ h9 => h9) hv hd (kk H locs ls hP hD hS hl)
theorem k_put (F : kF p s m args meth c g A nL cc own ret nm) {C : String} {T : u_T} {N ci idx a : Nat} {fs : List Value} {v : Value} (hin : ∀ w ∈ u_ws C T N, w ∈ uT) {ty0 : Nat → FieldType} (hty : ∀ k, k < N → parseFieldDescriptor (T k).2.2.1 = some (ty0 k)) (hnm : ∀ a, a < N → ∀ b, b < N → a ≠ b → (T a).2.1 ≠ (T b).2.1) (q0 k : Nat) (he : ws[q0]? = some (a, .inr (ci, fs))) (hc : vwCl[ci]? = some (C, T, N)) (hk : k < N) (hlink : Cond.fieldLink own idx (T k).1 (T k).2.1 (T k).2.2.1 ∈ uT) (hfin : (T k).2.2.2 = false) (hnar : narrow (ty0 k) v = v) (hfit : fits (ty0 k) v = true) (hl : k < fs.length) (hw : ws.set q0 (a, .inr (ci, fs.set k v)) = ws') (hd : decode cc pc = .ok (.putfield idx, 3)) (hn : pc + 3 = n) (kk : KW p l e R s m args below meth c Q g A nL ws' cells slots n lv rest) : KW p l e R s m args below meth c Q g A nL ws cells slots pc lv (v :: .ref a :: rest) := by
  subst hn
  subst hw
  exact fun H locs ls hP hD hS hlv => va_put F.1 F.2.1 F.2.2.2.2.1 hin ty0 hty hnm F.2.2.2.1 F.2.2.2.2.2.1.1 hP hD hS q0 he hc k hk (F.2.2.2.2.1 _ hlink) (fun _ h9 => h9) hfin (hty k hk) hnar hfit hl hd (fun H1 locs1 hP1 hD1 hS1 => kk H1 locs1 ls hP1 hD1 hS1 hlv)
theorem k_getN (F : kF p s m args meth c g A nL cc own ret nm) {C : String} {T : u_T} {N ci idx a : Nat} {fs : List Value} {v : Value} {host : String} (hin : ∀ w ∈ u_ws C T N, w ∈ uT) (q0 k : Nat) (he : ws[q0]? = some (a, .inr (ci, fs))) (hc : vwCl[ci]? = some (C, T, N)) (hk : k < N) (hlink : Cond.fieldLinkNest own idx (T k).1 (T k).2.1 (T k).2.2.1 host ∈ kN) (hv : fs[k]? = some v) (hd : decode cc pc = .ok (.getfield idx, 3)) (hn : pc + 3 = n) (kk : KW p l e R s m args below meth c Q g A nL ws cells slots n lv (v :: rest)) : KW p l e R s m args below meth c Q g A nL ws cells slots pc lv (.ref a :: rest) := by
  subst hn
  exact fun H locs ls hP hD hS hl => va_getN F.1 F.2.1 F.2.2.2.2.1 hin F.2.2.2.1 F.2.2.2.2.2.1.1 hP q0 he hc k hk (va_Nw.use (kNf_tab (kNf_all _ hlink)) (F.2.2.2.2.2.1.2.1 _ hlink)) (fun _ h9 => h9) hv hd (kk H locs ls hP hD hS hl)
theorem k_putN (F : kF p s m args meth c g A nL cc own ret nm) {C : String} {T : u_T} {N ci idx a : Nat} {fs : List Value} {v : Value} {host : String} (hin : ∀ w ∈ u_ws C T N, w ∈ uT) {ty0 : Nat → FieldType} (hty : ∀ k, k < N → parseFieldDescriptor (T k).2.2.1 = some (ty0 k)) (hnm : ∀ a, a < N → ∀ b, b < N → a ≠ b → (T a).2.1 ≠ (T b).2.1) (q0 k : Nat) (he : ws[q0]? = some (a, .inr (ci, fs))) (hc : vwCl[ci]? = some (C, T, N)) (hk : k < N) (hlink : Cond.fieldLinkNest own idx (T k).1 (T k).2.1 (T k).2.2.1 host ∈ kN) (hfin : (T k).2.2.2 = false) (hnar : narrow (ty0 k) v = v) (hfit : fits (ty0 k) v = true) (hl : k < fs.length) (hw : ws.set q0 (a, .inr (ci, fs.set k v)) = ws') (hd : decode cc pc = .ok (.putfield idx, 3)) (hn : pc + 3 = n) (kk : KW p l e R s m args below meth c Q g A nL ws' cells slots n lv rest) : KW p l e R s m args below meth c Q g A nL ws cells slots pc lv (v :: .ref a :: rest) := by
  subst hn
  subst hw
  exact fun H locs ls hP hD hS hlv => va_putN F.1 F.2.1 F.2.2.2.2.1 hin ty0 hty hnm F.2.2.2.1 F.2.2.2.2.2.1.1 hP hD hS q0 he hc k hk (va_Nw.use (kNf_tab (kNf_all _ hlink)) (F.2.2.2.2.2.1.2.1 _ hlink)) (fun _ h9 => h9) hfin (hty k hk) hnar hfit hl hd (fun H1 locs1 hP1 hD1 hS1 => kk H1 locs1 ls hP1 hD1 hS1 hlv)
theorem k_putF (F : kF p s m args meth c g A nL cc own ret nm) {C : String} {T : u_T} {N ci idx a : Nat} {fs : List Value} {v : Value} (hin : ∀ w ∈ u_ws C T N, w ∈ uT) {ty0 : Nat → FieldType} (hty : ∀ k, k < N → parseFieldDescriptor (T k).2.2.1 = some (ty0 k)) (hnm : ∀ a, a < N → ∀ b, b < N → a ≠ b → (T a).2.1 ≠ (T b).2.1) (q0 k : Nat) (he : ws[q0]? = some (a, .inr (ci, fs))) (hc : vwCl[ci]? = some (C, T, N)) (hk : k < N) (hlink : Cond.fieldLink own idx (T k).1 (T k).2.1 (T k).2.2.1 ∈ uT) (hfin : (T k).2.2.2 = true) (hnmI : nm = "<init>") (hdecl : (T k).1 = own) (hnar : narrow (ty0 k) v = v) (hfit : fits (ty0 k) v = true) (hl : k < fs.length) (hw : ws.set q0 (a, .inr (ci, fs.set k v)) = ws') (hd : decode cc pc = .ok (.putfield idx, 3)) (hn : pc + 3 = n) (kk : KW p l e R s m args below meth c Q g A nL ws' cells slots n lv rest) : KW p l e R s m args below meth c Q g A nL ws cells slots pc lv (v :: .ref a :: rest) := by
  subst hn
  subst hw
  exact fun H locs ls hP hD hS hlv => va_putF F.1 F.2.1 F.2.2.2.2.1 hin ty0 hty hnm F.2.2.2.1 F.2.2.2.2.2.1.1 hP hD hS q0 he hc k hk (F.2.2.2.2.1 _ hlink) (fun _ h9 => h9) hfin (F.2.2.2.2.2.2.2.2.2.trans hnmI) hdecl (hty k hk) hnar hfit hl hd (fun H1 locs1 hP1 hD1 hS1 => kk H1 locs1 ls hP1 hD1 hS1 hlv)
theorem k_iald (F : kF p s m args meth c g A nL cc own ret nm) {a n0 N : Nat} {i : Int32} {f : Nat → Int32} (q0 : Nat) (ha : ws[q0]? = some (a, .inl (g.2 0, n0, .inl f))) (hix : kIx i N n0) (hd : decode cc pc = .ok (.iaload, 1)) (hn : pc + 1 = n) (kk : KW p l e R s m args below meth c Q g A nL ws cells slots n lv (.int (f N) :: rest)) : KW p l e R s m args below meth c Q g A nL ws cells slots pc lv (.int i :: .ref a :: rest) := by
  subst hn
  obtain ⟨rfl, hin⟩ := hix
  exact fun H locs ls hP hD hS hl => va_iald F.1 F.2.1 F.2.2.2.2.2.1.1 hP q0 0 ha rfl hin hd (kk H locs ls hP hD hS hl)
theorem k_lald (F : kF p s m args meth c g A nL cc own ret nm) {a n0 N : Nat} {i : Int32} {f : Nat → Int64} (q0 : Nat) (ha : ws[q0]? = some (a, .inl (g.2 1, n0, .inr (.inl f)))) (hix : kIx i N n0) (hd : decode cc pc = .ok (.laload, 1)) (hn : pc + 1 = n) (kk : KW p l e R s m args below meth c Q g A nL ws cells slots n lv (.long (f N) :: rest)) : KW p l e R s m args below meth c Q g A nL ws cells slots pc lv (.int i :: .ref a :: rest) := by
  subst hn
  obtain ⟨rfl, hin⟩ := hix
  exact fun H locs ls hP hD hS hl => va_lald F.1 F.2.1 F.2.2.2.2.2.1.1 hP q0 1 ha rfl hin hd (kk H locs ls hP hD hS hl)
theorem k_zald (F : kF p s m args meth c g A nL cc own ret nm) {a n0 N : Nat} {i : Int32} {f : Nat → Int32} (q0 : Nat) (ha : ws[q0]? = some (a, .inl (g.2 2, n0, .inl f))) (hix : kIx i N n0) (hd : decode cc pc = .ok (.baload, 1)) (hn : pc + 1 = n) (kk : KW p l e R s m args below meth c Q g A nL ws cells slots n lv (.int (f N) :: rest)) : KW p l e R s m args below meth c Q g A nL ws cells slots pc lv (.int i :: .ref a :: rest) := by
  subst hn
  obtain ⟨rfl, hin⟩ := hix
  exact fun H locs ls hP hD hS hl => va_zald F.1 F.2.1 F.2.2.2.2.2.1.1 hP q0 2 ha rfl hin hd (kk H locs ls hP hD hS hl)
theorem k_iast (F : kF p s m args meth c g A nL cc own ret nm) {a n0 N : Nat} {i : Int32} {x : Int32} {f : Nat → Int32} (q0 : Nat) (ha : ws[q0]? = some (a, .inl (g.2 0, n0, .inl f))) (hix : kIx i N n0) (hw : ws.set q0 (a, .inl (g.2 0, n0, .inl (upd f N x))) = ws') (hd : decode cc pc = .ok (.iastore, 1)) (hn : pc + 1 = n) (kk : KW p l e R s m args below meth c Q g A nL ws' cells slots n lv rest) : KW p l e R s m args below meth c Q g A nL ws cells slots pc lv (.int x :: .int i :: .ref a :: rest) := by
  subst hn
  obtain ⟨rfl, hin⟩ := hix
  subst hw
  exact fun H locs ls hP hD hS hl => va_iast F.1 F.2.1 F.2.2.2.2.2.1.1 hP hD hS q0 0 ha rfl hin hd (fun H1 locs1 hP1 hD1 hS1 => kk H1 locs1 ls hP1 hD1 hS1 hl)
theorem k_last (F : kF p s m args meth c g A nL cc own ret nm) {a n0 N : Nat} {i : Int32} {x : Int64} {f : Nat → Int64} (q0 : Nat) (ha : ws[q0]? = some (a, .inl (g.2 1, n0, .inr (.inl f)))) (hix : kIx i N n0) (hw : ws.set q0 (a, .inl (g.2 1, n0, .inr (.inl (vp_updL f N x)))) = ws') (hd : decode cc pc = .ok (.lastore, 1)) (hn : pc + 1 = n) (kk : KW p l e R s m args below meth c Q g A nL ws' cells slots n lv rest) : KW p l e R s m args below meth c Q g A nL ws cells slots pc lv (.long x :: .int i :: .ref a :: rest) := by
  subst hn
  obtain ⟨rfl, hin⟩ := hix
  subst hw
  exact fun H locs ls hP hD hS hl => va_last F.1 F.2.1 F.2.2.2.2.2.1.1 hP hD hS q0 1 ha rfl hin hd (fun H1 locs1 hP1 hD1 hS1 => kk H1 locs1 ls hP1 hD1 hS1 hl)
theorem k_zast (F : kF p s m args meth c g A nL cc own ret nm) {a n0 N : Nat} {i x : Int32} {f : Nat → Int32} (q0 : Nat) (ha : ws[q0]? = some (a, .inl (g.2 2, n0, .inl f))) (hix : kIx i N n0) (hx : vp_nar .boolean x = x) (hw : ws.set q0 (a, .inl (g.2 2, n0, .inl (upd f N x))) = ws') (hd : decode cc pc = .ok (.bastore, 1)) (hn : pc + 1 = n) (kk : KW p l e R s m args below meth c Q g A nL ws' cells slots n lv rest) : KW p l e R s m args below meth c Q g A nL ws cells slots pc lv (.int x :: .int i :: .ref a :: rest) := by
  subst hn
  obtain ⟨rfl, hin⟩ := hix
  subst hw
  exact fun H locs ls hP hD hS hl => va_zast F.1 F.2.1 F.2.2.2.2.2.1.1 hP hD hS q0 2 ha rfl hin hd (fun H1 locs1 hP1 hD1 hS1 => kk H1 locs1 ls (by rw [hx] at hP1; exact hP1) (by rw [hx] at hD1; exact hD1) hS1 hl)
theorem k_alen (F : kF p s m args meth c g A nL cc own ret nm) {a n0 : Nat} {f : Nat → Int32} {v : Int32} (q0 : Nat) (ha : ws[q0]? = some (a, .inl (g.2 0, n0, .inl f))) (hv : Int32.ofNat n0 = v) (hd : decode cc pc = .ok (.arraylength, 1)) (hn : pc + 1 = n) (kk : KW p l e R s m args below meth c Q g A nL ws cells slots n lv (.int v :: rest)) : KW p l e R s m args below meth c Q g A nL ws cells slots pc lv (.ref a :: rest) := by
  subst hn
  exact fun H locs ls hP hD hS hl => va_alen F.1 F.2.1 F.2.2.2.2.2.1.1 hP q0 0 ha rfl hv hd (kk H locs ls hP hD hS hl)
theorem k_aald (F : kF p s m args meth c g A nL cc own ret nm) {a n0 N : Nat} {i : Int32} {f : Nat → Option Nat} (q0 : Nat) (ha : ws[q0]? = some (a, .inl (g.2 3, n0, .inr (.inr (.inr (.inr f)))))) (hix : kIx i N n0) (hd : decode cc pc = .ok (.aaload, 1)) (hn : pc + 1 = n) (kk : KW p l e R s m args below meth c Q g A nL ws cells slots n lv (va_rf (f N) :: rest)) : KW p l e R s m args below meth c Q g A nL ws cells slots pc lv (.int i :: .ref a :: rest) := by
  subst hn
  obtain ⟨rfl, hin⟩ := hix
  exact fun H locs ls hP hD hS hl => va_aldq F.1 F.2.1 F.2.2.2.2.2.1.1 hP q0 3 ha rfl hin hd (kk H locs ls hP hD hS hl)
theorem k_lv (ks : List Nat) (h : lv_pick lv ks = lv') (kk : KW p l e R s m args below meth c Q g A nL ws cells slots pc lv' rest) : KW p l e R s m args below meth c Q g A nL ws cells slots pc lv rest := fun H locs ls hP hD hS hl => kk H locs ls hP hD hS (lv_sub hl ks h)
theorem k_sub (is : List Nat) (h : is.map (fun i => ws[i]?) = ws'.map some) (hn : va_nd is = true) (kk : KW p l e R s m args below meth c Q g A nL ws' cells slots pc lv rest) : KW p l e R s m args below meth c Q g A nL ws cells slots pc lv rest := fun H locs ls hP hD hS hl => kk H locs ls (hP.sub is (kfm h)) (hD.sub is hn h) hS hl
theorem k_world (h : ws = ws') (kk : KW p l e R s m args below meth c Q g A nL ws' cells slots pc lv rest) : KW p l e R s m args below meth c Q g A nL ws cells slots pc lv rest := h ▸ kk
/-- the same cells, told otherwise -/
theorem k_same (h : ∀ (H : Heap), va_P g.1 vwCl ws H → va_P g.1 vwCl ws' H) (ha : ws.map Prod.fst = ws'.map Prod.fst) (kk : KW p l e R s m args below meth c Q g A nL ws' cells slots pc lv rest) : KW p l e R s m args below meth c Q g A nL ws cells slots pc lv rest := by
  intro H locs ls hP hD hS hl
  refine kk H locs ls (h H hP) ?_ hS hl
  have key : ∀ (k : Nat) (q : Nat × va_E), ws'[k]? = some q → ∃ q0, ws[k]? = some q0 ∧ q0.1 = q.1 := by
    intro k q hq
    have h1 : (ws.map Prod.fst)[k]? = some q.1 := by rw [ha, List.getElem?_map, hq]; rfl
    rw [List.getElem?_map] at h1
    cases hz : ws[k]? with
    | none => rw [hz] at h1; cases h1
    | some z => rw [hz] at h1; exact ⟨z, rfl, Option.some.inj h1⟩
  refine ⟨fun i j x y hx hy hxy => ?_, fun k q hq => ?_⟩
  · obtain ⟨x0, a1, a2⟩ := key i x hx
    obtain ⟨y0, b1, b2⟩ := key j y hy
    exact hD.1 i j x0 y0 a1 b1 (a2.trans (hxy.trans b2.symm))
  · obtain ⟨q0, a1, a2⟩ := key k q hq
    rw [← a2]
    exact hD.2 k q0 a1
theorem k_widen {a b : Nat} (h1 : cells ≤ a) (h2 : slots ≤ b) (kk : KW p l e R s m args below meth c Q g A nL ws a b pc lv rest) : KW p l e R s m args below meth c Q g A nL ws cells slots pc lv rest := fun H locs ls hP hD hS hl => W.widen h1 h2 (kk H locs ls hP hD hS hl)
theorem k_valI {x y : Int32} (h : x = y) (kk : KW p l e R s m args below meth c Q g A nL ws cells slots pc lv (.int y :: rest)) : KW p l e R s m args below meth c Q g A nL ws cells slots pc lv (.int x :: rest) := h ▸ kk
theorem k_valL {x y : Int64} (h : x = y) (kk : KW p l e R s m args below meth c Q g A nL ws cells slots pc lv (.long y :: rest)) : KW p l e R s m args below meth c Q g A nL ws cells slots pc lv (.long x :: rest) := h ▸ kk
theorem k_valV {x y : Value} (h : x = y) (kk : KW p l e R s m args below meth c Q g A nL ws cells slots pc lv (y :: rest)) : KW p l e R s m args below meth c Q g A nL ws cells slots pc lv (x :: rest) := h ▸ kk
end KA
section KR
variable {p : Program} {l : Launch} {e : Env} {R : Room} {s : State} {m : MethodId} {args : Array Value} {below : List Frame} {meth : Method} {c : Code} {g : kG} {A : Nat → Prop} {nL : Nat} {cc : ByteArray} {own : String} {ret : Option FieldType} {nm : String} {ws : va_W} {cells slots pc : Nat} {lv : List (Nat × Value)}
theorem k_iretE (F : kF p s m args meth c g A nL cc own (some .int) nm) {v : Int32} {po : Int32 → va_W → Prop} (hpo : po v ws) (hd : decode cc pc = .ok (.ireturn, 1)) : KW p l e R s m args below meth c (MQ below (kEi g po A) args s cells slots A) g A nL ws cells slots pc lv [.int v] :=
  fun H locs ls hP hD hS hl => W.iret (Qc := kEi g po A) F.1 F.2.1 F.2.2.2.2.2.2.2.1 (fun t ht hW => ⟨⟨v, ws, rfl, hpo, by rw [ht]; exact hP, hD⟩, hS.F ht⟩) hS.2.2 hd F.2.2.2.2.2.2.2.2.1
theorem k_iret (F : kF p s m args meth c g A nL cc own (some .int) nm) {v r0 : Int32} {w0 : va_W} (hr : v = r0) (hw : ws = w0) (hd : decode cc pc = .ok (.ireturn, 1)) : KW p l e R s m args below meth c (MQ below (kDi g r0 w0 A) args s cells slots A) g A nL ws cells slots pc lv [.int v] :=
  fun H locs ls hP hD hS hl => W.iret (Qc := kDi g r0 w0 A) F.1 F.2.1 F.2.2.2.2.2.2.2.1 (fun t ht hW => ⟨⟨v, ws, rfl, ⟨hr, hw⟩, by rw [ht]; exact hP, hD⟩, hS.F ht⟩) hS.2.2 hd F.2.2.2.2.2.2.2.2.1
theorem k_zret (F : kF p s m args meth c g A nL cc own (some .boolean) nm) {v r0 : Int32} {w0 : va_W} (hv : narrow .boolean (.int v) = .int v) (hr : v = r0) (hw : ws = w0) (hd : decode cc pc = .ok (.ireturn, 1)) : KW p l e R s m args below meth c (MQ below (kDi g r0 w0 A) args s cells slots A) g A nL ws cells slots pc lv [.int v] :=
  fun H locs ls hP hD hS hl => W.zret (Qc := kDi g r0 w0 A) F.1 F.2.1 F.2.2.2.2.2.2.2.1 hv (fun t ht hW => ⟨⟨v, ws, rfl, ⟨hr, hw⟩, by rw [ht]; exact hP, hD⟩, hS.F ht⟩) hS.2.2 hd F.2.2.2.2.2.2.2.2.1
theorem k_lret (F : kF p s m args meth c g A nL cc own (some .long) nm) {v r0 : Int64} {w0 : va_W} (hr : v = r0) (hw : ws = w0) (hd : decode cc pc = .ok (.lreturn, 1)) : KW p l e R s m args below meth c (MQ below (kDl g r0 w0 A) args s cells slots A) g A nL ws cells slots pc lv [.long v] :=
  fun H locs ls hP hD hS hl => W.lret (Qc := kDl g r0 w0 A) F.1 F.2.1 F.2.2.2.2.2.2.2.1 (fun t ht hW => ⟨⟨v, ws, rfl, ⟨hr, hw⟩, by rw [ht]; exact hP, hD⟩, hS.F ht⟩) hS.2.2 hd F.2.2.2.2.2.2.2.2.1
theorem k_vret (F : kF p s m args meth c g A nL cc own none nm) {w0 : va_W} (hw : ws = w0) (hd : decode cc pc = .ok (.return_, 1)) : KW p l e R s m args below meth c (MQ below (kDv g w0 A) args s cells slots A) g A nL ws cells slots pc lv [] :=
  fun H locs ls hP hD hS hl => W.vret (Qc := kDv g w0 A) F.1 F.2.1 F.2.2.2.2.2.2.2.1 (fun t ht hW => ⟨⟨ws, rfl, hw, by rw [ht]; exact hP, hD⟩, hS.F ht⟩) hS.2.2 hd F.2.2.2.2.2.2.2.2.1
theorem k_vretE (F : kF p s m args meth c g A nL cc own none nm) {po : va_W → Prop} (hw : po ws) (hd : decode cc pc = .ok (.return_, 1)) : KW p l e R s m args below meth c (MQ below (kEv g po A) args s cells slots A) g A nL ws cells slots pc lv [] :=
  fun H locs ls hP hD hS hl => W.vret (Qc := kEv g po A) F.1 F.2.1 F.2.2.2.2.2.2.2.1 (fun t ht hW => ⟨⟨ws, rfl, hw, by rw [ht]; exact hP, hD⟩, hS.F ht⟩) hS.2.2 hd F.2.2.2.2.2.2.2.2.1
theorem k_aretE {C : String} (F : kF p s m args meth c g A nL cc own (some (.object C)) nm) {v : Option Nat} {po : Option Nat → va_W → Prop} (hpo : po v ws) (hd : decode cc pc = .ok (.areturn, 1)) : KW p l e R s m args below meth c (MQ below (kEq g po A) args s cells slots A) g A nL ws cells slots pc lv [va_rf v] :=
  fun H locs ls hP hD hS hl => W.aret (Qc := kEq g po A) F.1 F.2.1 F.2.2.2.2.2.2.2.1 (Or.inl ⟨_, rfl⟩) (va_rf_or v) (fun t ht hW => ⟨⟨v, ws, rfl, hpo, by rw [ht]; exact hP, hD⟩, hS.F ht⟩) hS.2.2 hd F.2.2.2.2.2.2.2.2.1
end KR
theorem k_enter {l : Launch} {y : MethodName} {cc : ByteArray} {nL : Nat} {ret : Option FieldType} {rm : Room} {g : kG} {av : List Value} {ws : va_W} {Qx : kQ} (hy : plainName y.cls = true) (hlen : (lg_sl av).length ≤ nL)
    (body : ∀ (p : Program) (e : Env) (s : State) (m : MethodId) (args : Array Value) (below : List Frame) (meth : Method) (c : Code) (A : Nat → Prop), kF p s m args meth c g A nL cc y.cls ret y.name → KW p l e rm s m args below meth c (MQ below (Qx A) args s rm.cells rm.slots A) g A nL ws 0 0 0 (lv_args 0 av) []) : kM l y cc nL ret rm g av ws Qx := by
  intro sz
  refine Met.ofW (cc := cc) (maxL := nL) (ret := ret) hy rfl ?_
  intro p e s m args below meth c s₁ B hml hv
  obtain ⟨rfl, hsz, hP, hK, hD0⟩ := hv
  have hts0 := atoms_spec (ws := kWd y cc nL ret) B.pre
  have hl := lv_entry av hlen
  rw [lg_entry_eq]
  exact body p e s m _ below meth c (va_A ws sz) ⟨B.exec, B.bytes, hml, findClass_of_methodNamed B.named, fun w hw => hts0 w (List.mem_cons_of_mem _ hw), hK, fun q h => Or.inr (by rw [← hsz]; exact h), B.returns, B.notSynchronized, (name_of_methodNamed B.named B.method).1⟩ s.heap [] _ hP (hD0.self (sz := sz)) va_S.rf hl

