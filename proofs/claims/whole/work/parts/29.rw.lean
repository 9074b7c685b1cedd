section KRW
variable {p : Program} {l : Launch} {e : Env} {R : Room} {s : State} {m : MethodId} {args : Array Value} {below : List Frame} {meth : Method} {c : Code} {Q : State → Prop} {g : kG} {A : Nat → Prop} {nL : Nat} {cc : ByteArray} {ret : Option FieldType} {nm : String} {h0 : Nat} {ad : Nat → Nat} {u u' : kS} {cells slots pc n : Nat} {lv : List (Nat × Value)} {rest : List Value}
theorem k_rput_0 (F : kF p s m args meth c g A nL cc "ColdWorksModel" ret nm) (hd : decode cc pc = .ok (.putfield 64, 3)) (hn : pc + 3 = n) (kk : KW p l e R s m args below meth c Q g A nL (wR g h0 ad u) cells slots n lv rest) : KW p l e R s m args below meth c Q g A nL (wR g h0 ad u) cells slots pc lv (.int 0 :: .ref h0 :: rest) := k_put (ws' := wR g h0 ad u) F uX10 tyX10_ok nmX10 0 0 rfl rfl (by decide) mw_583 rfl rfl rfl (Nat.le_of_ble_eq_true rfl) rfl hd hn kk
theorem k_rget_1 (F : kF p s m args meth c g A nL cc "ColdWorksModel" ret nm) {v : Int64} (hv : u.2.1 1 = v) (hd : decode cc pc = .ok (.getfield 78, 3)) (hn : pc + 3 = n) (kk : KW p l e R s m args below meth c Q g A nL (wR g h0 ad u) cells slots n lv (.long v :: rest)) : KW p l e R s m args below meth c Q g A nL (wR g h0 ad u) cells slots pc lv (.ref h0 :: rest) := by
  subst hv
  exact k_get (v := .long (u.2.1 1)) F uX10 0 1 rfl rfl (by decide) mw_584 rfl hd hn kk
theorem k_rput_1 (F : kF p s m args meth c g A nL cc "ColdWorksModel" ret nm) {v : Int64} (hu : (u.1, vp_updL u.2.1 1 v, u.2.2) = u') (hd : decode cc pc = .ok (.putfield 78, 3)) (hn : pc + 3 = n) (kk : KW p l e R s m args below meth c Q g A nL (wR g h0 ad u') cells slots n lv rest) : KW p l e R s m args below meth c Q g A nL (wR g h0 ad u) cells slots pc lv (.long v :: .ref h0 :: rest) := by
  subst hu
  exact k_put (ws' := wR g h0 ad (u.1, vp_updL u.2.1 1 v, u.2.2)) F uX10 tyX10_ok nmX10 0 1 rfl rfl (by decide) mw_584 rfl rfl rfl (Nat.le_of_ble_eq_true rfl) rfl hd hn kk
theorem k_rget_2 (F : kF p s m args meth c g A nL cc "ColdWorksModel" ret nm) {v : Int32} (hv : u.1 2 = v) (hd : decode cc pc = .ok (.getfield 67, 3)) (hn : pc + 3 = n) (kk : KW p l e R s m args below meth c Q g A nL (wR g h0 ad u) cells slots n lv (.int v :: rest)) : KW p l e R s m args below meth c Q g A nL (wR g h0 ad u) cells slots pc lv (.ref h0 :: rest) := by
  subst hv
  exact k_get (v := .int (u.1 2)) F uX10 0 2 rfl rfl (by decide) mw_585 rfl hd hn kk
theorem k_rput_2 (F : kF p s m args meth c g A nL cc "ColdWorksModel" ret nm) {v : Int32} (hu : (upd u.1 2 v, u.2) = u') (hd : decode cc pc = .ok (.putfield 67, 3)) (hn : pc + 3 = n) (kk : KW p l e R s m args below meth c Q g A nL (wR g h0 ad u') cells slots n lv rest) : KW p l e R s m args below meth c Q g A nL (wR g h0 ad u) cells slots pc lv (.int v :: .ref h0 :: rest) := by
  subst hu
  exact k_put (ws' := wR g h0 ad (upd u.1 2 v, u.2)) F uX10 tyX10_ok nmX10 0 2 rfl rfl (by decide) mw_585 rfl rfl rfl (Nat.le_of_ble_eq_true rfl) rfl hd hn kk
theorem k_rget_3 (F : kF p s m args meth c g A nL cc "ColdWorksModel" ret nm) (hd : decode cc pc = .ok (.getfield 7, 3)) (hn : pc + 3 = n) (kk : KW p l e R s m args below meth c Q g A nL (wR g h0 ad u) cells slots n lv (.ref (ad 3) :: rest)) : KW p l e R s m args below meth c Q g A nL (wR g h0 ad u) cells slots pc lv (.ref h0 :: rest) := k_get (v := .ref (ad 3)) F uX10 0 3 rfl rfl (by decide) mw_586 rfl hd hn kk
theorem k_rget_4 (F : kF p s m args meth c g A nL cc "ColdWorksModel" ret nm) (hd : decode cc pc = .ok (.getfield 13, 3)) (hn : pc + 3 = n) (kk : KW p l e R s m args below meth c Q g A nL (wR g h0 ad u) cells slots n lv (.ref (ad 4) :: rest)) : KW p l e R s m args below meth c Q g A nL (wR g h0 ad u) cells slots pc lv (.ref h0 :: rest) := k_get (v := .ref (ad 4)) F uX10 0 4 rfl rfl (by decide) mw_587 rfl hd hn kk
theorem k_rget_5 (F : kF p s m args meth c g A nL cc "ColdWorksModel" ret nm) (hd : decode cc pc = .ok (.getfield 16, 3)) (hn : pc + 3 = n) (kk : KW p l e R s m args below meth c Q g A nL (wR g h0 ad u) cells slots n lv (.ref (ad 5) :: rest)) : KW p l e R s m args below meth c Q g A nL (wR g h0 ad u) cells slots pc lv (.ref h0 :: rest) := k_get (v := .ref (ad 5)) F uX10 0 5 rfl rfl (by decide) mw_588 rfl hd hn kk
theorem k_rget_6 (F : kF p s m args meth c g A nL cc "ColdWorksModel" ret nm) {v : Int32} (hv : u.1 6 = v) (hd : decode cc pc = .ok (.getfield 19, 3)) (hn : pc + 3 = n) (kk : KW p l e R s m args below meth c Q g A nL (wR g h0 ad u) cells slots n lv (.int v :: rest)) : KW p l e R s m args below meth c Q g A nL (wR g h0 ad u) cells slots pc lv (.ref h0 :: rest) := by
  subst hv
  exact k_get (v := .int (u.1 6)) F uX10 0 6 rfl rfl (by decide) mw_589 rfl hd hn kk
theorem k_rput_6 (F : kF p s m args meth c g A nL cc "ColdWorksModel" ret nm) {v : Int32} (hu : (upd u.1 6 v, u.2) = u') (hd : decode cc pc = .ok (.putfield 19, 3)) (hn : pc + 3 = n) (kk : KW p l e R s m args below meth c Q g A nL (wR g h0 ad u') cells slots n lv rest) : KW p l e R s m args below meth c Q g A nL (wR g h0 ad u) cells slots pc lv (.int v :: .ref h0 :: rest) := by
  subst hu
  exact k_put (ws' := wR g h0 ad (upd u.1 6 v, u.2)) F uX10 tyX10_ok nmX10 0 6 rfl rfl (by decide) mw_589 rfl rfl rfl (Nat.le_of_ble_eq_true rfl) rfl hd hn kk
theorem k_rget_7 (F : kF p s m args meth c g A nL cc "ColdWorksModel" ret nm) (hd : decode cc pc = .ok (.getfield 23, 3)) (hn : pc + 3 = n) (kk : KW p l e R s m args below meth c Q g A nL (wR g h0 ad u) cells slots n lv (.ref (ad 7) :: rest)) : KW p l e R s m args below meth c Q g A nL (wR g h0 ad u) cells slots pc lv (.ref h0 :: rest) := k_get (v := .ref (ad 7)) F uX10 0 7 rfl rfl (by decide) mw_590 rfl hd hn kk
theorem k_rget_8 (F : kF p s m args meth c g A nL cc "ColdWorksModel" ret nm) (hd : decode cc pc = .ok (.getfield 26, 3)) (hn : pc + 3 = n) (kk : KW p l e R s m args below meth c Q g A nL (wR g h0 ad u) cells slots n lv (.ref (ad 8) :: rest)) : KW p l e R s m args below meth c Q g A nL (wR g h0 ad u) cells slots pc lv (.ref h0 :: rest) := k_get (v := .ref (ad 8)) F uX10 0 8 rfl rfl (by decide) mw_591 rfl hd hn kk
theorem k_rget_9 (F : kF p s m args meth c g A nL cc "ColdWorksModel" ret nm) {v : Int32} (hv : u.1 9 = v) (hd : decode cc pc = .ok (.getfield 29, 3)) (hn : pc + 3 = n) (kk : KW p l e R s m args below meth c Q g A nL (wR g h0 ad u) cells slots n lv (.int v :: rest)) : KW p l e R s m args below meth c Q g A nL (wR g h0 ad u) cells slots pc lv (.ref h0 :: rest) := by
  subst hv
  exact k_get (v := .int (u.1 9)) F uX10 0 9 rfl rfl (by decide) mw_592 rfl hd hn kk
theorem k_rput_9 (F : kF p s m args meth c g A nL cc "ColdWorksModel" ret nm) {v : Int32} (hu : (upd u.1 9 v, u.2) = u') (hd : decode cc pc = .ok (.putfield 29, 3)) (hn : pc + 3 = n) (kk : KW p l e R s m args below meth c Q g A nL (wR g h0 ad u') cells slots n lv rest) : KW p l e R s m args below meth c Q g A nL (wR g h0 ad u) cells slots pc lv (.int v :: .ref h0 :: rest) := by
  subst hu
  exact k_put (ws' := wR g h0 ad (upd u.1 9 v, u.2)) F uX10 tyX10_ok nmX10 0 9 rfl rfl (by decide) mw_592 rfl rfl rfl (Nat.le_of_ble_eq_true rfl) rfl hd hn kk
theorem k_rget_10 (F : kF p s m args meth c g A nL cc "ColdWorksModel" ret nm) (hd : decode cc pc = .ok (.getfield 32, 3)) (hn : pc + 3 = n) (kk : KW p l e R s m args below meth c Q g A nL (wR g h0 ad u) cells slots n lv (.ref (ad 10) :: rest)) : KW p l e R s m args below meth c Q g A nL (wR g h0 ad u) cells slots pc lv (.ref h0 :: rest) := k_get (v := .ref (ad 10)) F uX10 0 10 rfl rfl (by decide) mw_593 rfl hd hn kk
theorem k_rget_11 (F : kF p s m args meth c g A nL cc "ColdWorksModel" ret nm) (hd : decode cc pc = .ok (.getfield 35, 3)) (hn : pc + 3 = n) (kk : KW p l e R s m args below meth c Q g A nL (wR g h0 ad u) cells slots n lv (.ref (ad 11) :: rest)) : KW p l e R s m args below meth c Q g A nL (wR g h0 ad u) cells slots pc lv (.ref h0 :: rest) := k_get (v := .ref (ad 11)) F uX10 0 11 rfl rfl (by decide) mw_594 rfl hd hn kk
theorem k_rget_12 (F : kF p s m args meth c g A nL cc "ColdWorksModel" ret nm) {v : Int32} (hv : u.1 12 = v) (hd : decode cc pc = .ok (.getfield 90, 3)) (hn : pc + 3 = n) (kk : KW p l e R s m args below meth c Q g A nL (wR g h0 ad u) cells slots n lv (.int v :: rest)) : KW p l e R s m args below meth c Q g A nL (wR g h0 ad u) cells slots pc lv (.ref h0 :: rest) := by
  subst hv
  exact k_get (v := .int (u.1 12)) F uX10 0 12 rfl rfl (by decide) mw_595 rfl hd hn kk
theorem k_rput_12 (F : kF p s m args meth c g A nL cc "ColdWorksModel" ret nm) {v : Int32} (hu : (upd u.1 12 v, u.2) = u') (hd : decode cc pc = .ok (.putfield 90, 3)) (hn : pc + 3 = n) (kk : KW p l e R s m args below meth c Q g A nL (wR g h0 ad u') cells slots n lv rest) : KW p l e R s m args below meth c Q g A nL (wR g h0 ad u) cells slots pc lv (.int v :: .ref h0 :: rest) := by
  subst hu
  exact k_put (ws' := wR g h0 ad (upd u.1 12 v, u.2)) F uX10 tyX10_ok nmX10 0 12 rfl rfl (by decide) mw_595 rfl rfl rfl (Nat.le_of_ble_eq_true rfl) rfl hd hn kk
theorem k_rget_13 (F : kF p s m args meth c g A nL cc "ColdWorksModel" ret nm) {v : Int32} (hv : u.1 13 = v) (hd : decode cc pc = .ok (.getfield 98, 3)) (hn : pc + 3 = n) (kk : KW p l e R s m args below meth c Q g A nL (wR g h0 ad u) cells slots n lv (.int v :: rest)) : KW p l e R s m args below meth c Q g A nL (wR g h0 ad u) cells slots pc lv (.ref h0 :: rest) := by
  subst hv
  exact k_get (v := .int (u.1 13)) F uX10 0 13 rfl rfl (by decide) mw_596 rfl hd hn kk
theorem k_rput_13 (F : kF p s m args meth c g A nL cc "ColdWorksModel" ret nm) {v : Int32} (hu : (upd u.1 13 v, u.2) = u') (hd : decode cc pc = .ok (.putfield 98, 3)) (hn : pc + 3 = n) (kk : KW p l e R s m args below meth c Q g A nL (wR g h0 ad u') cells slots n lv rest) : KW p l e R s m args below meth c Q g A nL (wR g h0 ad u) cells slots pc lv (.int v :: .ref h0 :: rest) := by
  subst hu
  exact k_put (ws' := wR g h0 ad (upd u.1 13 v, u.2)) F uX10 tyX10_ok nmX10 0 13 rfl rfl (by decide) mw_596 rfl rfl rfl (Nat.le_of_ble_eq_true rfl) rfl hd hn kk
theorem k_rget_14 (F : kF p s m args meth c g A nL cc "ColdWorksModel" ret nm) {v : Int32} (hv : u.1 14 = v) (hd : decode cc pc = .ok (.getfield 104, 3)) (hn : pc + 3 = n) (kk : KW p l e R s m args below meth c Q g A nL (wR g h0 ad u) cells slots n lv (.int v :: rest)) : KW p l e R s m args below meth c Q g A nL (wR g h0 ad u) cells slots pc lv (.ref h0 :: rest) := by
  subst hv
  exact k_get (v := .int (u.1 14)) F uX10 0 14 rfl rfl (by decide) mw_597 rfl hd hn kk
theorem k_rput_14 (F : kF p s m args meth c g A nL cc "ColdWorksModel" ret nm) {v : Int32} (hz : v = 0 ∨ v = 1) (hu : (upd u.1 14 v, u.2) = u') (hd : decode cc pc = .ok (.putfield 104, 3)) (hn : pc + 3 = n) (kk : KW p l e R s m args below meth c Q g A nL (wR g h0 ad u') cells slots n lv rest) : KW p l e R s m args below meth c Q g A nL (wR g h0 ad u) cells slots pc lv (.int v :: .ref h0 :: rest) := by
  subst hu
  exact k_put (ws' := wR g h0 ad (upd u.1 14 v, u.2)) F uX10 tyX10_ok nmX10 0 14 rfl rfl (by decide) mw_597 rfl (kZn hz) (kZf hz) (Nat.le_of_ble_eq_true rfl) rfl hd hn kk
theorem k_rget_15 (F : kF p s m args meth c g A nL cc "ColdWorksModel" ret nm) {v : Int32} (hv : u.1 15 = v) (hd : decode cc pc = .ok (.getfield 108, 3)) (hn : pc + 3 = n) (kk : KW p l e R s m args below meth c Q g A nL (wR g h0 ad u) cells slots n lv (.int v :: rest)) : KW p l e R s m args below meth c Q g A nL (wR g h0 ad u) cells slots pc lv (.ref h0 :: rest) := by
  subst hv
  exact k_get (v := .int (u.1 15)) F uX10 0 15 rfl rfl (by decide) mw_598 rfl hd hn kk
theorem k_rput_15 (F : kF p s m args meth c g A nL cc "ColdWorksModel" ret nm) {v : Int32} (hz : v = 0 ∨ v = 1) (hu : (upd u.1 15 v, u.2) = u') (hd : decode cc pc = .ok (.putfield 108, 3)) (hn : pc + 3 = n) (kk : KW p l e R s m args below meth c Q g A nL (wR g h0 ad u') cells slots n lv rest) : KW p l e R s m args below meth c Q g A nL (wR g h0 ad u) cells slots pc lv (.int v :: .ref h0 :: rest) := by
  subst hu
  exact k_put (ws' := wR g h0 ad (upd u.1 15 v, u.2)) F uX10 tyX10_ok nmX10 0 15 rfl rfl (by decide) mw_598 rfl (kZn hz) (kZf hz) (Nat.le_of_ble_eq_true rfl) rfl hd hn kk
theorem k_rget_16 (F : kF p s m args meth c g A nL cc "ColdWorksModel" ret nm) {v : Int32} (hv : u.1 16 = v) (hd : decode cc pc = .ok (.getfield 113, 3)) (hn : pc + 3 = n) (kk : KW p l e R s m args below meth c Q g A nL (wR g h0 ad u) cells slots n lv (.int v :: rest)) : KW p l e R s m args below meth c Q g A nL (wR g h0 ad u) cells slots pc lv (.ref h0 :: rest) := by
  subst hv
  exact k_get (v := .int (u.1 16)) F uX10 0 16 rfl rfl (by decide) mw_599 rfl hd hn kk
theorem k_rput_16 (F : kF p s m args meth c g A nL cc "ColdWorksModel" ret nm) {v : Int32} (hz : v = 0 ∨ v = 1) (hu : (upd u.1 16 v, u.2) = u') (hd : decode cc pc = .ok (.putfield 113, 3)) (hn : pc + 3 = n) (kk : KW p l e R s m args below meth c Q g A nL (wR g h0 ad u') cells slots n lv rest) : KW p l e R s m args below meth c Q g A nL (wR g h0 ad u) cells slots pc lv (.int v :: .ref h0 :: rest) := by
  subst hu
  exact k_put (ws' := wR g h0 ad (upd u.1 16 v, u.2)) F uX10 tyX10_ok nmX10 0 16 rfl rfl (by decide) mw_599 rfl (kZn hz) (kZf hz) (Nat.le_of_ble_eq_true rfl) rfl hd hn kk
theorem k_rget_17 (F : kF p s m args meth c g A nL cc "ColdWorksModel" ret nm) {v : Int32} (hv : u.1 17 = v) (hd : decode cc pc = .ok (.getfield 93, 3)) (hn : pc + 3 = n) (kk : KW p l e R s m args below meth c Q g A nL (wR g h0 ad u) cells slots n lv (.int v :: rest)) : KW p l e R s m args below meth c Q g A nL (wR g h0 ad u) cells slots pc lv (.ref h0 :: rest) := by
  subst hv
  exact k_get (v := .int (u.1 17)) F uX10 0 17 rfl rfl (by decide) mw_600 rfl hd hn kk
theorem k_rput_17 (F : kF p s m args meth c g A nL cc "ColdWorksModel" ret nm) {v : Int32} (hu : (upd u.1 17 v, u.2) = u') (hd : decode cc pc = .ok (.putfield 93, 3)) (hn : pc + 3 = n) (kk : KW p l e R s m args below meth c Q g A nL (wR g h0 ad u') cells slots n lv rest) : KW p l e R s m args below meth c Q g A nL (wR g h0 ad u) cells slots pc lv (.int v :: .ref h0 :: rest) := by
  subst hu
  exact k_put (ws' := wR g h0 ad (upd u.1 17 v, u.2)) F uX10 tyX10_ok nmX10 0 17 rfl rfl (by decide) mw_600 rfl rfl rfl (Nat.le_of_ble_eq_true rfl) rfl hd hn kk
theorem k_rget_18 (F : kF p s m args meth c g A nL cc "ColdWorksModel" ret nm) {v : Int32} (hv : u.1 18 = v) (hd : decode cc pc = .ok (.getfield 119, 3)) (hn : pc + 3 = n) (kk : KW p l e R s m args below meth c Q g A nL (wR g h0 ad u) cells slots n lv (.int v :: rest)) : KW p l e R s m args below meth c Q g A nL (wR g h0 ad u) cells slots pc lv (.ref h0 :: rest) := by
  subst hv
  exact k_get (v := .int (u.1 18)) F uX10 0 18 rfl rfl (by decide) mw_601 rfl hd hn kk
theorem k_rput_18 (F : kF p s m args meth c g A nL cc "ColdWorksModel" ret nm) {v : Int32} (hu : (upd u.1 18 v, u.2) = u') (hd : decode cc pc = .ok (.putfield 119, 3)) (hn : pc + 3 = n) (kk : KW p l e R s m args below meth c Q g A nL (wR g h0 ad u') cells slots n lv rest) : KW p l e R s m args below meth c Q g A nL (wR g h0 ad u) cells slots pc lv (.int v :: .ref h0 :: rest) := by
  subst hu
  exact k_put (ws' := wR g h0 ad (upd u.1 18 v, u.2)) F uX10 tyX10_ok nmX10 0 18 rfl rfl (by decide) mw_601 rfl rfl rfl (Nat.le_of_ble_eq_true rfl) rfl hd hn kk
theorem k_rget_19 (F : kF p s m args meth c g A nL cc "ColdWorksModel" ret nm) {v : Int64} (hv : u.2.1 19 = v) (hd : decode cc pc = .ok (.getfield 116, 3)) (hn : pc + 3 = n) (kk : KW p l e R s m args below meth c Q g A nL (wR g h0 ad u) cells slots n lv (.long v :: rest)) : KW p l e R s m args below meth c Q g A nL (wR g h0 ad u) cells slots pc lv (.ref h0 :: rest) := by
  subst hv
  exact k_get (v := .long (u.2.1 19)) F uX10 0 19 rfl rfl (by decide) mw_602 rfl hd hn kk
theorem k_rput_19 (F : kF p s m args meth c g A nL cc "ColdWorksModel" ret nm) {v : Int64} (hu : (u.1, vp_updL u.2.1 19 v, u.2.2) = u') (hd : decode cc pc = .ok (.putfield 116, 3)) (hn : pc + 3 = n) (kk : KW p l e R s m args below meth c Q g A nL (wR g h0 ad u') cells slots n lv rest) : KW p l e R s m args below meth c Q g A nL (wR g h0 ad u) cells slots pc lv (.long v :: .ref h0 :: rest) := by
  subst hu
  exact k_put (ws' := wR g h0 ad (u.1, vp_updL u.2.1 19 v, u.2.2)) F uX10 tyX10_ok nmX10 0 19 rfl rfl (by decide) mw_602 rfl rfl rfl (Nat.le_of_ble_eq_true rfl) rfl hd hn kk
theorem k_rget_20 (F : kF p s m args meth c g A nL cc "ColdWorksModel" ret nm) {v : Int64} (hv : u.2.1 20 = v) (hd : decode cc pc = .ok (.getfield 151, 3)) (hn : pc + 3 = n) (kk : KW p l e R s m args below meth c Q g A nL (wR g h0 ad u) cells slots n lv (.long v :: rest)) : KW p l e R s m args below meth c Q g A nL (wR g h0 ad u) cells slots pc lv (.ref h0 :: rest) := by
  subst hv
  exact k_get (v := .long (u.2.1 20)) F uX10 0 20 rfl rfl (by decide) mw_603 rfl hd hn kk
theorem k_rput_20 (F : kF p s m args meth c g A nL cc "ColdWorksModel" ret nm) {v : Int64} (hu : (u.1, vp_updL u.2.1 20 v, u.2.2) = u') (hd : decode cc pc = .ok (.putfield 151, 3)) (hn : pc + 3 = n) (kk : KW p l e R s m args below meth c Q g A nL (wR g h0 ad u') cells slots n lv rest) : KW p l e R s m args below meth c Q g A nL (wR g h0 ad u) cells slots pc lv (.long v :: .ref h0 :: rest) := by
  subst hu
  exact k_put (ws' := wR g h0 ad (u.1, vp_updL u.2.1 20 v, u.2.2)) F uX10 tyX10_ok nmX10 0 20 rfl rfl (by decide) mw_603 rfl rfl rfl (Nat.le_of_ble_eq_true rfl) rfl hd hn kk
theorem k_rget_21 (F : kF p s m args meth c g A nL cc "ColdWorksModel" ret nm) {v : Int64} (hv : u.2.1 21 = v) (hd : decode cc pc = .ok (.getfield 122, 3)) (hn : pc + 3 = n) (kk : KW p l e R s m args below meth c Q g A nL (wR g h0 ad u) cells slots n lv (.long v :: rest)) : KW p l e R s m args below meth c Q g A nL (wR g h0 ad u) cells slots pc lv (.ref h0 :: rest) := by
  subst hv
  exact k_get (v := .long (u.2.1 21)) F uX10 0 21 rfl rfl (by decide) mw_604 rfl hd hn kk
theorem k_rput_21 (F : kF p s m args meth c g A nL cc "ColdWorksModel" ret nm) {v : Int64} (hu : (u.1, vp_updL u.2.1 21 v, u.2.2) = u') (hd : decode cc pc = .ok (.putfield 122, 3)) (hn : pc + 3 = n) (kk : KW p l e R s m args below meth c Q g A nL (wR g h0 ad u') cells slots n lv rest) : KW p l e R s m args below meth c Q g A nL (wR g h0 ad u) cells slots pc lv (.long v :: .ref h0 :: rest) := by
  subst hu
  exact k_put (ws' := wR g h0 ad (u.1, vp_updL u.2.1 21 v, u.2.2)) F uX10 tyX10_ok nmX10 0 21 rfl rfl (by decide) mw_604 rfl rfl rfl (Nat.le_of_ble_eq_true rfl) rfl hd hn kk
theorem k_rget_22 (F : kF p s m args meth c g A nL cc "ColdWorksModel" ret nm) (hd : decode cc pc = .ok (.getfield 39, 3)) (hn : pc + 3 = n) (kk : KW p l e R s m args below meth c Q g A nL (wR g h0 ad u) cells slots n lv (.ref (ad 22) :: rest)) : KW p l e R s m args below meth c Q g A nL (wR g h0 ad u) cells slots pc lv (.ref h0 :: rest) := k_get (v := .ref (ad 22)) F uX10 0 22 rfl rfl (by decide) mw_605 rfl hd hn kk
theorem k_rget_23 (F : kF p s m args meth c g A nL cc "ColdWorksModel" ret nm) (hd : decode cc pc = .ok (.getfield 42, 3)) (hn : pc + 3 = n) (kk : KW p l e R s m args below meth c Q g A nL (wR g h0 ad u) cells slots n lv (.ref (ad 23) :: rest)) : KW p l e R s m args below meth c Q g A nL (wR g h0 ad u) cells slots pc lv (.ref h0 :: rest) := k_get (v := .ref (ad 23)) F uX10 0 23 rfl rfl (by decide) mw_606 rfl hd hn kk
theorem k_rget_24 (F : kF p s m args meth c g A nL cc "ColdWorksModel" ret nm) (hd : decode cc pc = .ok (.getfield 45, 3)) (hn : pc + 3 = n) (kk : KW p l e R s m args below meth c Q g A nL (wR g h0 ad u) cells slots n lv (.ref (ad 24) :: rest)) : KW p l e R s m args below meth c Q g A nL (wR g h0 ad u) cells slots pc lv (.ref h0 :: rest) := k_get (v := .ref (ad 24)) F uX10 0 24 rfl rfl (by decide) mw_607 rfl hd hn kk
theorem k_rget_25 (F : kF p s m args meth c g A nL cc "ColdWorksModel" ret nm) {v : Int32} (hv : u.1 25 = v) (hd : decode cc pc = .ok (.getfield 145, 3)) (hn : pc + 3 = n) (kk : KW p l e R s m args below meth c Q g A nL (wR g h0 ad u) cells slots n lv (.int v :: rest)) : KW p l e R s m args below meth c Q g A nL (wR g h0 ad u) cells slots pc lv (.ref h0 :: rest) := by
  subst hv
  exact k_get (v := .int (u.1 25)) F uX10 0 25 rfl rfl (by decide) mw_608 rfl hd hn kk
theorem k_rput_25 (F : kF p s m args meth c g A nL cc "ColdWorksModel" ret nm) {v : Int32} (hu : (upd u.1 25 v, u.2) = u') (hd : decode cc pc = .ok (.putfield 145, 3)) (hn : pc + 3 = n) (kk : KW p l e R s m args below meth c Q g A nL (wR g h0 ad u') cells slots n lv rest) : KW p l e R s m args below meth c Q g A nL (wR g h0 ad u) cells slots pc lv (.int v :: .ref h0 :: rest) := by
  subst hu
  exact k_put (ws' := wR g h0 ad (upd u.1 25 v, u.2)) F uX10 tyX10_ok nmX10 0 25 rfl rfl (by decide) mw_608 rfl rfl rfl (Nat.le_of_ble_eq_true rfl) rfl hd hn kk
theorem k_rget_26 (F : kF p s m args meth c g A nL cc "ColdWorksModel" ret nm) (hd : decode cc pc = .ok (.getfield 48, 3)) (hn : pc + 3 = n) (kk : KW p l e R s m args below meth c Q g A nL (wR g h0 ad u) cells slots n lv (.ref (ad 26) :: rest)) : KW p l e R s m args below meth c Q g A nL (wR g h0 ad u) cells slots pc lv (.ref h0 :: rest) := k_get (v := .ref (ad 26)) F uX10 0 26 rfl rfl (by decide) mw_609 rfl hd hn kk
theorem k_rget_27 (F : kF p s m args meth c g A nL cc "ColdWorksModel" ret nm) (hd : decode cc pc = .ok (.getfield 51, 3)) (hn : pc + 3 = n) (kk : KW p l e R s m args below meth c Q g A nL (wR g h0 ad u) cells slots n lv (.ref (ad 27) :: rest)) : KW p l e R s m args below meth c Q g A nL (wR g h0 ad u) cells slots pc lv (.ref h0 :: rest) := k_get (v := .ref (ad 27)) F uX10 0 27 rfl rfl (by decide) mw_610 rfl hd hn kk
theorem k_rget_28 (F : kF p s m args meth c g A nL cc "ColdWorksModel" ret nm) (hd : decode cc pc = .ok (.getfield 54, 3)) (hn : pc + 3 = n) (kk : KW p l e R s m args below meth c Q g A nL (wR g h0 ad u) cells slots n lv (.ref (ad 28) :: rest)) : KW p l e R s m args below meth c Q g A nL (wR g h0 ad u) cells slots pc lv (.ref h0 :: rest) := k_get (v := .ref (ad 28)) F uX10 0 28 rfl rfl (by decide) mw_611 rfl hd hn kk
theorem k_rget_29 (F : kF p s m args meth c g A nL cc "ColdWorksModel" ret nm) {v : Int32} (hv : u.1 29 = v) (hd : decode cc pc = .ok (.getfield 148, 3)) (hn : pc + 3 = n) (kk : KW p l e R s m args below meth c Q g A nL (wR g h0 ad u) cells slots n lv (.int v :: rest)) : KW p l e R s m args below meth c Q g A nL (wR g h0 ad u) cells slots pc lv (.ref h0 :: rest) := by
  subst hv
  exact k_get (v := .int (u.1 29)) F uX10 0 29 rfl rfl (by decide) mw_612 rfl hd hn kk
theorem k_rput_29 (F : kF p s m args meth c g A nL cc "ColdWorksModel" ret nm) {v : Int32} (hu : (upd u.1 29 v, u.2) = u') (hd : decode cc pc = .ok (.putfield 148, 3)) (hn : pc + 3 = n) (kk : KW p l e R s m args below meth c Q g A nL (wR g h0 ad u') cells slots n lv rest) : KW p l e R s m args below meth c Q g A nL (wR g h0 ad u) cells slots pc lv (.int v :: .ref h0 :: rest) := by
  subst hu
  exact k_put (ws' := wR g h0 ad (upd u.1 29 v, u.2)) F uX10 tyX10_ok nmX10 0 29 rfl rfl (by decide) mw_612 rfl rfl rfl (Nat.le_of_ble_eq_true rfl) rfl hd hn kk
theorem k_rget_30 (F : kF p s m args meth c g A nL cc "ColdWorksModel" ret nm) {v : Int32} (hv : u.1 30 = v) (hd : decode cc pc = .ok (.getfield 154, 3)) (hn : pc + 3 = n) (kk : KW p l e R s m args below meth c Q g A nL (wR g h0 ad u) cells slots n lv (.int v :: rest)) : KW p l e R s m args below meth c Q g A nL (wR g h0 ad u) cells slots pc lv (.ref h0 :: rest) := by
  subst hv
  exact k_get (v := .int (u.1 30)) F uX10 0 30 rfl rfl (by decide) mw_613 rfl hd hn kk
theorem k_rput_30 (F : kF p s m args meth c g A nL cc "ColdWorksModel" ret nm) {v : Int32} (hu : (upd u.1 30 v, u.2) = u') (hd : decode cc pc = .ok (.putfield 154, 3)) (hn : pc + 3 = n) (kk : KW p l e R s m args below meth c Q g A nL (wR g h0 ad u') cells slots n lv rest) : KW p l e R s m args below meth c Q g A nL (wR g h0 ad u) cells slots pc lv (.int v :: .ref h0 :: rest) := by
  subst hu
  exact k_put (ws' := wR g h0 ad (upd u.1 30 v, u.2)) F uX10 tyX10_ok nmX10 0 30 rfl rfl (by decide) mw_613 rfl rfl rfl (Nat.le_of_ble_eq_true rfl) rfl hd hn kk
theorem k_rget_31 (F : kF p s m args meth c g A nL cc "ColdWorksModel" ret nm) {v : Int32} (hv : u.1 31 = v) (hd : decode cc pc = .ok (.getfield 125, 3)) (hn : pc + 3 = n) (kk : KW p l e R s m args below meth c Q g A nL (wR g h0 ad u) cells slots n lv (.int v :: rest)) : KW p l e R s m args below meth c Q g A nL (wR g h0 ad u) cells slots pc lv (.ref h0 :: rest) := by
  subst hv
  exact k_get (v := .int (u.1 31)) F uX10 0 31 rfl rfl (by decide) mw_614 rfl hd hn kk
theorem k_rput_31 (F : kF p s m args meth c g A nL cc "ColdWorksModel" ret nm) {v : Int32} (hu : (upd u.1 31 v, u.2) = u') (hd : decode cc pc = .ok (.putfield 125, 3)) (hn : pc + 3 = n) (kk : KW p l e R s m args below meth c Q g A nL (wR g h0 ad u') cells slots n lv rest) : KW p l e R s m args below meth c Q g A nL (wR g h0 ad u) cells slots pc lv (.int v :: .ref h0 :: rest) := by
  subst hu
  exact k_put (ws' := wR g h0 ad (upd u.1 31 v, u.2)) F uX10 tyX10_ok nmX10 0 31 rfl rfl (by decide) mw_614 rfl rfl rfl (Nat.le_of_ble_eq_true rfl) rfl hd hn kk
theorem k_rget_32 (F : kF p s m args meth c g A nL cc "ColdWorksModel" ret nm) {v : Int32} (hv : u.1 32 = v) (hd : decode cc pc = .ok (.getfield 101, 3)) (hn : pc + 3 = n) (kk : KW p l e R s m args below meth c Q g A nL (wR g h0 ad u) cells slots n lv (.int v :: rest)) : KW p l e R s m args below meth c Q g A nL (wR g h0 ad u) cells slots pc lv (.ref h0 :: rest) := by
  subst hv
  exact k_get (v := .int (u.1 32)) F uX10 0 32 rfl rfl (by decide) mw_615 rfl hd hn kk
theorem k_rput_32 (F : kF p s m args meth c g A nL cc "ColdWorksModel" ret nm) {v : Int32} (hu : (upd u.1 32 v, u.2) = u') (hd : decode cc pc = .ok (.putfield 101, 3)) (hn : pc + 3 = n) (kk : KW p l e R s m args below meth c Q g A nL (wR g h0 ad u') cells slots n lv rest) : KW p l e R s m args below meth c Q g A nL (wR g h0 ad u) cells slots pc lv (.int v :: .ref h0 :: rest) := by
  subst hu
  exact k_put (ws' := wR g h0 ad (upd u.1 32 v, u.2)) F uX10 tyX10_ok nmX10 0 32 rfl rfl (by decide) mw_615 rfl rfl rfl (Nat.le_of_ble_eq_true rfl) rfl hd hn kk
theorem k_rget_33 (F : kF p s m args meth c g A nL cc "ColdWorksModel" ret nm) (hd : decode cc pc = .ok (.getfield 57, 3)) (hn : pc + 3 = n) (kk : KW p l e R s m args below meth c Q g A nL (wR g h0 ad u) cells slots n lv (.ref (ad 33) :: rest)) : KW p l e R s m args below meth c Q g A nL (wR g h0 ad u) cells slots pc lv (.ref h0 :: rest) := k_get (v := .ref (ad 33)) F uX10 0 33 rfl rfl (by decide) mw_616 rfl hd hn kk
theorem k_rald_3 (F : kF p s m args meth c g A nL cc "ColdWorksModel" ret nm) {N : Nat} {i : Int32} {f : Nat → Int32} (hf : u.2.2.1 3 = f) (hix : kIx i N 6) (hd : decode cc pc = .ok (.iaload, 1)) (hn : pc + 1 = n) (kk : KW p l e R s m args below meth c Q g A nL (wR g h0 ad u) cells slots n lv (.int (f N) :: rest)) : KW p l e R s m args below meth c Q g A nL (wR g h0 ad u) cells slots pc lv (.int i :: .ref (ad 3) :: rest) := by
  subst hf
  exact k_iald (f := u.2.2.1 3) (N := N) F 1 rfl hix hd hn kk
theorem k_rast_3 (F : kF p s m args meth c g A nL cc "ColdWorksModel" ret nm) {N : Nat} {i x : Int32} {f : Nat → Int32} (hf : u.2.2.1 3 = f) (hix : kIx i N 6) (hu : (u.1, u.2.1, va_up u.2.2.1 3 (upd f N x), u.2.2.2) = u') (hd : decode cc pc = .ok (.iastore, 1)) (hn : pc + 1 = n) (kk : KW p l e R s m args below meth c Q g A nL (wR g h0 ad u') cells slots n lv rest) : KW p l e R s m args below meth c Q g A nL (wR g h0 ad u) cells slots pc lv (.int x :: .int i :: .ref (ad 3) :: rest) := by
  subst hf
  subst hu
  exact k_iast (f := u.2.2.1 3) (N := N) (ws' := wR g h0 ad (u.1, u.2.1, va_up u.2.2.1 3 (upd (u.2.2.1 3) N x), u.2.2.2)) F 1 rfl hix rfl hd hn kk
theorem k_rald_4 (F : kF p s m args meth c g A nL cc "ColdWorksModel" ret nm) {N : Nat} {i : Int32} {f : Nat → Int32} (hf : u.2.2.1 4 = f) (hix : kIx i N 30) (hd : decode cc pc = .ok (.iaload, 1)) (hn : pc + 1 = n) (kk : KW p l e R s m args below meth c Q g A nL (wR g h0 ad u) cells slots n lv (.int (f N) :: rest)) : KW p l e R s m args below meth c Q g A nL (wR g h0 ad u) cells slots pc lv (.int i :: .ref (ad 4) :: rest) := by
  subst hf
  exact k_iald (f := u.2.2.1 4) (N := N) F 2 rfl hix hd hn kk
theorem k_rast_4 (F : kF p s m args meth c g A nL cc "ColdWorksModel" ret nm) {N : Nat} {i x : Int32} {f : Nat → Int32} (hf : u.2.2.1 4 = f) (hix : kIx i N 30) (hu : (u.1, u.2.1, va_up u.2.2.1 4 (upd f N x), u.2.2.2) = u') (hd : decode cc pc = .ok (.iastore, 1)) (hn : pc + 1 = n) (kk : KW p l e R s m args below meth c Q g A nL (wR g h0 ad u') cells slots n lv rest) : KW p l e R s m args below meth c Q g A nL (wR g h0 ad u) cells slots pc lv (.int x :: .int i :: .ref (ad 4) :: rest) := by
  subst hf
  subst hu
  exact k_iast (f := u.2.2.1 4) (N := N) (ws' := wR g h0 ad (u.1, u.2.1, va_up u.2.2.1 4 (upd (u.2.2.1 4) N x), u.2.2.2)) F 2 rfl hix rfl hd hn kk
theorem k_rald_5 (F : kF p s m args meth c g A nL cc "ColdWorksModel" ret nm) {N : Nat} {i : Int32} {f : Nat → Int32} (hf : u.2.2.1 5 = f) (hix : kIx i N 6) (hd : decode cc pc = .ok (.iaload, 1)) (hn : pc + 1 = n) (kk : KW p l e R s m args below meth c Q g A nL (wR g h0 ad u) cells slots n lv (.int (f N) :: rest)) : KW p l e R s m args below meth c Q g A nL (wR g h0 ad u) cells slots pc lv (.int i :: .ref (ad 5) :: rest) := by
  subst hf
  exact k_iald (f := u.2.2.1 5) (N := N) F 3 rfl hix hd hn kk
theorem k_rast_5 (F : kF p s m args meth c g A nL cc "ColdWorksModel" ret nm) {N : Nat} {i x : Int32} {f : Nat → Int32} (hf : u.2.2.1 5 = f) (hix : kIx i N 6) (hu : (u.1, u.2.1, va_up u.2.2.1 5 (upd f N x), u.2.2.2) = u') (hd : decode cc pc = .ok (.iastore, 1)) (hn : pc + 1 = n) (kk : KW p l e R s m args below meth c Q g A nL (wR g h0 ad u') cells slots n lv rest) : KW p l e R s m args below meth c Q g A nL (wR g h0 ad u) cells slots pc lv (.int x :: .int i :: .ref (ad 5) :: rest) := by
  subst hf
  subst hu
  exact k_iast (f := u.2.2.1 5) (N := N) (ws' := wR g h0 ad (u.1, u.2.1, va_up u.2.2.1 5 (upd (u.2.2.1 5) N x), u.2.2.2)) F 3 rfl hix rfl hd hn kk
theorem k_rald_7 (F : kF p s m args meth c g A nL cc "ColdWorksModel" ret nm) {N : Nat} {i : Int32} {f : Nat → Int32} (hf : u.2.2.1 7 = f) (hix : kIx i N 8) (hd : decode cc pc = .ok (.iaload, 1)) (hn : pc + 1 = n) (kk : KW p l e R s m args below meth c Q g A nL (wR g h0 ad u) cells slots n lv (.int (f N) :: rest)) : KW p l e R s m args below meth c Q g A nL (wR g h0 ad u) cells slots pc lv (.int i :: .ref (ad 7) :: rest) := by
  subst hf
  exact k_iald (f := u.2.2.1 7) (N := N) F 4 rfl hix hd hn kk
theorem k_rast_7 (F : kF p s m args meth c g A nL cc "ColdWorksModel" ret nm) {N : Nat} {i x : Int32} {f : Nat → Int32} (hf : u.2.2.1 7 = f) (hix : kIx i N 8) (hu : (u.1, u.2.1, va_up u.2.2.1 7 (upd f N x), u.2.2.2) = u') (hd : decode cc pc = .ok (.iastore, 1)) (hn : pc + 1 = n) (kk : KW p l e R s m args below meth c Q g A nL (wR g h0 ad u') cells slots n lv rest) : KW p l e R s m args below meth c Q g A nL (wR g h0 ad u) cells slots pc lv (.int x :: .int i :: .ref (ad 7) :: rest) := by
  subst hf
  subst hu
  exact k_iast (f := u.2.2.1 7) (N := N) (ws' := wR g h0 ad (u.1, u.2.1, va_up u.2.2.1 7 (upd (u.2.2.1 7) N x), u.2.2.2)) F 4 rfl hix rfl hd hn kk
theorem k_rald_8 (F : kF p s m args meth c g A nL cc "ColdWorksModel" ret nm) {N : Nat} {i : Int32} {f : Nat → Int32} (hf : u.2.2.1 8 = f) (hix : kIx i N 8) (hd : decode cc pc = .ok (.iaload, 1)) (hn : pc + 1 = n) (kk : KW p l e R s m args below meth c Q g A nL (wR g h0 ad u) cells slots n lv (.int (f N) :: rest)) : KW p l e R s m args below meth c Q g A nL (wR g h0 ad u) cells slots pc lv (.int i :: .ref (ad 8) :: rest) := by
  subst hf
  exact k_iald (f := u.2.2.1 8) (N := N) F 5 rfl hix hd hn kk
theorem k_rast_8 (F : kF p s m args meth c g A nL cc "ColdWorksModel" ret nm) {N : Nat} {i x : Int32} {f : Nat → Int32} (hf : u.2.2.1 8 = f) (hix : kIx i N 8) (hu : (u.1, u.2.1, va_up u.2.2.1 8 (upd f N x), u.2.2.2) = u') (hd : decode cc pc = .ok (.iastore, 1)) (hn : pc + 1 = n) (kk : KW p l e R s m args below meth c Q g A nL (wR g h0 ad u') cells slots n lv rest) : KW p l e R s m args below meth c Q g A nL (wR g h0 ad u) cells slots pc lv (.int x :: .int i :: .ref (ad 8) :: rest) := by
  subst hf
  subst hu
  exact k_iast (f := u.2.2.1 8) (N := N) (ws' := wR g h0 ad (u.1, u.2.1, va_up u.2.2.1 8 (upd (u.2.2.1 8) N x), u.2.2.2)) F 5 rfl hix rfl hd hn kk
theorem k_rald_10 (F : kF p s m args meth c g A nL cc "ColdWorksModel" ret nm) {N : Nat} {i : Int32} {f : Nat → Int32} (hf : u.2.2.1 10 = f) (hix : kIx i N 6) (hd : decode cc pc = .ok (.iaload, 1)) (hn : pc + 1 = n) (kk : KW p l e R s m args below meth c Q g A nL (wR g h0 ad u) cells slots n lv (.int (f N) :: rest)) : KW p l e R s m args below meth c Q g A nL (wR g h0 ad u) cells slots pc lv (.int i :: .ref (ad 10) :: rest) := by
  subst hf
  exact k_iald (f := u.2.2.1 10) (N := N) F 6 rfl hix hd hn kk
theorem k_rast_10 (F : kF p s m args meth c g A nL cc "ColdWorksModel" ret nm) {N : Nat} {i x : Int32} {f : Nat → Int32} (hf : u.2.2.1 10 = f) (hix : kIx i N 6) (hu : (u.1, u.2.1, va_up u.2.2.1 10 (upd f N x), u.2.2.2) = u') (hd : decode cc pc = .ok (.iastore, 1)) (hn : pc + 1 = n) (kk : KW p l e R s m args below meth c Q g A nL (wR g h0 ad u') cells slots n lv rest) : KW p l e R s m args below meth c Q g A nL (wR g h0 ad u) cells slots pc lv (.int x :: .int i :: .ref (ad 10) :: rest) := by
  subst hf
  subst hu
  exact k_iast (f := u.2.2.1 10) (N := N) (ws' := wR g h0 ad (u.1, u.2.1, va_up u.2.2.1 10 (upd (u.2.2.1 10) N x), u.2.2.2)) F 6 rfl hix rfl hd hn kk
theorem k_rald_11 (F : kF p s m args meth c g A nL cc "ColdWorksModel" ret nm) {N : Nat} {i : Int32} {f : Nat → Int64} (hf : u.2.2.2 = f) (hix : kIx i N 4) (hd : decode cc pc = .ok (.laload, 1)) (hn : pc + 1 = n) (kk : KW p l e R s m args below meth c Q g A nL (wR g h0 ad u) cells slots n lv (.long (f N) :: rest)) : KW p l e R s m args below meth c Q g A nL (wR g h0 ad u) cells slots pc lv (.int i :: .ref (ad 11) :: rest) := by
  subst hf
  exact k_lald (f := u.2.2.2) (N := N) F 7 rfl hix hd hn kk
theorem k_rast_11 (F : kF p s m args meth c g A nL cc "ColdWorksModel" ret nm) {N : Nat} {i : Int32} {x : Int64} {f : Nat → Int64} (hf : u.2.2.2 = f) (hix : kIx i N 4) (hu : (u.1, u.2.1, u.2.2.1, vp_updL f N x) = u') (hd : decode cc pc = .ok (.lastore, 1)) (hn : pc + 1 = n) (kk : KW p l e R s m args below meth c Q g A nL (wR g h0 ad u') cells slots n lv rest) : KW p l e R s m args below meth c Q g A nL (wR g h0 ad u) cells slots pc lv (.long x :: .int i :: .ref (ad 11) :: rest) := by
  subst hf
  subst hu
  exact k_last (f := u.2.2.2) (N := N) (ws' := wR g h0 ad (u.1, u.2.1, u.2.2.1, vp_updL u.2.2.2 N x)) F 7 rfl hix rfl hd hn kk
theorem k_rald_22 (F : kF p s m args meth c g A nL cc "ColdWorksModel" ret nm) {N : Nat} {i : Int32} {f : Nat → Int32} (hf : u.2.2.1 22 = f) (hix : kIx i N 2) (hd : decode cc pc = .ok (.iaload, 1)) (hn : pc + 1 = n) (kk : KW p l e R s m args below meth c Q g A nL (wR g h0 ad u) cells slots n lv (.int (f N) :: rest)) : KW p l e R s m args below meth c Q g A nL (wR g h0 ad u) cells slots pc lv (.int i :: .ref (ad 22) :: rest) := by
  subst hf
  exact k_iald (f := u.2.2.1 22) (N := N) F 8 rfl hix hd hn kk
theorem k_rast_22 (F : kF p s m args meth c g A nL cc "ColdWorksModel" ret nm) {N : Nat} {i x : Int32} {f : Nat → Int32} (hf : u.2.2.1 22 = f) (hix : kIx i N 2) (hu : (u.1, u.2.1, va_up u.2.2.1 22 (upd f N x), u.2.2.2) = u') (hd : decode cc pc = .ok (.iastore, 1)) (hn : pc + 1 = n) (kk : KW p l e R s m args below meth c Q g A nL (wR g h0 ad u') cells slots n lv rest) : KW p l e R s m args below meth c Q g A nL (wR g h0 ad u) cells slots pc lv (.int x :: .int i :: .ref (ad 22) :: rest) := by
  subst hf
  subst hu
  exact k_iast (f := u.2.2.1 22) (N := N) (ws' := wR g h0 ad (u.1, u.2.1, va_up u.2.2.1 22 (upd (u.2.2.1 22) N x), u.2.2.2)) F 8 rfl hix rfl hd hn kk
theorem k_rald_23 (F : kF p s m args meth c g A nL cc "ColdWorksModel" ret nm) {N : Nat} {i : Int32} {f : Nat → Int32} (hf : u.2.2.1 23 = f) (hix : kIx i N 2) (hd : decode cc pc = .ok (.iaload, 1)) (hn : pc + 1 = n) (kk : KW p l e R s m args below meth c Q g A nL (wR g h0 ad u) cells slots n lv (.int (f N) :: rest)) : KW p l e R s m args below meth c Q g A nL (wR g h0 ad u) cells slots pc lv (.int i :: .ref (ad 23) :: rest) := by
  subst hf
  exact k_iald (f := u.2.2.1 23) (N := N) F 9 rfl hix hd hn kk
theorem k_rast_23 (F : kF p s m args meth c g A nL cc "ColdWorksModel" ret nm) {N : Nat} {i x : Int32} {f : Nat → Int32} (hf : u.2.2.1 23 = f) (hix : kIx i N 2) (hu : (u.1, u.2.1, va_up u.2.2.1 23 (upd f N x), u.2.2.2) = u') (hd : decode cc pc = .ok (.iastore, 1)) (hn : pc + 1 = n) (kk : KW p l e R s m args below meth c Q g A nL (wR g h0 ad u') cells slots n lv rest) : KW p l e R s m args below meth c Q g A nL (wR g h0 ad u) cells slots pc lv (.int x :: .int i :: .ref (ad 23) :: rest) := by
  subst hf
  subst hu
  exact k_iast (f := u.2.2.1 23) (N := N) (ws' := wR g h0 ad (u.1, u.2.1, va_up u.2.2.1 23 (upd (u.2.2.1 23) N x), u.2.2.2)) F 9 rfl hix rfl hd hn kk
theorem k_rald_24 (F : kF p s m args meth c g A nL cc "ColdWorksModel" ret nm) {N : Nat} {i : Int32} {f : Nat → Int32} (hf : u.2.2.1 24 = f) (hix : kIx i N 2) (hd : decode cc pc = .ok (.iaload, 1)) (hn : pc + 1 = n) (kk : KW p l e R s m args below meth c Q g A nL (wR g h0 ad u) cells slots n lv (.int (f N) :: rest)) : KW p l e R s m args below meth c Q g A nL (wR g h0 ad u) cells slots pc lv (.int i :: .ref (ad 24) :: rest) := by
  subst hf
  exact k_iald (f := u.2.2.1 24) (N := N) F 10 rfl hix hd hn kk
theorem k_rast_24 (F : kF p s m args meth c g A nL cc "ColdWorksModel" ret nm) {N : Nat} {i x : Int32} {f : Nat → Int32} (hf : u.2.2.1 24 = f) (hix : kIx i N 2) (hu : (u.1, u.2.1, va_up u.2.2.1 24 (upd f N x), u.2.2.2) = u') (hd : decode cc pc = .ok (.iastore, 1)) (hn : pc + 1 = n) (kk : KW p l e R s m args below meth c Q g A nL (wR g h0 ad u') cells slots n lv rest) : KW p l e R s m args below meth c Q g A nL (wR g h0 ad u) cells slots pc lv (.int x :: .int i :: .ref (ad 24) :: rest) := by
  subst hf
  subst hu
  exact k_iast (f := u.2.2.1 24) (N := N) (ws' := wR g h0 ad (u.1, u.2.1, va_up u.2.2.1 24 (upd (u.2.2.1 24) N x), u.2.2.2)) F 10 rfl hix rfl hd hn kk
theorem k_rald_26 (F : kF p s m args meth c g A nL cc "ColdWorksModel" ret nm) {N : Nat} {i : Int32} {f : Nat → Int32} (hf : u.2.2.1 26 = f) (hix : kIx i N 8) (hd : decode cc pc = .ok (.iaload, 1)) (hn : pc + 1 = n) (kk : KW p l e R s m args below meth c Q g A nL (wR g h0 ad u) cells slots n lv (.int (f N) :: rest)) : KW p l e R s m args below meth c Q g A nL (wR g h0 ad u) cells slots pc lv (.int i :: .ref (ad 26) :: rest) := by
  subst hf
  exact k_iald (f := u.2.2.1 26) (N := N) F 11 rfl hix hd hn kk
theorem k_rast_26 (F : kF p s m args meth c g A nL cc "ColdWorksModel" ret nm) {N : Nat} {i x : Int32} {f : Nat → Int32} (hf : u.2.2.1 26 = f) (hix : kIx i N 8) (hu : (u.1, u.2.1, va_up u.2.2.1 26 (upd f N x), u.2.2.2) = u') (hd : decode cc pc = .ok (.iastore, 1)) (hn : pc + 1 = n) (kk : KW p l e R s m args below meth c Q g A nL (wR g h0 ad u') cells slots n lv rest) : KW p l e R s m args below meth c Q g A nL (wR g h0 ad u) cells slots pc lv (.int x :: .int i :: .ref (ad 26) :: rest) := by
  subst hf
  subst hu
  exact k_iast (f := u.2.2.1 26) (N := N) (ws' := wR g h0 ad (u.1, u.2.1, va_up u.2.2.1 26 (upd (u.2.2.1 26) N x), u.2.2.2)) F 11 rfl hix rfl hd hn kk
theorem k_rald_27 (F : kF p s m args meth c g A nL cc "ColdWorksModel" ret nm) {N : Nat} {i : Int32} {f : Nat → Int32} (hf : u.2.2.1 27 = f) (hix : kIx i N 8) (hd : decode cc pc = .ok (.iaload, 1)) (hn : pc + 1 = n) (kk : KW p l e R s m args below meth c Q g A nL (wR g h0 ad u) cells slots n lv (.int (f N) :: rest)) : KW p l e R s m args below meth c Q g A nL (wR g h0 ad u) cells slots pc lv (.int i :: .ref (ad 27) :: rest) := by
  subst hf
  exact k_iald (f := u.2.2.1 27) (N := N) F 12 rfl hix hd hn kk
theorem k_rast_27 (F : kF p s m args meth c g A nL cc "ColdWorksModel" ret nm) {N : Nat} {i x : Int32} {f : Nat → Int32} (hf : u.2.2.1 27 = f) (hix : kIx i N 8) (hu : (u.1, u.2.1, va_up u.2.2.1 27 (upd f N x), u.2.2.2) = u') (hd : decode cc pc = .ok (.iastore, 1)) (hn : pc + 1 = n) (kk : KW p l e R s m args below meth c Q g A nL (wR g h0 ad u') cells slots n lv rest) : KW p l e R s m args below meth c Q g A nL (wR g h0 ad u) cells slots pc lv (.int x :: .int i :: .ref (ad 27) :: rest) := by
  subst hf
  subst hu
  exact k_iast (f := u.2.2.1 27) (N := N) (ws' := wR g h0 ad (u.1, u.2.1, va_up u.2.2.1 27 (upd (u.2.2.1 27) N x), u.2.2.2)) F 12 rfl hix rfl hd hn kk
theorem k_rald_28 (F : kF p s m args meth c g A nL cc "ColdWorksModel" ret nm) {N : Nat} {i : Int32} {f : Nat → Int32} (hf : u.2.2.1 28 = f) (hix : kIx i N 8) (hd : decode cc pc = .ok (.iaload, 1)) (hn : pc + 1 = n) (kk : KW p l e R s m args below meth c Q g A nL (wR g h0 ad u) cells slots n lv (.int (f N) :: rest)) : KW p l e R s m args below meth c Q g A nL (wR g h0 ad u) cells slots pc lv (.int i :: .ref (ad 28) :: rest) := by
  subst hf
  exact k_iald (f := u.2.2.1 28) (N := N) F 13 rfl hix hd hn kk
theorem k_rast_28 (F : kF p s m args meth c g A nL cc "ColdWorksModel" ret nm) {N : Nat} {i x : Int32} {f : Nat → Int32} (hf : u.2.2.1 28 = f) (hix : kIx i N 8) (hu : (u.1, u.2.1, va_up u.2.2.1 28 (upd f N x), u.2.2.2) = u') (hd : decode cc pc = .ok (.iastore, 1)) (hn : pc + 1 = n) (kk : KW p l e R s m args below meth c Q g A nL (wR g h0 ad u') cells slots n lv rest) : KW p l e R s m args below meth c Q g A nL (wR g h0 ad u) cells slots pc lv (.int x :: .int i :: .ref (ad 28) :: rest) := by
  subst hf
  subst hu
  exact k_iast (f := u.2.2.1 28) (N := N) (ws' := wR g h0 ad (u.1, u.2.1, va_up u.2.2.1 28 (upd (u.2.2.1 28) N x), u.2.2.2)) F 13 rfl hix rfl hd hn kk
theorem k_rald_33 (F : kF p s m args meth c g A nL cc "ColdWorksModel" ret nm) {N : Nat} {i : Int32} {f : Nat → Int32} (hf : u.2.2.1 33 = f) (hix : kIx i N 4) (hd : decode cc pc = .ok (.baload, 1)) (hn : pc + 1 = n) (kk : KW p l e R s m args below meth c Q g A nL (wR g h0 ad u) cells slots n lv (.int (f N) :: rest)) : KW p l e R s m args below meth c Q g A nL (wR g h0 ad u) cells slots pc lv (.int i :: .ref (ad 33) :: rest) := by
  subst hf
  exact k_zald (f := u.2.2.1 33) (N := N) F 14 rfl hix hd hn kk
theorem k_rast_33 (F : kF p s m args meth c g A nL cc "ColdWorksModel" ret nm) {N : Nat} {i x : Int32} {f : Nat → Int32} (hf : u.2.2.1 33 = f) (hix : kIx i N 4) (hx : vp_nar .boolean x = x) (hu : (u.1, u.2.1, va_up u.2.2.1 33 (upd f N x), u.2.2.2) = u') (hd : decode cc pc = .ok (.bastore, 1)) (hn : pc + 1 = n) (kk : KW p l e R s m args below meth c Q g A nL (wR g h0 ad u') cells slots n lv rest) : KW p l e R s m args below meth c Q g A nL (wR g h0 ad u) cells slots pc lv (.int x :: .int i :: .ref (ad 33) :: rest) := by
  subst hf
  subst hu
  exact k_zast (f := u.2.2.1 33) (N := N) (ws' := wR g h0 ad (u.1, u.2.1, va_up u.2.2.1 33 (upd (u.2.2.1 33) N x), u.2.2.2)) F 14 rfl hix hx rfl hd hn kk
end KRW
