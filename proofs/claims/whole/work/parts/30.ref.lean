theorem f_heat_0 {i : Nat → Int32} {l_ : Nat → Int64} {a : Nat → Nat → Int32} {h : Nat → Int64} {x : Int32} (hx : kin x 0 3 = 0) : f_heat (i, l_, a, h) x = -1 := by
  have e : ∀ k : Int32, 0 ≤ k → k ≤ 3 → ¬ x = k := fun k h1 h2 q => kin_0.mp hx (q ▸ ⟨h1, h2⟩)
  simp only [f_heat, e 0 (by decide) (by decide), e 1 (by decide) (by decide), e 2 (by decide) (by decide), e 3 (by decide) (by decide), if_false]
theorem kin3 {x : Int32} (hx : ¬ kin x 0 3 = 0) : x = 0 ∨ x = 1 ∨ x = 2 ∨ x = 3 := by
  obtain ⟨a1, a2⟩ := kin_n.mp hx
  obtain ⟨k, hk, rfl⟩ := nI_of (Int32.not_lt.mpr a1)
  have h3 : k ≤ 3 := (nI_leI hk (by decide)).mp (show nI k ≤ nI 3 from a2)
  rcases (show k = 0 ∨ k = 1 ∨ k = 2 ∨ k = 3 by omega) with rfl | rfl | rfl | rfl
  · exact Or.inl rfl
  · exact Or.inr (Or.inl rfl)
  · exact Or.inr (Or.inr (Or.inl rfl))
  · exact Or.inr (Or.inr (Or.inr rfl))
theorem f_heat_1 {i : Nat → Int32} {l_ : Nat → Int64} {a : Nat → Nat → Int32} {h : Nat → Int64} {x : Int32} (hx : ¬ kin x 0 3 = 0) : f_heat (i, l_, a, h) x = h x.toNatClampNeg := by
  rcases kin3 hx with rfl | rfl | rfl | rfl <;> rfl
/-- the reference's trip: only once -/
def s_trips (u : kS) : kS := if u.1 12 = 4 then u else s_trip u
def rdR (u : kS) (x : Int32) : Int64 := if x = 0 then u.2.1 19 else if x = 1 then u.2.1 20 else if x = 2 then u.2.1 21 else (u.1 17).toInt64 + (u.1 18).toInt64
theorem rdR_e {i : Nat → Int32} {l_ : Nat → Int64} {a : Nat → Nat → Int32} {h : Nat → Int64} (h17 : (i 17 + i 18).toInt64 = (i 17).toInt64 + (i 18).toInt64) (x : Int32) : rdR (i, l_, a, h) x = rdM (i, l_, a, h) x := by
  unfold rdR rdM
  dsimp only
  rw [h17]
theorem kIx_o {x : Int32} (hx : ¬ x = 8) (h0 : 0 ≤ x) (h8 : x ≤ 8) : kIx x x.toNatClampNeg 8 :=
  kIx_le h0 (show x < 8 from Int32.lt_of_le_of_ne h8 hx) (by decide)
theorem ko25 {x : Int32} (h : 0 ≤ x ∧ x ≤ 8) : x < 8 ↔ ¬ x = 8 := ⟨fun q e => by rw [e] at q; exact absurd q (by decide), fun q => Int32.lt_of_le_of_ne h.2 q⟩
section
variable {p : Program} {l : Launch} {e : Env} {R : Room} {s : State} {m : MethodId} {args : Array Value} {below : List Frame} {meth : Method} {c : Code} {Q : State → Prop} {g : kG} {A : Nat → Prop} {nL : Nat} {cc : ByteArray} {own : String} {ret0 : Option FieldType} {nm : String} {ws : va_W} {cells slots pc n : Nat} {lv : List (Nat × Value)} {rest st0 : List Value}
theorem k_cvA {mc ms : Nat} {w0 : va_W} {is : List Nat} (F : kF p s m args meth c g A nL cc own ret0 nm) (hr : kR p l e R s m args below meth c g A nL ws ws cells slots mc ms pc lv st0 rest (kDv g w0)) (hC : is.map (fun i => ws[i]?) = ws.map some) (hn : pc + 3 = n) (kk : KW p l e R s m args below meth c Q g A nL w0 (cells + mc) (slots + ms) n lv rest) : KW p l e R s m args below meth c Q g A nL ws cells slots pc lv st0 := by
  subst hn
  obtain ⟨a, hr⟩ := hr
  intro H locs ls hP hD hS hl
  have hFc := va_free (wc := ws) hD hS F.2.2.2.2.2.2.1 is hC
  refine va_callv (hr H locs ls hP hD hS hl) hS (fun q _ h => hFc q h) hFc (fun u t H1 locs1 ht hvm hw hB hz hk hS1 => ?_)
  subst hw
  obtain ⟨hP1, hD1⟩ := hB
  rw [ht] at hP1
  exact kk H1 locs1 ls hP1 (hD1.weaken (fun _ q _ h => hFc q.1 h)) hS1 hl
end
set_option maxRecDepth 100000 in
set_option maxHeartbeats 4000000 in
theorem r_isCooler (l : Launch) (g : kG) (h0 : Nat) (ad : Nat → Nat) (i : Nat → Int32) (l_ : Nat → Int64) (a : Nat → Nat → Int32) (h : Nat → Int64) (x : Int32) : kM l yX10_isCooler cX10_isCooler 2 (some .boolean) (rmK 1 0 0 22) g [.ref h0, .int x] (wR g h0 ad (i, l_, a, h)) (kDi g (kin x 0 (i 2 - 1)) (wR g h0 ad (i, l_, a, h))) := by
  refine k_enter (by decide) (Nat.le_of_ble_eq_true rfl) ?_
  intro p e s m args below meth c A F
  refine k_iload_n (n := 1) F dX10_isCooler_0 rfl 1 rfl rfl ?_
  refine k_iconst (n := 2) (v := 0) F dX10_isCooler_1 rfl rfl ?_
  refine k_aload_n (n := 3) F dX10_isCooler_2 rfl 0 rfl rfl ?_
  refine k_rget_2 (n := 6) (v := i 2) F rfl dX10_isCooler_3 rfl ?_
  refine k_iconst (n := 7) (v := 1) F dX10_isCooler_6 rfl rfl ?_
  refine k_isub (n := 8) F dX10_isCooler_7 rfl ?_
  refine k_ciR (n := 11) F (k_rS (k := 3) (As := [.int x, .int 0, .int ((i 2) - 1)]) (rest := []) F (c_in l g x 0 ((i 2) - 1)) [] rfl rfl mw_693 mw_691 mw_692 mw_9 (by decide) ⟨by decide, by decide⟩ rfl (Nat.le_of_ble_eq_true rfl) ⟨by decide, by decide⟩ dX10_isCooler_8) [] rfl rfl ?_
  exact k_zret F (kZn (kin_b _ _ _)) (by first | (simp only [kin, if_true, if_false, not_true_eq_false, not_false_eq_true]; done) | (simp only [kin, if_true, if_false, not_true_eq_false, not_false_eq_true, upd, va_up, vp_updL, reduceIte, Nat.reduceEqDiff]; done) | (simp [kin]; done) | (simp_all [kin]; done)) (by first | (simp only [kin, if_true, if_false, not_true_eq_false, not_false_eq_true]; done) | (simp only [kin, if_true, if_false, not_true_eq_false, not_false_eq_true, wR, upd, va_up, vp_updL, reduceIte, Nat.reduceEqDiff]; done) | (simp [kin, wR, upd, va_up, vp_updL]; done) | (simp_all [kin, wR, upd, va_up, vp_updL]; done)) dX10_isCooler_11
set_option maxRecDepth 100000 in
set_option maxHeartbeats 4000000 in
theorem r_set (l : Launch) (g : kG) (h0 : Nat) (ad : Nat → Nat) (i : Nat → Int32) (l_ : Nat → Int64) (a : Nat → Nat → Int32) (h : Nat → Int64) (wh v : Int32) : kM l yX10_set cX10_set 5 (some .int) (rmK 2 0 0 43) g [.ref h0, .int wh, .int v] (wR g h0 ad (i, l_, a, h)) (kDi g (f_set (i, l_, a, h) wh v).1 (wR g h0 ad (f_set (i, l_, a, h) wh v).2)) := by
  refine k_enter (by decide) (Nat.le_of_ble_eq_true rfl) ?_
  intro p e s m args below meth c A F
  refine k_aload_n (n := 1) F dX10_set_0 rfl 0 rfl rfl ?_
  refine k_iconst (n := 2) (v := 0) F dX10_set_1 rfl rfl ?_
  refine k_rput_0 (n := 5) F dX10_set_2 rfl ?_
  refine k_iload_n (n := 6) F dX10_set_5 rfl 1 rfl rfl ?_
  refine k_if_ne (n := 9) (tgt := 31) F dX10_set_6 (by decide) rfl (fun hc1 => ?_) (fun hc1 => ?_)
  · refine k_iload_n (n := 32) F dX10_set_31 rfl 1 rfl rfl ?_
    refine k_iconst (n := 33) (v := 1) F dX10_set_32 rfl rfl ?_
    refine k_icmp_ne (n := 36) (tgt := 46) F dX10_set_33 (by decide) rfl (fun hc2 => ?_) (fun hc2 => ?_)
    · refine k_iload_n (n := 47) F dX10_set_46 rfl 1 rfl rfl ?_
      refine k_iconst (n := 48) (v := 2) F dX10_set_47 rfl rfl ?_
      refine k_icmp_ne (n := 51) (tgt := 62) F dX10_set_48 (by decide) rfl (fun hc3 => ?_) (fun hc3 => ?_)
      · refine k_iload_n (n := 63) F dX10_set_62 rfl 1 rfl rfl ?_
        refine k_iconst (n := 64) (v := 3) F dX10_set_63 rfl rfl ?_
        refine k_icmp_ne (n := 67) (tgt := 95) F dX10_set_64 (by decide) rfl (fun hc4 => ?_) (fun hc4 => ?_)
        · refine k_iload_n (n := 96) F dX10_set_95 rfl 1 rfl rfl ?_
          refine k_iconst (n := 97) (v := 4) F dX10_set_96 rfl rfl ?_
          refine k_icmp_ne (n := 100) (tgt := 110) F dX10_set_97 (by decide) rfl (fun hc5 => ?_) (fun hc5 => ?_)
          · refine k_iload_n (n := 111) F dX10_set_110 rfl 1 rfl rfl ?_
            refine k_iconst (n := 112) (v := 5) F dX10_set_111 rfl rfl ?_
            refine k_icmp_ne (n := 115) (tgt := 129) F dX10_set_112 (by decide) rfl (fun hc6 => ?_) (fun hc6 => ?_)
            · refine k_iconst (n := 130) (v := 0) F dX10_set_129 rfl rfl ?_
              refine k_istore_n (n := 131) (lv' := [(3, .int 0), (0, .ref h0), (1, .int wh), (2, .int v)]) F dX10_set_130 rfl (by decide) rfl rfl ?_
              refine k_iload_n (n := 132) F dX10_set_131 rfl 0 rfl rfl ?_
              refine k_if_ne (n := 135) (tgt := 137) F dX10_set_132 (by decide) rfl (fun h9 => absurd h9 (by decide)) (fun _ => ?_)
              refine k_iconst (n := 136) (v := -1) F dX10_set_135 rfl rfl ?_
              exact k_iret F (by first | (simp only [f_set, mayS, setS, chgS, sR, hc1, hc2, hc3, hc4, hc5, hc6, if_true, if_false, not_true_eq_false, not_false_eq_true]; done) | (simp only [f_set, mayS, setS, chgS, sR, hc1, hc2, hc3, hc4, hc5, hc6, if_true, if_false, not_true_eq_false, not_false_eq_true, upd, va_up, vp_updL, reduceIte, Nat.reduceEqDiff]; done) | (simp [f_set, mayS, setS, chgS, sR, hc1, hc2, hc3, hc4, hc5, hc6]; done) | (simp_all [f_set, mayS, setS, chgS, sR, hc1, hc2, hc3, hc4, hc5, hc6]; done)) (by first | (simp only [f_set, mayS, setS, chgS, sR, hc1, hc2, hc3, hc4, hc5, hc6, if_true, if_false, not_true_eq_false, not_false_eq_true]; done) | (simp only [f_set, mayS, setS, chgS, sR, hc1, hc2, hc3, hc4, hc5, hc6, if_true, if_false, not_true_eq_false, not_false_eq_true, wR, upd, va_up, vp_updL, reduceIte, Nat.reduceEqDiff]; done) | (simp [f_set, mayS, setS, chgS, sR, hc1, hc2, hc3, hc4, hc5, hc6, wR, upd, va_up, vp_updL]; done) | (simp_all [f_set, mayS, setS, chgS, sR, hc1, hc2, hc3, hc4, hc5, hc6, wR, upd, va_up, vp_updL]; done)) dX10_set_136
            · refine k_iload_n (n := 116) F dX10_set_115 rfl 2 rfl rfl ?_
              refine k_iconst (n := 117) (v := 1) F dX10_set_116 rfl rfl ?_
              refine k_bipush (n := 119) (v := 30) F dX10_set_117 rfl rfl ?_
              refine k_ciR (n := 122) F (k_rS (k := 3) (As := [.int v, .int 1, .int 30]) (rest := []) F (c_in l g v 1 30) [] rfl rfl mw_693 mw_691 mw_692 mw_9 (by decide) ⟨by decide, by decide⟩ rfl (Nat.le_of_ble_eq_true rfl) ⟨by decide, by decide⟩ dX10_set_119) [] rfl rfl ?_
              refine k_if_eq (n := 125) (tgt := 129) F dX10_set_122 (by decide) rfl (fun hc7 => ?_) (fun hc7 => ?_)
              · refine k_iconst (n := 130) (v := 0) F dX10_set_129 rfl rfl ?_
                refine k_istore_n (n := 131) (lv' := [(3, .int 0), (0, .ref h0), (1, .int wh), (2, .int v)]) F dX10_set_130 rfl (by decide) rfl rfl ?_
                refine k_iload_n (n := 132) F dX10_set_131 rfl 0 rfl rfl ?_
                refine k_if_ne (n := 135) (tgt := 137) F dX10_set_132 (by decide) rfl (fun h9 => absurd h9 (by decide)) (fun _ => ?_)
                refine k_iconst (n := 136) (v := -1) F dX10_set_135 rfl rfl ?_
                exact k_iret F (by first | (simp only [f_set, mayS, setS, chgS, sR, hc1, hc2, hc3, hc4, hc5, hc6, hc7, if_true, if_false, not_true_eq_false, not_false_eq_true]; done) | (simp only [f_set, mayS, setS, chgS, sR, hc1, hc2, hc3, hc4, hc5, hc6, hc7, if_true, if_false, not_true_eq_false, not_false_eq_true, upd, va_up, vp_updL, reduceIte, Nat.reduceEqDiff]; done) | (simp [f_set, mayS, setS, chgS, sR, hc1, hc2, hc3, hc4, hc5, hc6, hc7]; done) | (simp_all [f_set, mayS, setS, chgS, sR, hc1, hc2, hc3, hc4, hc5, hc6, hc7]; done)) (by first | (simp only [f_set, mayS, setS, chgS, sR, hc1, hc2, hc3, hc4, hc5, hc6, hc7, if_true, if_false, not_true_eq_false, not_false_eq_true]; done) | (simp only [f_set, mayS, setS, chgS, sR, hc1, hc2, hc3, hc4, hc5, hc6, hc7, if_true, if_false, not_true_eq_false, not_false_eq_true, wR, upd, va_up, vp_updL, reduceIte, Nat.reduceEqDiff]; done) | (simp [f_set, mayS, setS, chgS, sR, hc1, hc2, hc3, hc4, hc5, hc6, hc7, wR, upd, va_up, vp_updL]; done) | (simp_all [f_set, mayS, setS, chgS, sR, hc1, hc2, hc3, hc4, hc5, hc6, hc7, wR, upd, va_up, vp_updL]; done)) dX10_set_136
              · refine k_iconst (n := 126) (v := 1) F dX10_set_125 rfl rfl ?_
                refine k_goto (tgt := 130) F dX10_set_126 (by decide) ?_
                refine k_istore_n (n := 131) (lv' := [(3, .int 1), (0, .ref h0), (1, .int wh), (2, .int v)]) F dX10_set_130 rfl (by decide) rfl rfl ?_
                refine k_iload_n (n := 132) F dX10_set_131 rfl 0 rfl rfl ?_
                refine k_if_ne (n := 135) (tgt := 137) F dX10_set_132 (by decide) rfl (fun _ => ?_) (fun h9 => absurd h9 (by decide))
                refine k_aload_n (n := 138) F dX10_set_137 rfl 1 rfl rfl ?_
                refine k_rget_10 (n := 141) F dX10_set_138 rfl ?_
                refine k_iload_n (n := 142) F dX10_set_141 rfl 2 rfl rfl ?_
                refine k_rald_10 (n := 143) (N := 5) (f := a 10) F rfl (by rw [hc6]; exact kIx_nI (j := 5) (by decide) (by decide)) dX10_set_142 rfl ?_
                refine k_istore (n := 145) (lv' := [(4, .int ((a 10) 5)), (3, .int 1), (0, .ref h0), (1, .int wh), (2, .int v)]) F dX10_set_143 (by decide) rfl rfl ?_
                refine k_aload_n (n := 146) F dX10_set_145 rfl 2 rfl rfl ?_
                refine k_rget_10 (n := 149) F dX10_set_146 rfl ?_
                refine k_iload_n (n := 150) F dX10_set_149 rfl 3 rfl rfl ?_
                refine k_iload_n (n := 151) F dX10_set_150 rfl 4 rfl rfl ?_
                refine k_rast_10 (n := 152) (N := 5) (f := a 10) (u' := (i, l_, va_up a 10 (upd (a 10) 5 v), h)) F rfl (by rw [hc6]; exact kIx_nI (j := 5) (by decide) (by decide)) rfl dX10_set_151 rfl ?_
                refine k_iload (n := 154) F dX10_set_152 0 rfl rfl ?_
                exact k_iret F (by first | (simp only [f_set, mayS, setS, chgS, sR, hc1, hc2, hc3, hc4, hc5, hc6, hc7, if_true, if_false, not_true_eq_false, not_false_eq_true]; done) | (simp only [f_set, mayS, setS, chgS, sR, hc1, hc2, hc3, hc4, hc5, hc6, hc7, if_true, if_false, not_true_eq_false, not_false_eq_true, upd, va_up, vp_updL, reduceIte, Nat.reduceEqDiff]; done) | (simp [f_set, mayS, setS, chgS, sR, hc1, hc2, hc3, hc4, hc5, hc6, hc7]; done) | (simp_all [f_set, mayS, setS, chgS, sR, hc1, hc2, hc3, hc4, hc5, hc6, hc7]; done)) (by first | (simp only [f_set, mayS, setS, chgS, sR, hc1, hc2, hc3, hc4, hc5, hc6, hc7, if_true, if_false, not_true_eq_false, not_false_eq_true]; done) | (simp only [f_set, mayS, setS, chgS, sR, hc1, hc2, hc3, hc4, hc5, hc6, hc7, if_true, if_false, not_true_eq_false, not_false_eq_true, wR, upd, va_up, vp_updL, reduceIte, Nat.reduceEqDiff]; done) | (simp [f_set, mayS, setS, chgS, sR, hc1, hc2, hc3, hc4, hc5, hc6, hc7, wR, upd, va_up, vp_updL]; done) | (simp_all [f_set, mayS, setS, chgS, sR, hc1, hc2, hc3, hc4, hc5, hc6, hc7, wR, upd, va_up, vp_updL]; done)) dX10_set_154
          · refine k_iload_n (n := 101) F dX10_set_100 rfl 2 rfl rfl ?_
            refine k_iconst (n := 102) (v := 5) F dX10_set_101 rfl rfl ?_
            refine k_bipush (n := 104) (v := 60) F dX10_set_102 rfl rfl ?_
            refine k_ciR (n := 107) F (k_rS (k := 3) (As := [.int v, .int 5, .int 60]) (rest := []) F (c_in l g v 5 60) [] rfl rfl mw_693 mw_691 mw_692 mw_9 (by decide) ⟨by decide, by decide⟩ rfl (Nat.le_of_ble_eq_true rfl) ⟨by decide, by decide⟩ dX10_set_104) [] rfl rfl ?_
            refine k_goto (tgt := 130) F dX10_set_107 (by decide) ?_
            refine k_istore_n (n := 131) (lv' := [(3, .int (kin v 5 60)), (0, .ref h0), (1, .int wh), (2, .int v)]) F dX10_set_130 rfl (by decide) rfl rfl ?_
            refine k_iload_n (n := 132) F dX10_set_131 rfl 0 rfl rfl ?_
            refine k_if_ne (n := 135) (tgt := 137) F dX10_set_132 (by decide) rfl (fun hc8 => ?_) (fun hc8 => ?_)
            · refine k_aload_n (n := 138) F dX10_set_137 rfl 1 rfl rfl ?_
              refine k_rget_10 (n := 141) F dX10_set_138 rfl ?_
              refine k_iload_n (n := 142) F dX10_set_141 rfl 2 rfl rfl ?_
              refine k_rald_10 (n := 143) (N := 4) (f := a 10) F rfl (by rw [hc5]; exact kIx_nI (j := 4) (by decide) (by decide)) dX10_set_142 rfl ?_
              refine k_istore (n := 145) (lv' := [(4, .int ((a 10) 4)), (3, .int (kin v 5 60)), (0, .ref h0), (1, .int wh), (2, .int v)]) F dX10_set_143 (by decide) rfl rfl ?_
              refine k_aload_n (n := 146) F dX10_set_145 rfl 2 rfl rfl ?_
              refine k_rget_10 (n := 149) F dX10_set_146 rfl ?_
              refine k_iload_n (n := 150) F dX10_set_149 rfl 3 rfl rfl ?_
              refine k_iload_n (n := 151) F dX10_set_150 rfl 4 rfl rfl ?_
              refine k_rast_10 (n := 152) (N := 4) (f := a 10) (u' := (i, l_, va_up a 10 (upd (a 10) 4 v), h)) F rfl (by rw [hc5]; exact kIx_nI (j := 4) (by decide) (by decide)) rfl dX10_set_151 rfl ?_
              refine k_iload (n := 154) F dX10_set_152 0 rfl rfl ?_
              exact k_iret F (by first | (simp only [f_set, mayS, setS, chgS, sR, hc1, hc2, hc3, hc4, hc5, hc8, if_true, if_false, not_true_eq_false, not_false_eq_true]; done) | (simp only [f_set, mayS, setS, chgS, sR, hc1, hc2, hc3, hc4, hc5, hc8, if_true, if_false, not_true_eq_false, not_false_eq_true, upd, va_up, vp_updL, reduceIte, Nat.reduceEqDiff]; done) | (simp [f_set, mayS, setS, chgS, sR, hc1, hc2, hc3, hc4, hc5, hc8]; done) | (simp_all [f_set, mayS, setS, chgS, sR, hc1, hc2, hc3, hc4, hc5, hc8]; done)) (by first | (simp only [f_set, mayS, setS, chgS, sR, hc1, hc2, hc3, hc4, hc5, hc8, if_true, if_false, not_true_eq_false, not_false_eq_true]; done) | (simp only [f_set, mayS, setS, chgS, sR, hc1, hc2, hc3, hc4, hc5, hc8, if_true, if_false, not_true_eq_false, not_false_eq_true, wR, upd, va_up, vp_updL, reduceIte, Nat.reduceEqDiff]; done) | (simp [f_set, mayS, setS, chgS, sR, hc1, hc2, hc3, hc4, hc5, hc8, wR, upd, va_up, vp_updL]; done) | (simp_all [f_set, mayS, setS, chgS, sR, hc1, hc2, hc3, hc4, hc5, hc8, wR, upd, va_up, vp_updL]; done)) dX10_set_154
            · refine k_iconst (n := 136) (v := -1) F dX10_set_135 rfl rfl ?_
              exact k_iret F (by first | (simp only [f_set, mayS, setS, chgS, sR, hc1, hc2, hc3, hc4, hc5, hc8, if_true, if_false, not_true_eq_false, not_false_eq_true]; done) | (simp only [f_set, mayS, setS, chgS, sR, hc1, hc2, hc3, hc4, hc5, hc8, if_true, if_false, not_true_eq_false, not_false_eq_true, upd, va_up, vp_updL, reduceIte, Nat.reduceEqDiff]; done) | (simp [f_set, mayS, setS, chgS, sR, hc1, hc2, hc3, hc4, hc5, hc8]; done) | (simp_all [f_set, mayS, setS, chgS, sR, hc1, hc2, hc3, hc4, hc5, hc8]; done)) (by first | (simp only [f_set, mayS, setS, chgS, sR, hc1, hc2, hc3, hc4, hc5, hc8, if_true, if_false, not_true_eq_false, not_false_eq_true]; done) | (simp only [f_set, mayS, setS, chgS, sR, hc1, hc2, hc3, hc4, hc5, hc8, if_true, if_false, not_true_eq_false, not_false_eq_true, wR, upd, va_up, vp_updL, reduceIte, Nat.reduceEqDiff]; done) | (simp [f_set, mayS, setS, chgS, sR, hc1, hc2, hc3, hc4, hc5, hc8, wR, upd, va_up, vp_updL]; done) | (simp_all [f_set, mayS, setS, chgS, sR, hc1, hc2, hc3, hc4, hc5, hc8, wR, upd, va_up, vp_updL]; done)) dX10_set_136
        · refine k_iload_n (n := 68) F dX10_set_67 rfl 2 rfl rfl ?_
          refine k_bipush (n := 70) (v := 10) F dX10_set_68 rfl rfl ?_
          refine k_sipush (n := 73) (v := 5000) F dX10_set_70 rfl rfl ?_
          refine k_ciR (n := 76) F (k_rS (k := 3) (As := [.int v, .int 10, .int 5000]) (rest := []) F (c_in l g v 10 5000) [] rfl rfl mw_693 mw_691 mw_692 mw_9 (by decide) ⟨by decide, by decide⟩ rfl (Nat.le_of_ble_eq_true rfl) ⟨by decide, by decide⟩ dX10_set_73) [] rfl rfl ?_
          refine k_if_eq (n := 79) (tgt := 91) F dX10_set_76 (by decide) rfl (fun hc9 => ?_) (fun hc9 => ?_)
          · refine k_iconst (n := 92) (v := 0) F dX10_set_91 rfl rfl ?_
            refine k_goto (tgt := 130) F dX10_set_92 (by decide) ?_
            refine k_istore_n (n := 131) (lv' := [(3, .int 0), (0, .ref h0), (1, .int wh), (2, .int v)]) F dX10_set_130 rfl (by decide) rfl rfl ?_
            refine k_iload_n (n := 132) F dX10_set_131 rfl 0 rfl rfl ?_
            refine k_if_ne (n := 135) (tgt := 137) F dX10_set_132 (by decide) rfl (fun h9 => absurd h9 (by decide)) (fun _ => ?_)
            refine k_iconst (n := 136) (v := -1) F dX10_set_135 rfl rfl ?_
            exact k_iret F (by first | (simp only [f_set, mayS, setS, chgS, sR, hc1, hc2, hc3, hc4, hc9, if_true, if_false, not_true_eq_false, not_false_eq_true]; done) | (simp only [f_set, mayS, setS, chgS, sR, hc1, hc2, hc3, hc4, hc9, if_true, if_false, not_true_eq_false, not_false_eq_true, upd, va_up, vp_updL, reduceIte, Nat.reduceEqDiff]; done) | (simp [f_set, mayS, setS, chgS, sR, hc1, hc2, hc3, hc4, hc9]; done) | (simp_all [f_set, mayS, setS, chgS, sR, hc1, hc2, hc3, hc4, hc9]; done)) (by first | (simp only [f_set, mayS, setS, chgS, sR, hc1, hc2, hc3, hc4, hc9, if_true, if_false, not_true_eq_false, not_false_eq_true]; done) | (simp only [f_set, mayS, setS, chgS, sR, hc1, hc2, hc3, hc4, hc9, if_true, if_false, not_true_eq_false, not_false_eq_true, wR, upd, va_up, vp_updL, reduceIte, Nat.reduceEqDiff]; done) | (simp [f_set, mayS, setS, chgS, sR, hc1, hc2, hc3, hc4, hc9, wR, upd, va_up, vp_updL]; done) | (simp_all [f_set, mayS, setS, chgS, sR, hc1, hc2, hc3, hc4, hc9, wR, upd, va_up, vp_updL]; done)) dX10_set_136
          · refine k_iload_n (n := 80) F dX10_set_79 rfl 2 rfl rfl ?_
            refine k_aload_n (n := 81) F dX10_set_80 rfl 0 rfl rfl ?_
            refine k_rget_17 (n := 84) (v := i 17) F rfl dX10_set_81 rfl ?_
            refine k_icmp_lt (n := 87) (tgt := 91) F dX10_set_84 (by decide) rfl (fun hc10 => ?_) (fun hc10 => ?_)
            · refine k_iconst (n := 92) (v := 0) F dX10_set_91 rfl rfl ?_
              refine k_goto (tgt := 130) F dX10_set_92 (by decide) ?_
              refine k_istore_n (n := 131) (lv' := [(3, .int 0), (0, .ref h0), (1, .int wh), (2, .int v)]) F dX10_set_130 rfl (by decide) rfl rfl ?_
              refine k_iload_n (n := 132) F dX10_set_131 rfl 0 rfl rfl ?_
              refine k_if_ne (n := 135) (tgt := 137) F dX10_set_132 (by decide) rfl (fun h9 => absurd h9 (by decide)) (fun _ => ?_)
              refine k_iconst (n := 136) (v := -1) F dX10_set_135 rfl rfl ?_
              exact k_iret F (by first | (simp only [f_set, mayS, setS, chgS, sR, hc1, hc2, hc3, hc4, hc9, hc10, Int32.not_le.mpr hc10, if_true, if_false, not_true_eq_false, not_false_eq_true]; done) | (simp only [f_set, mayS, setS, chgS, sR, hc1, hc2, hc3, hc4, hc9, hc10, Int32.not_le.mpr hc10, if_true, if_false, not_true_eq_false, not_false_eq_true, upd, va_up, vp_updL, reduceIte, Nat.reduceEqDiff]; done) | (simp [f_set, mayS, setS, chgS, sR, hc1, hc2, hc3, hc4, hc9, hc10, Int32.not_le.mpr hc10]; done) | (simp_all [f_set, mayS, setS, chgS, sR, hc1, hc2, hc3, hc4, hc9, hc10, Int32.not_le.mpr hc10]; done)) (by first | (simp only [f_set, mayS, setS, chgS, sR, hc1, hc2, hc3, hc4, hc9, hc10, Int32.not_le.mpr hc10, if_true, if_false, not_true_eq_false, not_false_eq_true]; done) | (simp only [f_set, mayS, setS, chgS, sR, hc1, hc2, hc3, hc4, hc9, hc10, Int32.not_le.mpr hc10, if_true, if_false, not_true_eq_false, not_false_eq_true, wR, upd, va_up, vp_updL, reduceIte, Nat.reduceEqDiff]; done) | (simp [f_set, mayS, setS, chgS, sR, hc1, hc2, hc3, hc4, hc9, hc10, Int32.not_le.mpr hc10, wR, upd, va_up, vp_updL]; done) | (simp_all [f_set, mayS, setS, chgS, sR, hc1, hc2, hc3, hc4, hc9, hc10, Int32.not_le.mpr hc10, wR, upd, va_up, vp_updL]; done)) dX10_set_136
            · refine k_iconst (n := 88) (v := 1) F dX10_set_87 rfl rfl ?_
              refine k_goto (tgt := 130) F dX10_set_88 (by decide) ?_
              refine k_istore_n (n := 131) (lv' := [(3, .int 1), (0, .ref h0), (1, .int wh), (2, .int v)]) F dX10_set_130 rfl (by decide) rfl rfl ?_
              refine k_iload_n (n := 132) F dX10_set_131 rfl 0 rfl rfl ?_
              refine k_if_ne (n := 135) (tgt := 137) F dX10_set_132 (by decide) rfl (fun _ => ?_) (fun h9 => absurd h9 (by decide))
              refine k_aload_n (n := 138) F dX10_set_137 rfl 1 rfl rfl ?_
              refine k_rget_10 (n := 141) F dX10_set_138 rfl ?_
              refine k_iload_n (n := 142) F dX10_set_141 rfl 2 rfl rfl ?_
              refine k_rald_10 (n := 143) (N := 3) (f := a 10) F rfl (by rw [hc4]; exact kIx_nI (j := 3) (by decide) (by decide)) dX10_set_142 rfl ?_
              refine k_istore (n := 145) (lv' := [(4, .int ((a 10) 3)), (3, .int 1), (0, .ref h0), (1, .int wh), (2, .int v)]) F dX10_set_143 (by decide) rfl rfl ?_
              refine k_aload_n (n := 146) F dX10_set_145 rfl 2 rfl rfl ?_
              refine k_rget_10 (n := 149) F dX10_set_146 rfl ?_
              refine k_iload_n (n := 150) F dX10_set_149 rfl 3 rfl rfl ?_
              refine k_iload_n (n := 151) F dX10_set_150 rfl 4 rfl rfl ?_
              refine k_rast_10 (n := 152) (N := 3) (f := a 10) (u' := (i, l_, va_up a 10 (upd (a 10) 3 v), h)) F rfl (by rw [hc4]; exact kIx_nI (j := 3) (by decide) (by decide)) rfl dX10_set_151 rfl ?_
              refine k_iload (n := 154) F dX10_set_152 0 rfl rfl ?_
              exact k_iret F (by first | (simp only [f_set, mayS, setS, chgS, sR, hc1, hc2, hc3, hc4, hc9, hc10, Int32.not_lt.mp hc10, if_true, if_false, not_true_eq_false, not_false_eq_true]; done) | (simp only [f_set, mayS, setS, chgS, sR, hc1, hc2, hc3, hc4, hc9, hc10, Int32.not_lt.mp hc10, if_true, if_false, not_true_eq_false, not_false_eq_true, upd, va_up, vp_updL, reduceIte, Nat.reduceEqDiff]; done) | (simp [f_set, mayS, setS, chgS, sR, hc1, hc2, hc3, hc4, hc9, hc10, Int32.not_lt.mp hc10]; done) | (simp_all [f_set, mayS, setS, chgS, sR, hc1, hc2, hc3, hc4, hc9, hc10, Int32.not_lt.mp hc10]; done)) (by first | (simp only [f_set, mayS, setS, chgS, sR, hc1, hc2, hc3, hc4, hc9, hc10, Int32.not_lt.mp hc10, if_true, if_false, not_true_eq_false, not_false_eq_true]; done) | (simp only [f_set, mayS, setS, chgS, sR, hc1, hc2, hc3, hc4, hc9, hc10, Int32.not_lt.mp hc10, if_true, if_false, not_true_eq_false, not_false_eq_true, wR, upd, va_up, vp_updL, reduceIte, Nat.reduceEqDiff]; done) | (simp [f_set, mayS, setS, chgS, sR, hc1, hc2, hc3, hc4, hc9, hc10, Int32.not_lt.mp hc10, wR, upd, va_up, vp_updL]; done) | (simp_all [f_set, mayS, setS, chgS, sR, hc1, hc2, hc3, hc4, hc9, hc10, Int32.not_lt.mp hc10, wR, upd, va_up, vp_updL]; done)) dX10_set_154
      · refine k_iload_n (n := 52) F dX10_set_51 rfl 2 rfl rfl ?_
        refine k_iconst (n := 53) (v := 0) F dX10_set_52 rfl rfl ?_
        refine k_sipush (n := 56) (v := 400) F dX10_set_53 rfl rfl ?_
        refine k_ciR (n := 59) F (k_rS (k := 3) (As := [.int v, .int 0, .int 400]) (rest := []) F (c_in l g v 0 400) [] rfl rfl mw_693 mw_691 mw_692 mw_9 (by decide) ⟨by decide, by decide⟩ rfl (Nat.le_of_ble_eq_true rfl) ⟨by decide, by decide⟩ dX10_set_56) [] rfl rfl ?_
        refine k_goto (tgt := 130) F dX10_set_59 (by decide) ?_
        refine k_istore_n (n := 131) (lv' := [(3, .int (kin v 0 400)), (0, .ref h0), (1, .int wh), (2, .int v)]) F dX10_set_130 rfl (by decide) rfl rfl ?_
        refine k_iload_n (n := 132) F dX10_set_131 rfl 0 rfl rfl ?_
        refine k_if_ne (n := 135) (tgt := 137) F dX10_set_132 (by decide) rfl (fun hc11 => ?_) (fun hc11 => ?_)
        · refine k_aload_n (n := 138) F dX10_set_137 rfl 1 rfl rfl ?_
          refine k_rget_10 (n := 141) F dX10_set_138 rfl ?_
          refine k_iload_n (n := 142) F dX10_set_141 rfl 2 rfl rfl ?_
          refine k_rald_10 (n := 143) (N := 2) (f := a 10) F rfl (by rw [hc3]; exact kIx_nI (j := 2) (by decide) (by decide)) dX10_set_142 rfl ?_
          refine k_istore (n := 145) (lv' := [(4, .int ((a 10) 2)), (3, .int (kin v 0 400)), (0, .ref h0), (1, .int wh), (2, .int v)]) F dX10_set_143 (by decide) rfl rfl ?_
          refine k_aload_n (n := 146) F dX10_set_145 rfl 2 rfl rfl ?_
          refine k_rget_10 (n := 149) F dX10_set_146 rfl ?_
          refine k_iload_n (n := 150) F dX10_set_149 rfl 3 rfl rfl ?_
          refine k_iload_n (n := 151) F dX10_set_150 rfl 4 rfl rfl ?_
          refine k_rast_10 (n := 152) (N := 2) (f := a 10) (u' := (i, l_, va_up a 10 (upd (a 10) 2 v), h)) F rfl (by rw [hc3]; exact kIx_nI (j := 2) (by decide) (by decide)) rfl dX10_set_151 rfl ?_
          refine k_iload (n := 154) F dX10_set_152 0 rfl rfl ?_
          exact k_iret F (by first | (simp only [f_set, mayS, setS, chgS, sR, hc1, hc2, hc3, hc11, if_true, if_false, not_true_eq_false, not_false_eq_true]; done) | (simp only [f_set, mayS, setS, chgS, sR, hc1, hc2, hc3, hc11, if_true, if_false, not_true_eq_false, not_false_eq_true, upd, va_up, vp_updL, reduceIte, Nat.reduceEqDiff]; done) | (simp [f_set, mayS, setS, chgS, sR, hc1, hc2, hc3, hc11]; done) | (simp_all [f_set, mayS, setS, chgS, sR, hc1, hc2, hc3, hc11]; done)) (by first | (simp only [f_set, mayS, setS, chgS, sR, hc1, hc2, hc3, hc11, if_true, if_false, not_true_eq_false, not_false_eq_true]; done) | (simp only [f_set, mayS, setS, chgS, sR, hc1, hc2, hc3, hc11, if_true, if_false, not_true_eq_false, not_false_eq_true, wR, upd, va_up, vp_updL, reduceIte, Nat.reduceEqDiff]; done) | (simp [f_set, mayS, setS, chgS, sR, hc1, hc2, hc3, hc11, wR, upd, va_up, vp_updL]; done) | (simp_all [f_set, mayS, setS, chgS, sR, hc1, hc2, hc3, hc11, wR, upd, va_up, vp_updL]; done)) dX10_set_154
        · refine k_iconst (n := 136) (v := -1) F dX10_set_135 rfl rfl ?_
          exact k_iret F (by first | (simp only [f_set, mayS, setS, chgS, sR, hc1, hc2, hc3, hc11, if_true, if_false, not_true_eq_false, not_false_eq_true]; done) | (simp only [f_set, mayS, setS, chgS, sR, hc1, hc2, hc3, hc11, if_true, if_false, not_true_eq_false, not_false_eq_true, upd, va_up, vp_updL, reduceIte, Nat.reduceEqDiff]; done) | (simp [f_set, mayS, setS, chgS, sR, hc1, hc2, hc3, hc11]; done) | (simp_all [f_set, mayS, setS, chgS, sR, hc1, hc2, hc3, hc11]; done)) (by first | (simp only [f_set, mayS, setS, chgS, sR, hc1, hc2, hc3, hc11, if_true, if_false, not_true_eq_false, not_false_eq_true]; done) | (simp only [f_set, mayS, setS, chgS, sR, hc1, hc2, hc3, hc11, if_true, if_false, not_true_eq_false, not_false_eq_true, wR, upd, va_up, vp_updL, reduceIte, Nat.reduceEqDiff]; done) | (simp [f_set, mayS, setS, chgS, sR, hc1, hc2, hc3, hc11, wR, upd, va_up, vp_updL]; done) | (simp_all [f_set, mayS, setS, chgS, sR, hc1, hc2, hc3, hc11, wR, upd, va_up, vp_updL]; done)) dX10_set_136
    · refine k_iload_n (n := 37) F dX10_set_36 rfl 2 rfl rfl ?_
      refine k_iconst (n := 38) (v := 0) F dX10_set_37 rfl rfl ?_
      refine k_bipush (n := 40) (v := 40) F dX10_set_38 rfl rfl ?_
      refine k_ciR (n := 43) F (k_rS (k := 3) (As := [.int v, .int 0, .int 40]) (rest := []) F (c_in l g v 0 40) [] rfl rfl mw_693 mw_691 mw_692 mw_9 (by decide) ⟨by decide, by decide⟩ rfl (Nat.le_of_ble_eq_true rfl) ⟨by decide, by decide⟩ dX10_set_40) [] rfl rfl ?_
      refine k_goto (tgt := 130) F dX10_set_43 (by decide) ?_
      refine k_istore_n (n := 131) (lv' := [(3, .int (kin v 0 40)), (0, .ref h0), (1, .int wh), (2, .int v)]) F dX10_set_130 rfl (by decide) rfl rfl ?_
      refine k_iload_n (n := 132) F dX10_set_131 rfl 0 rfl rfl ?_
      refine k_if_ne (n := 135) (tgt := 137) F dX10_set_132 (by decide) rfl (fun hc12 => ?_) (fun hc12 => ?_)
      · refine k_aload_n (n := 138) F dX10_set_137 rfl 1 rfl rfl ?_
        refine k_rget_10 (n := 141) F dX10_set_138 rfl ?_
        refine k_iload_n (n := 142) F dX10_set_141 rfl 2 rfl rfl ?_
        refine k_rald_10 (n := 143) (N := 1) (f := a 10) F rfl (by rw [hc2]; exact kIx_nI (j := 1) (by decide) (by decide)) dX10_set_142 rfl ?_
        refine k_istore (n := 145) (lv' := [(4, .int ((a 10) 1)), (3, .int (kin v 0 40)), (0, .ref h0), (1, .int wh), (2, .int v)]) F dX10_set_143 (by decide) rfl rfl ?_
        refine k_aload_n (n := 146) F dX10_set_145 rfl 2 rfl rfl ?_
        refine k_rget_10 (n := 149) F dX10_set_146 rfl ?_
        refine k_iload_n (n := 150) F dX10_set_149 rfl 3 rfl rfl ?_
        refine k_iload_n (n := 151) F dX10_set_150 rfl 4 rfl rfl ?_
        refine k_rast_10 (n := 152) (N := 1) (f := a 10) (u' := (i, l_, va_up a 10 (upd (a 10) 1 v), h)) F rfl (by rw [hc2]; exact kIx_nI (j := 1) (by decide) (by decide)) rfl dX10_set_151 rfl ?_
        refine k_iload (n := 154) F dX10_set_152 0 rfl rfl ?_
        exact k_iret F (by first | (simp only [f_set, mayS, setS, chgS, sR, hc1, hc2, hc12, if_true, if_false, not_true_eq_false, not_false_eq_true]; done) | (simp only [f_set, mayS, setS, chgS, sR, hc1, hc2, hc12, if_true, if_false, not_true_eq_false, not_false_eq_true, upd, va_up, vp_updL, reduceIte, Nat.reduceEqDiff]; done) | (simp [f_set, mayS, setS, chgS, sR, hc1, hc2, hc12]; done) | (simp_all [f_set, mayS, setS, chgS, sR, hc1, hc2, hc12]; done)) (by first | (simp only [f_set, mayS, setS, chgS, sR, hc1, hc2, hc12, if_true, if_false, not_true_eq_false, not_false_eq_true]; done) | (simp only [f_set, mayS, setS, chgS, sR, hc1, hc2, hc12, if_true, if_false, not_true_eq_false, not_false_eq_true, wR, upd, va_up, vp_updL, reduceIte, Nat.reduceEqDiff]; done) | (simp [f_set, mayS, setS, chgS, sR, hc1, hc2, hc12, wR, upd, va_up, vp_updL]; done) | (simp_all [f_set, mayS, setS, chgS, sR, hc1, hc2, hc12, wR, upd, va_up, vp_updL]; done)) dX10_set_154
      · refine k_iconst (n := 136) (v := -1) F dX10_set_135 rfl rfl ?_
        exact k_iret F (by first | (simp only [f_set, mayS, setS, chgS, sR, hc1, hc2, hc12, if_true, if_false, not_true_eq_false, not_false_eq_true]; done) | (simp only [f_set, mayS, setS, chgS, sR, hc1, hc2, hc12, if_true, if_false, not_true_eq_false, not_false_eq_true, upd, va_up, vp_updL, reduceIte, Nat.reduceEqDiff]; done) | (simp [f_set, mayS, setS, chgS, sR, hc1, hc2, hc12]; done) | (simp_all [f_set, mayS, setS, chgS, sR, hc1, hc2, hc12]; done)) (by first | (simp only [f_set, mayS, setS, chgS, sR, hc1, hc2, hc12, if_true, if_false, not_true_eq_false, not_false_eq_true]; done) | (simp only [f_set, mayS, setS, chgS, sR, hc1, hc2, hc12, if_true, if_false, not_true_eq_false, not_false_eq_true, wR, upd, va_up, vp_updL, reduceIte, Nat.reduceEqDiff]; done) | (simp [f_set, mayS, setS, chgS, sR, hc1, hc2, hc12, wR, upd, va_up, vp_updL]; done) | (simp_all [f_set, mayS, setS, chgS, sR, hc1, hc2, hc12, wR, upd, va_up, vp_updL]; done)) dX10_set_136
  · refine k_iload_n (n := 10) F dX10_set_9 rfl 2 rfl rfl ?_
    refine k_bipush (n := 12) (v := -9) F dX10_set_10 rfl rfl ?_
    refine k_icmp_eq (n := 15) (tgt := 23) F dX10_set_12 (by decide) rfl (fun hc13 => ?_) (fun hc13 => ?_)
    · refine k_iconst (n := 24) (v := 1) F dX10_set_23 rfl rfl ?_
      refine k_goto (tgt := 130) F dX10_set_24 (by decide) ?_
      refine k_istore_n (n := 131) (lv' := [(3, .int 1), (0, .ref h0), (1, .int wh), (2, .int v)]) F dX10_set_130 rfl (by decide) rfl rfl ?_
      refine k_iload_n (n := 132) F dX10_set_131 rfl 0 rfl rfl ?_
      refine k_if_ne (n := 135) (tgt := 137) F dX10_set_132 (by decide) rfl (fun _ => ?_) (fun h9 => absurd h9 (by decide))
      refine k_aload_n (n := 138) F dX10_set_137 rfl 1 rfl rfl ?_
      refine k_rget_10 (n := 141) F dX10_set_138 rfl ?_
      refine k_iload_n (n := 142) F dX10_set_141 rfl 2 rfl rfl ?_
      refine k_rald_10 (n := 143) (N := 0) (f := a 10) F rfl (by rw [hc1]; exact kIx_nI (j := 0) (by decide) (by decide)) dX10_set_142 rfl ?_
      refine k_istore (n := 145) (lv' := [(4, .int ((a 10) 0)), (3, .int 1), (0, .ref h0), (1, .int wh), (2, .int v)]) F dX10_set_143 (by decide) rfl rfl ?_
      refine k_aload_n (n := 146) F dX10_set_145 rfl 2 rfl rfl ?_
      refine k_rget_10 (n := 149) F dX10_set_146 rfl ?_
      refine k_iload_n (n := 150) F dX10_set_149 rfl 3 rfl rfl ?_
      refine k_iload_n (n := 151) F dX10_set_150 rfl 4 rfl rfl ?_
      refine k_rast_10 (n := 152) (N := 0) (f := a 10) (u' := (i, l_, va_up a 10 (upd (a 10) 0 v), h)) F rfl (by rw [hc1]; exact kIx_nI (j := 0) (by decide) (by decide)) rfl dX10_set_151 rfl ?_
      refine k_iload (n := 154) F dX10_set_152 0 rfl rfl ?_
      exact k_iret F (by first | (simp only [f_set, mayS, setS, chgS, sR, hc1, hc13, if_true, if_false, not_true_eq_false, not_false_eq_true]; done) | (simp only [f_set, mayS, setS, chgS, sR, hc1, hc13, if_true, if_false, not_true_eq_false, not_false_eq_true, upd, va_up, vp_updL, reduceIte, Nat.reduceEqDiff]; done) | (simp [f_set, mayS, setS, chgS, sR, hc1, hc13]; done) | (simp_all [f_set, mayS, setS, chgS, sR, hc1, hc13]; done)) (by first | (simp only [f_set, mayS, setS, chgS, sR, hc1, hc13, if_true, if_false, not_true_eq_false, not_false_eq_true]; done) | (simp only [f_set, mayS, setS, chgS, sR, hc1, hc13, if_true, if_false, not_true_eq_false, not_false_eq_true, wR, upd, va_up, vp_updL, reduceIte, Nat.reduceEqDiff]; done) | (simp [f_set, mayS, setS, chgS, sR, hc1, hc13, wR, upd, va_up, vp_updL]; done) | (simp_all [f_set, mayS, setS, chgS, sR, hc1, hc13, wR, upd, va_up, vp_updL]; done)) dX10_set_154
    · refine k_aload_n (n := 16) F dX10_set_15 rfl 0 rfl rfl ?_
      refine k_iload_n (n := 17) F dX10_set_16 rfl 2 rfl rfl ?_
      refine k_ciR (n := 20) F (k_rV (k := 1) (b := h0) (As := [.int v]) (rest := []) F (r_isCooler l g h0 ad i l_ a h v) [0, 1, 2, 3, 4, 5, 6, 7, 8, 9, 10, 11, 12, 13, 14] rfl rfl 0 rfl rfl mw_701 mw_698 mw_700 mw_s19 mw_9 (by decide) ⟨by decide, by decide⟩ rfl (Nat.le_of_ble_eq_true rfl) ⟨by decide, by decide⟩ dX10_set_17) [0, 1, 2, 3, 4, 5, 6, 7, 8, 9, 10, 11, 12, 13, 14] rfl rfl ?_
      refine k_if_eq (n := 23) (tgt := 27) F dX10_set_20 (by decide) rfl (fun hc14 => ?_) (fun hc14 => ?_)
      · refine k_iconst (n := 28) (v := 0) F dX10_set_27 rfl rfl ?_
        refine k_goto (tgt := 130) F dX10_set_28 (by decide) ?_
        refine k_istore_n (n := 131) (lv' := [(3, .int 0), (0, .ref h0), (1, .int wh), (2, .int v)]) F dX10_set_130 rfl (by decide) rfl rfl ?_
        refine k_iload_n (n := 132) F dX10_set_131 rfl 0 rfl rfl ?_
        refine k_if_ne (n := 135) (tgt := 137) F dX10_set_132 (by decide) rfl (fun h9 => absurd h9 (by decide)) (fun _ => ?_)
        refine k_iconst (n := 136) (v := -1) F dX10_set_135 rfl rfl ?_
        exact k_iret F (by first | (simp only [f_set, mayS, setS, chgS, sR, hc1, hc13, hc14, if_true, if_false, not_true_eq_false, not_false_eq_true]; done) | (simp only [f_set, mayS, setS, chgS, sR, hc1, hc13, hc14, if_true, if_false, not_true_eq_false, not_false_eq_true, upd, va_up, vp_updL, reduceIte, Nat.reduceEqDiff]; done) | (simp [f_set, mayS, setS, chgS, sR, hc1, hc13, hc14]; done) | (simp_all [f_set, mayS, setS, chgS, sR, hc1, hc13, hc14]; done)) (by first | (simp only [f_set, mayS, setS, chgS, sR, hc1, hc13, hc14, if_true, if_false, not_true_eq_false, not_false_eq_true]; done) | (simp only [f_set, mayS, setS, chgS, sR, hc1, hc13, hc14, if_true, if_false, not_true_eq_false, not_false_eq_true, wR, upd, va_up, vp_updL, reduceIte, Nat.reduceEqDiff]; done) | (simp [f_set, mayS, setS, chgS, sR, hc1, hc13, hc14, wR, upd, va_up, vp_updL]; done) | (simp_all [f_set, mayS, setS, chgS, sR, hc1, hc13, hc14, wR, upd, va_up, vp_updL]; done)) dX10_set_136
      · refine k_iconst (n := 24) (v := 1) F dX10_set_23 rfl rfl ?_
        refine k_goto (tgt := 130) F dX10_set_24 (by decide) ?_
        refine k_istore_n (n := 131) (lv' := [(3, .int 1), (0, .ref h0), (1, .int wh), (2, .int v)]) F dX10_set_130 rfl (by decide) rfl rfl ?_
        refine k_iload_n (n := 132) F dX10_set_131 rfl 0 rfl rfl ?_
        refine k_if_ne (n := 135) (tgt := 137) F dX10_set_132 (by decide) rfl (fun _ => ?_) (fun h9 => absurd h9 (by decide))
        refine k_aload_n (n := 138) F dX10_set_137 rfl 1 rfl rfl ?_
        refine k_rget_10 (n := 141) F dX10_set_138 rfl ?_
        refine k_iload_n (n := 142) F dX10_set_141 rfl 2 rfl rfl ?_
        refine k_rald_10 (n := 143) (N := 0) (f := a 10) F rfl (by rw [hc1]; exact kIx_nI (j := 0) (by decide) (by decide)) dX10_set_142 rfl ?_
        refine k_istore (n := 145) (lv' := [(4, .int ((a 10) 0)), (3, .int 1), (0, .ref h0), (1, .int wh), (2, .int v)]) F dX10_set_143 (by decide) rfl rfl ?_
        refine k_aload_n (n := 146) F dX10_set_145 rfl 2 rfl rfl ?_
        refine k_rget_10 (n := 149) F dX10_set_146 rfl ?_
        refine k_iload_n (n := 150) F dX10_set_149 rfl 3 rfl rfl ?_
        refine k_iload_n (n := 151) F dX10_set_150 rfl 4 rfl rfl ?_
        refine k_rast_10 (n := 152) (N := 0) (f := a 10) (u' := (i, l_, va_up a 10 (upd (a 10) 0 v), h)) F rfl (by rw [hc1]; exact kIx_nI (j := 0) (by decide) (by decide)) rfl dX10_set_151 rfl ?_
        refine k_iload (n := 154) F dX10_set_152 0 rfl rfl ?_
        exact k_iret F (by first | (simp only [f_set, mayS, setS, chgS, sR, hc1, hc13, hc14, if_true, if_false, not_true_eq_false, not_false_eq_true]; done) | (simp only [f_set, mayS, setS, chgS, sR, hc1, hc13, hc14, if_true, if_false, not_true_eq_false, not_false_eq_true, upd, va_up, vp_updL, reduceIte, Nat.reduceEqDiff]; done) | (simp [f_set, mayS, setS, chgS, sR, hc1, hc13, hc14]; done) | (simp_all [f_set, mayS, setS, chgS, sR, hc1, hc13, hc14]; done)) (by first | (simp only [f_set, mayS, setS, chgS, sR, hc1, hc13, hc14, if_true, if_false, not_true_eq_false, not_false_eq_true]; done) | (simp only [f_set, mayS, setS, chgS, sR, hc1, hc13, hc14, if_true, if_false, not_true_eq_false, not_false_eq_true, wR, upd, va_up, vp_updL, reduceIte, Nat.reduceEqDiff]; done) | (simp [f_set, mayS, setS, chgS, sR, hc1, hc13, hc14, wR, upd, va_up, vp_updL]; done) | (simp_all [f_set, mayS, setS, chgS, sR, hc1, hc13, hc14, wR, upd, va_up, vp_updL]; done)) dX10_set_154
set_option maxRecDepth 100000 in
set_option maxHeartbeats 4000000 in
theorem r_side (l : Launch) (g : kG) (h0 : Nat) (ad : Nat → Nat) (i : Nat → Int32) (l_ : Nat → Int64) (a : Nat → Nat → Int32) (h : Nat → Int64) (x y : Int32) (h6 : 1 ≤ i 6 ∧ i 6 ≤ 8) : kM l yX10_side cX10_side 3 (some .int) (rmK 1 0 0 22) g [.ref h0, .int x, .int y] (wR g h0 ad (i, l_, a, h)) (kDi g (f_side (i, l_, a, h) x y) (wR g h0 ad (i, l_, a, h))) := by
  refine k_enter (by decide) (Nat.le_of_ble_eq_true rfl) ?_
  intro p e s m args below meth c A F
  refine k_aload_n (n := 1) F dX10_side_0 rfl 0 rfl rfl ?_
  refine k_iconst (n := 2) (v := 0) F dX10_side_1 rfl rfl ?_
  refine k_rput_0 (n := 5) F dX10_side_2 rfl ?_
  refine k_iload_n (n := 6) F dX10_side_5 rfl 1 rfl rfl ?_
  refine k_iconst (n := 7) (v := 0) F dX10_side_6 rfl rfl ?_
  refine k_iconst (n := 8) (v := 1) F dX10_side_7 rfl rfl ?_
  refine k_ciR (n := 11) F (k_rS (k := 3) (As := [.int x, .int 0, .int 1]) (rest := []) F (c_in l g x 0 1) [] rfl rfl mw_693 mw_691 mw_692 mw_9 (by decide) ⟨by decide, by decide⟩ rfl (Nat.le_of_ble_eq_true rfl) ⟨by decide, by decide⟩ dX10_side_8) [] rfl rfl ?_
  refine k_if_eq (n := 14) (tgt := 28) F dX10_side_11 (by decide) rfl (fun hc1 => ?_) (fun hc1 => ?_)
  · refine k_iconst (n := 29) (v := -1) F dX10_side_28 rfl rfl ?_
    exact k_iret F (by first | (simp only [f_side, hc1, if_true, if_false, not_true_eq_false, not_false_eq_true]; done) | (simp only [f_side, hc1, if_true, if_false, not_true_eq_false, not_false_eq_true, upd, va_up, vp_updL, reduceIte, Nat.reduceEqDiff]; done) | (simp [f_side, hc1]; done) | (simp_all [f_side, hc1]; done)) (by first | (simp only [f_side, hc1, if_true, if_false, not_true_eq_false, not_false_eq_true]; done) | (simp only [f_side, hc1, if_true, if_false, not_true_eq_false, not_false_eq_true, wR, upd, va_up, vp_updL, reduceIte, Nat.reduceEqDiff]; done) | (simp [f_side, hc1, wR, upd, va_up, vp_updL]; done) | (simp_all [f_side, hc1, wR, upd, va_up, vp_updL]; done)) dX10_side_29
  · refine k_iload_n (n := 15) F dX10_side_14 rfl 2 rfl rfl ?_
    refine k_iconst (n := 16) (v := 0) F dX10_side_15 rfl rfl ?_
    refine k_aload_n (n := 17) F dX10_side_16 rfl 0 rfl rfl ?_
    refine k_rget_6 (n := 20) (v := i 6) F rfl dX10_side_17 rfl ?_
    refine k_iconst (n := 21) (v := 1) F dX10_side_20 rfl rfl ?_
    refine k_isub (n := 22) F dX10_side_21 rfl ?_
    refine k_ciR (n := 25) F (k_rS (k := 3) (As := [.int y, .int 0, .int ((i 6) - 1)]) (rest := []) F (c_in l g y 0 ((i 6) - 1)) [] rfl rfl mw_693 mw_691 mw_692 mw_9 (by decide) ⟨by decide, by decide⟩ rfl (Nat.le_of_ble_eq_true rfl) ⟨by decide, by decide⟩ dX10_side_22) [] rfl rfl ?_
    refine k_if_ne (n := 28) (tgt := 30) F dX10_side_25 (by decide) rfl (fun hc2 => ?_) (fun hc2 => ?_)
    · refine k_iload_n (n := 31) F dX10_side_30 rfl 1 rfl rfl ?_
      refine k_if_ne (n := 34) (tgt := 43) F dX10_side_31 (by decide) rfl (fun hc3 => ?_) (fun hc3 => ?_)
      · refine k_aload_n (n := 44) F dX10_side_43 rfl 0 rfl rfl ?_
        refine k_rget_8 (n := 47) F dX10_side_44 rfl ?_
        refine k_iload_n (n := 48) F dX10_side_47 rfl 2 rfl rfl ?_
        refine k_rald_8 (n := 49) (N := y.toNatClampNeg) (f := a 8) F rfl (kIx_kin hc2 h6.1 h6.2) dX10_side_48 rfl ?_
        exact k_iret F (by first | (simp only [f_side, hc1, hc2, hc3, if_true, if_false, not_true_eq_false, not_false_eq_true]; done) | (simp only [f_side, hc1, hc2, hc3, if_true, if_false, not_true_eq_false, not_false_eq_true, upd, va_up, vp_updL, reduceIte, Nat.reduceEqDiff]; done) | (simp [f_side, hc1, hc2, hc3]; done) | (simp_all [f_side, hc1, hc2, hc3]; done)) (by first | (simp only [f_side, hc1, hc2, hc3, if_true, if_false, not_true_eq_false, not_false_eq_true]; done) | (simp only [f_side, hc1, hc2, hc3, if_true, if_false, not_true_eq_false, not_false_eq_true, wR, upd, va_up, vp_updL, reduceIte, Nat.reduceEqDiff]; done) | (simp [f_side, hc1, hc2, hc3, wR, upd, va_up, vp_updL]; done) | (simp_all [f_side, hc1, hc2, hc3, wR, upd, va_up, vp_updL]; done)) dX10_side_49
      · refine k_aload_n (n := 35) F dX10_side_34 rfl 0 rfl rfl ?_
        refine k_rget_7 (n := 38) F dX10_side_35 rfl ?_
        refine k_iload_n (n := 39) F dX10_side_38 rfl 2 rfl rfl ?_
        refine k_rald_7 (n := 40) (N := y.toNatClampNeg) (f := a 7) F rfl (kIx_kin hc2 h6.1 h6.2) dX10_side_39 rfl ?_
        refine k_goto (tgt := 49) F dX10_side_40 (by decide) ?_
        exact k_iret F (by first | (simp only [f_side, hc1, hc2, hc3, if_true, if_false, not_true_eq_false, not_false_eq_true]; done) | (simp only [f_side, hc1, hc2, hc3, if_true, if_false, not_true_eq_false, not_false_eq_true, upd, va_up, vp_updL, reduceIte, Nat.reduceEqDiff]; done) | (simp [f_side, hc1, hc2, hc3]; done) | (simp_all [f_side, hc1, hc2, hc3]; done)) (by first | (simp only [f_side, hc1, hc2, hc3, if_true, if_false, not_true_eq_false, not_false_eq_true]; done) | (simp only [f_side, hc1, hc2, hc3, if_true, if_false, not_true_eq_false, not_false_eq_true, wR, upd, va_up, vp_updL, reduceIte, Nat.reduceEqDiff]; done) | (simp [f_side, hc1, hc2, hc3, wR, upd, va_up, vp_updL]; done) | (simp_all [f_side, hc1, hc2, hc3, wR, upd, va_up, vp_updL]; done)) dX10_side_49
    · refine k_iconst (n := 29) (v := -1) F dX10_side_28 rfl rfl ?_
      exact k_iret F (by first | (simp only [f_side, hc1, hc2, if_true, if_false, not_true_eq_false, not_false_eq_true]; done) | (simp only [f_side, hc1, hc2, if_true, if_false, not_true_eq_false, not_false_eq_true, upd, va_up, vp_updL, reduceIte, Nat.reduceEqDiff]; done) | (simp [f_side, hc1, hc2]; done) | (simp_all [f_side, hc1, hc2]; done)) (by first | (simp only [f_side, hc1, hc2, if_true, if_false, not_true_eq_false, not_false_eq_true]; done) | (simp only [f_side, hc1, hc2, if_true, if_false, not_true_eq_false, not_false_eq_true, wR, upd, va_up, vp_updL, reduceIte, Nat.reduceEqDiff]; done) | (simp [f_side, hc1, hc2, wR, upd, va_up, vp_updL]; done) | (simp_all [f_side, hc1, hc2, wR, upd, va_up, vp_updL]; done)) dX10_side_29
set_option maxRecDepth 100000 in
set_option maxHeartbeats 4000000 in
theorem r_heat (l : Launch) (g : kG) (h0 : Nat) (ad : Nat → Nat) (i : Nat → Int32) (l_ : Nat → Int64) (a : Nat → Nat → Int32) (h : Nat → Int64) (x : Int32) : kM l yX10_heat cX10_heat 2 (some .long) (rmK 1 0 0 22) g [.ref h0, .int x] (wR g h0 ad (i, l_, a, h)) (kDl g (f_heat (i, l_, a, h) x) (wR g h0 ad (i, l_, a, h))) := by
  refine k_enter (by decide) (Nat.le_of_ble_eq_true rfl) ?_
  intro p e s m args below meth c A F
  refine k_aload_n (n := 1) F dX10_heat_0 rfl 0 rfl rfl ?_
  refine k_iconst (n := 2) (v := 0) F dX10_heat_1 rfl rfl ?_
  refine k_rput_0 (n := 5) F dX10_heat_2 rfl ?_
  refine k_iload_n (n := 6) F dX10_heat_5 rfl 1 rfl rfl ?_
  refine k_iconst (n := 7) (v := 0) F dX10_heat_6 rfl rfl ?_
  refine k_iconst (n := 8) (v := 3) F dX10_heat_7 rfl rfl ?_
  refine k_ciR (n := 11) F (k_rS (k := 3) (As := [.int x, .int 0, .int 3]) (rest := []) F (c_in l g x 0 3) [] rfl rfl mw_693 mw_691 mw_692 mw_9 (by decide) ⟨by decide, by decide⟩ rfl (Nat.le_of_ble_eq_true rfl) ⟨by decide, by decide⟩ dX10_heat_8) [] rfl rfl ?_
  refine k_if_eq (n := 14) (tgt := 23) F dX10_heat_11 (by decide) rfl (fun hc1 => ?_) (fun hc1 => ?_)
  · refine k_ldc2 (n := 26) (v := -1) F mw_724 dX10_heat_23 rfl ?_
    exact k_lret F (by rw [f_heat_0 hc1]) rfl dX10_heat_26
  · refine k_aload_n (n := 15) F dX10_heat_14 rfl 0 rfl rfl ?_
    refine k_rget_11 (n := 18) F dX10_heat_15 rfl ?_
    refine k_iload_n (n := 19) F dX10_heat_18 rfl 1 rfl rfl ?_
    refine k_rald_11 (n := 20) (N := x.toNatClampNeg) (f := h) F rfl (kIx_m hc1) dX10_heat_19 rfl ?_
    refine k_goto (tgt := 26) F dX10_heat_20 (by decide) ?_
    exact k_lret F (by rw [f_heat_1 hc1]) rfl dX10_heat_26
set_option maxRecDepth 100000 in
set_option maxHeartbeats 4000000 in
theorem r_start (l : Launch) (g : kG) (h0 : Nat) (ad : Nat → Nat) (i : Nat → Int32) (l_ : Nat → Int64) (a : Nat → Nat → Int32) (h : Nat → Int64) : kM l yX10_start cX10_start 1 (some .int) (rmK 0 0 0 0) g [.ref h0] (wR g h0 ad (i, l_, a, h)) (kDi g (f_start (i, l_, a, h)).1 (wR g h0 ad (f_start (i, l_, a, h)).2)) := by
  refine k_enter (by decide) (Nat.le_of_ble_eq_true rfl) ?_
  intro p e s m args below meth c A F
  refine k_aload_n (n := 1) F dX10_start_0 rfl 0 rfl rfl ?_
  refine k_iconst (n := 2) (v := 0) F dX10_start_1 rfl rfl ?_
  refine k_rput_0 (n := 5) F dX10_start_2 rfl ?_
  refine k_aload_n (n := 6) F dX10_start_5 rfl 0 rfl rfl ?_
  refine k_rget_12 (n := 9) (v := i 12) F rfl dX10_start_6 rfl ?_
  refine k_if_ne (n := 12) (tgt := 45) F dX10_start_9 (by decide) rfl (fun hc1 => ?_) (fun hc1 => ?_)
  · refine k_bipush (n := 47) (v := -2) F dX10_start_45 rfl rfl ?_
    exact k_iret F (by first | (simp only [f_start, anyR, hc1, if_true, if_false, not_true_eq_false, not_false_eq_true]; done) | (simp only [f_start, anyR, hc1, if_true, if_false, not_true_eq_false, not_false_eq_true, upd, va_up, vp_updL, reduceIte, Nat.reduceEqDiff]; done) | (simp [f_start, anyR, hc1]; done) | (simp_all [f_start, anyR, hc1]; done)) (by first | (simp only [f_start, anyR, hc1, if_true, if_false, not_true_eq_false, not_false_eq_true]; done) | (simp only [f_start, anyR, hc1, if_true, if_false, not_true_eq_false, not_false_eq_true, wR, upd, va_up, vp_updL, reduceIte, Nat.reduceEqDiff]; done) | (simp [f_start, anyR, hc1, wR, upd, va_up, vp_updL]; done) | (simp_all [f_start, anyR, hc1, wR, upd, va_up, vp_updL]; done)) dX10_start_47
  · refine k_aload_n (n := 13) F dX10_start_12 rfl 0 rfl rfl ?_
    refine k_rget_22 (n := 16) F dX10_start_13 rfl ?_
    refine k_iconst (n := 17) (v := 0) F dX10_start_16 rfl rfl ?_
    refine k_rald_22 (n := 18) (N := 0) (f := a 22) F rfl (kIx_nI (j := 0) (by decide) (by decide)) dX10_start_17 rfl ?_
    refine k_iconst (n := 19) (v := 1) F dX10_start_18 rfl rfl ?_
    refine k_icmp_eq (n := 22) (tgt := 32) F dX10_start_19 (by decide) rfl (fun hc2 => ?_) (fun hc2 => ?_)
    · refine k_aload_n (n := 33) F dX10_start_32 rfl 0 rfl rfl ?_
      refine k_rget_17 (n := 36) (v := i 17) F rfl dX10_start_33 rfl ?_
      refine k_aload_n (n := 37) F dX10_start_36 rfl 0 rfl rfl ?_
      refine k_rget_10 (n := 40) F dX10_start_37 rfl ?_
      refine k_iconst (n := 41) (v := 3) F dX10_start_40 rfl rfl ?_
      refine k_rald_10 (n := 42) (N := 3) (f := a 10) F rfl (kIx_nI (j := 3) (by decide) (by decide)) dX10_start_41 rfl ?_
      refine k_icmp_lt (n := 45) (tgt := 48) F dX10_start_42 (by decide) rfl (fun hc3 => ?_) (fun hc3 => ?_)
      · refine k_aload_n (n := 49) F dX10_start_48 rfl 0 rfl rfl ?_
        refine k_iconst (n := 50) (v := 1) F dX10_start_49 rfl rfl ?_
        refine k_rput_12 (n := 53) (u' := (upd i 12 1, l_, a, h)) F rfl dX10_start_50 rfl ?_
        refine k_aload_n (n := 54) F dX10_start_53 rfl 0 rfl rfl ?_
        refine k_iconst (n := 55) (v := 1) F dX10_start_54 rfl rfl ?_
        refine k_rput_14 (n := 58) (u' := (upd (upd i 12 1) 14 1, l_, a, h)) F (Or.inr rfl) rfl dX10_start_55 rfl ?_
        refine k_aload_n (n := 59) F dX10_start_58 rfl 0 rfl rfl ?_
        refine k_iconst (n := 60) (v := 1) F dX10_start_59 rfl rfl ?_
        refine k_rput_15 (n := 63) (u' := (upd (upd (upd i 12 1) 14 1) 15 1, l_, a, h)) F (Or.inr rfl) rfl dX10_start_60 rfl ?_
        refine k_aload_n (n := 64) F dX10_start_63 rfl 0 rfl rfl ?_
        refine k_rget_12 (n := 67) (v := 1) F (show (upd (upd (upd i 12 1) 14 1) 15 1) 12 = 1 from (pk_un (k := 15) (j := 12) (by decide)).trans ((pk_un (k := 14) (j := 12) (by decide)).trans (pk_us))) dX10_start_64 rfl ?_
        exact k_iret F (by first | (simp only [f_start, anyR, hc1, hc2, hc3, Int32.not_le.mpr hc3, if_true, if_false, not_true_eq_false, not_false_eq_true]; done) | (simp only [f_start, anyR, hc1, hc2, hc3, Int32.not_le.mpr hc3, if_true, if_false, not_true_eq_false, not_false_eq_true, upd, va_up, vp_updL, reduceIte, Nat.reduceEqDiff]; done) | (simp [f_start, anyR, hc1, hc2, hc3, Int32.not_le.mpr hc3]; done) | (simp_all [f_start, anyR, hc1, hc2, hc3, Int32.not_le.mpr hc3]; done)) (by first | (simp only [f_start, anyR, hc1, hc2, hc3, Int32.not_le.mpr hc3, if_true, if_false, not_true_eq_false, not_false_eq_true]; done) | (simp only [f_start, anyR, hc1, hc2, hc3, Int32.not_le.mpr hc3, if_true, if_false, not_true_eq_false, not_false_eq_true, wR, upd, va_up, vp_updL, reduceIte, Nat.reduceEqDiff]; done) | (simp [f_start, anyR, hc1, hc2, hc3, Int32.not_le.mpr hc3, wR, upd, va_up, vp_updL]; done) | (simp_all [f_start, anyR, hc1, hc2, hc3, Int32.not_le.mpr hc3, wR, upd, va_up, vp_updL]; done)) dX10_start_67
      · refine k_bipush (n := 47) (v := -2) F dX10_start_45 rfl rfl ?_
        exact k_iret F (by first | (simp only [f_start, anyR, hc1, hc2, hc3, Int32.not_lt.mp hc3, if_true, if_false, not_true_eq_false, not_false_eq_true]; done) | (simp only [f_start, anyR, hc1, hc2, hc3, Int32.not_lt.mp hc3, if_true, if_false, not_true_eq_false, not_false_eq_true, upd, va_up, vp_updL, reduceIte, Nat.reduceEqDiff]; done) | (simp [f_start, anyR, hc1, hc2, hc3, Int32.not_lt.mp hc3]; done) | (simp_all [f_start, anyR, hc1, hc2, hc3, Int32.not_lt.mp hc3]; done)) (by first | (simp only [f_start, anyR, hc1, hc2, hc3, Int32.not_lt.mp hc3, if_true, if_false, not_true_eq_false, not_false_eq_true]; done) | (simp only [f_start, anyR, hc1, hc2, hc3, Int32.not_lt.mp hc3, if_true, if_false, not_true_eq_false, not_false_eq_true, wR, upd, va_up, vp_updL, reduceIte, Nat.reduceEqDiff]; done) | (simp [f_start, anyR, hc1, hc2, hc3, Int32.not_lt.mp hc3, wR, upd, va_up, vp_updL]; done) | (simp_all [f_start, anyR, hc1, hc2, hc3, Int32.not_lt.mp hc3, wR, upd, va_up, vp_updL]; done)) dX10_start_47
    · refine k_aload_n (n := 23) F dX10_start_22 rfl 0 rfl rfl ?_
      refine k_rget_22 (n := 26) F dX10_start_23 rfl ?_
      refine k_iconst (n := 27) (v := 1) F dX10_start_26 rfl rfl ?_
      refine k_rald_22 (n := 28) (N := 1) (f := a 22) F rfl (kIx_nI (j := 1) (by decide) (by decide)) dX10_start_27 rfl ?_
      refine k_iconst (n := 29) (v := 1) F dX10_start_28 rfl rfl ?_
      refine k_icmp_ne (n := 32) (tgt := 45) F dX10_start_29 (by decide) rfl (fun hc4 => ?_) (fun hc4 => ?_)
      · refine k_bipush (n := 47) (v := -2) F dX10_start_45 rfl rfl ?_
        exact k_iret F (by first | (simp only [f_start, anyR, hc1, hc2, hc4, if_true, if_false, not_true_eq_false, not_false_eq_true]; done) | (simp only [f_start, anyR, hc1, hc2, hc4, if_true, if_false, not_true_eq_false, not_false_eq_true, upd, va_up, vp_updL, reduceIte, Nat.reduceEqDiff]; done) | (simp [f_start, anyR, hc1, hc2, hc4]; done) | (simp_all [f_start, anyR, hc1, hc2, hc4]; done)) (by first | (simp only [f_start, anyR, hc1, hc2, hc4, if_true, if_false, not_true_eq_false, not_false_eq_true]; done) | (simp only [f_start, anyR, hc1, hc2, hc4, if_true, if_false, not_true_eq_false, not_false_eq_true, wR, upd, va_up, vp_updL, reduceIte, Nat.reduceEqDiff]; done) | (simp [f_start, anyR, hc1, hc2, hc4, wR, upd, va_up, vp_updL]; done) | (simp_all [f_start, anyR, hc1, hc2, hc4, wR, upd, va_up, vp_updL]; done)) dX10_start_47
      · refine k_aload_n (n := 33) F dX10_start_32 rfl 0 rfl rfl ?_
        refine k_rget_17 (n := 36) (v := i 17) F rfl dX10_start_33 rfl ?_
        refine k_aload_n (n := 37) F dX10_start_36 rfl 0 rfl rfl ?_
        refine k_rget_10 (n := 40) F dX10_start_37 rfl ?_
        refine k_iconst (n := 41) (v := 3) F dX10_start_40 rfl rfl ?_
        refine k_rald_10 (n := 42) (N := 3) (f := a 10) F rfl (kIx_nI (j := 3) (by decide) (by decide)) dX10_start_41 rfl ?_
        refine k_icmp_lt (n := 45) (tgt := 48) F dX10_start_42 (by decide) rfl (fun hc5 => ?_) (fun hc5 => ?_)
        · refine k_aload_n (n := 49) F dX10_start_48 rfl 0 rfl rfl ?_
          refine k_iconst (n := 50) (v := 1) F dX10_start_49 rfl rfl ?_
          refine k_rput_12 (n := 53) (u' := (upd i 12 1, l_, a, h)) F rfl dX10_start_50 rfl ?_
          refine k_aload_n (n := 54) F dX10_start_53 rfl 0 rfl rfl ?_
          refine k_iconst (n := 55) (v := 1) F dX10_start_54 rfl rfl ?_
          refine k_rput_14 (n := 58) (u' := (upd (upd i 12 1) 14 1, l_, a, h)) F (Or.inr rfl) rfl dX10_start_55 rfl ?_
          refine k_aload_n (n := 59) F dX10_start_58 rfl 0 rfl rfl ?_
          refine k_iconst (n := 60) (v := 1) F dX10_start_59 rfl rfl ?_
          refine k_rput_15 (n := 63) (u' := (upd (upd (upd i 12 1) 14 1) 15 1, l_, a, h)) F (Or.inr rfl) rfl dX10_start_60 rfl ?_
          refine k_aload_n (n := 64) F dX10_start_63 rfl 0 rfl rfl ?_
          refine k_rget_12 (n := 67) (v := 1) F (show (upd (upd (upd i 12 1) 14 1) 15 1) 12 = 1 from (pk_un (k := 15) (j := 12) (by decide)).trans ((pk_un (k := 14) (j := 12) (by decide)).trans (pk_us))) dX10_start_64 rfl ?_
          exact k_iret F (by first | (simp only [f_start, anyR, hc1, hc2, hc4, hc5, Int32.not_le.mpr hc5, if_true, if_false, not_true_eq_false, not_false_eq_true]; done) | (simp only [f_start, anyR, hc1, hc2, hc4, hc5, Int32.not_le.mpr hc5, if_true, if_false, not_true_eq_false, not_false_eq_true, upd, va_up, vp_updL, reduceIte, Nat.reduceEqDiff]; done) | (simp [f_start, anyR, hc1, hc2, hc4, hc5, Int32.not_le.mpr hc5]; done) | (simp_all [f_start, anyR, hc1, hc2, hc4, hc5, Int32.not_le.mpr hc5]; done)) (by first | (simp only [f_start, anyR, hc1, hc2, hc4, hc5, Int32.not_le.mpr hc5, if_true, if_false, not_true_eq_false, not_false_eq_true]; done) | (simp only [f_start, anyR, hc1, hc2, hc4, hc5, Int32.not_le.mpr hc5, if_true, if_false, not_true_eq_false, not_false_eq_true, wR, upd, va_up, vp_updL, reduceIte, Nat.reduceEqDiff]; done) | (simp [f_start, anyR, hc1, hc2, hc4, hc5, Int32.not_le.mpr hc5, wR, upd, va_up, vp_updL]; done) | (simp_all [f_start, anyR, hc1, hc2, hc4, hc5, Int32.not_le.mpr hc5, wR, upd, va_up, vp_updL]; done)) dX10_start_67
        · refine k_bipush (n := 47) (v := -2) F dX10_start_45 rfl rfl ?_
          exact k_iret F (by first | (simp only [f_start, anyR, hc1, hc2, hc4, hc5, Int32.not_lt.mp hc5, if_true, if_false, not_true_eq_false, not_false_eq_true]; done) | (simp only [f_start, anyR, hc1, hc2, hc4, hc5, Int32.not_lt.mp hc5, if_true, if_false, not_true_eq_false, not_false_eq_true, upd, va_up, vp_updL, reduceIte, Nat.reduceEqDiff]; done) | (simp [f_start, anyR, hc1, hc2, hc4, hc5, Int32.not_lt.mp hc5]; done) | (simp_all [f_start, anyR, hc1, hc2, hc4, hc5, Int32.not_lt.mp hc5]; done)) (by first | (simp only [f_start, anyR, hc1, hc2, hc4, hc5, Int32.not_lt.mp hc5, if_true, if_false, not_true_eq_false, not_false_eq_true]; done) | (simp only [f_start, anyR, hc1, hc2, hc4, hc5, Int32.not_lt.mp hc5, if_true, if_false, not_true_eq_false, not_false_eq_true, wR, upd, va_up, vp_updL, reduceIte, Nat.reduceEqDiff]; done) | (simp [f_start, anyR, hc1, hc2, hc4, hc5, Int32.not_lt.mp hc5, wR, upd, va_up, vp_updL]; done) | (simp_all [f_start, anyR, hc1, hc2, hc4, hc5, Int32.not_lt.mp hc5, wR, upd, va_up, vp_updL]; done)) dX10_start_47
set_option maxRecDepth 100000 in
set_option maxHeartbeats 4000000 in
theorem r_low (l : Launch) (g : kG) (h0 : Nat) (ad : Nat → Nat) (i : Nat → Int32) (l_ : Nat → Int64) (a : Nat → Nat → Int32) (h : Nat → Int64) : kM l yX10_low cX10_low 1 (some .int) (rmK 0 0 0 0) g [.ref h0] (wR g h0 ad (i, l_, a, h)) (kDi g (f_low (i, l_, a, h)).1 (wR g h0 ad (f_low (i, l_, a, h)).2)) := by
  refine k_enter (by decide) (Nat.le_of_ble_eq_true rfl) ?_
  intro p e s m args below meth c A F
  refine k_aload_n (n := 1) F dX10_low_0 rfl 0 rfl rfl ?_
  refine k_iconst (n := 2) (v := 0) F dX10_low_1 rfl rfl ?_
  refine k_rput_0 (n := 5) F dX10_low_2 rfl ?_
  refine k_aload_n (n := 6) F dX10_low_5 rfl 0 rfl rfl ?_
  refine k_rget_12 (n := 9) (v := i 12) F rfl dX10_low_6 rfl ?_
  refine k_iconst (n := 10) (v := 2) F dX10_low_9 rfl rfl ?_
  refine k_icmp_eq (n := 13) (tgt := 16) F dX10_low_10 (by decide) rfl (fun hc1 => ?_) (fun hc1 => ?_)
  · refine k_aload_n (n := 17) F dX10_low_16 rfl 0 rfl rfl ?_
    refine k_iconst (n := 18) (v := 3) F dX10_low_17 rfl rfl ?_
    refine k_rput_12 (n := 21) (u' := (upd i 12 3, l_, a, h)) F rfl dX10_low_18 rfl ?_
    refine k_aload_n (n := 22) F dX10_low_21 rfl 0 rfl rfl ?_
    refine k_iconst (n := 23) (v := 0) F dX10_low_22 rfl rfl ?_
    refine k_rput_13 (n := 26) (u' := (upd (upd i 12 3) 13 0, l_, a, h)) F rfl dX10_low_23 rfl ?_
    refine k_aload_n (n := 27) F dX10_low_26 rfl 0 rfl rfl ?_
    refine k_rget_12 (n := 30) (v := 3) F (show (upd (upd i 12 3) 13 0) 12 = 3 from (pk_un (k := 13) (j := 12) (by decide)).trans (pk_us)) dX10_low_27 rfl ?_
    exact k_iret F (by first | (simp only [f_low, hc1, if_true, if_false, not_true_eq_false, not_false_eq_true]; done) | (simp only [f_low, hc1, if_true, if_false, not_true_eq_false, not_false_eq_true, upd, va_up, vp_updL, reduceIte, Nat.reduceEqDiff]; done) | (simp [f_low, hc1]; done) | (simp_all [f_low, hc1]; done)) (by first | (simp only [f_low, hc1, if_true, if_false, not_true_eq_false, not_false_eq_true]; done) | (simp only [f_low, hc1, if_true, if_false, not_true_eq_false, not_false_eq_true, wR, upd, va_up, vp_updL, reduceIte, Nat.reduceEqDiff]; done) | (simp [f_low, hc1, wR, upd, va_up, vp_updL]; done) | (simp_all [f_low, hc1, wR, upd, va_up, vp_updL]; done)) dX10_low_30
  · refine k_bipush (n := 15) (v := -2) F dX10_low_13 rfl rfl ?_
    exact k_iret F (by first | (simp only [f_low, hc1, if_true, if_false, not_true_eq_false, not_false_eq_true]; done) | (simp only [f_low, hc1, if_true, if_false, not_true_eq_false, not_false_eq_true, upd, va_up, vp_updL, reduceIte, Nat.reduceEqDiff]; done) | (simp [f_low, hc1]; done) | (simp_all [f_low, hc1]; done)) (by first | (simp only [f_low, hc1, if_true, if_false, not_true_eq_false, not_false_eq_true]; done) | (simp only [f_low, hc1, if_true, if_false, not_true_eq_false, not_false_eq_true, wR, upd, va_up, vp_updL, reduceIte, Nat.reduceEqDiff]; done) | (simp [f_low, hc1, wR, upd, va_up, vp_updL]; done) | (simp_all [f_low, hc1, wR, upd, va_up, vp_updL]; done)) dX10_low_15
set_option maxRecDepth 100000 in
set_option maxHeartbeats 4000000 in
theorem r_high (l : Launch) (g : kG) (h0 : Nat) (ad : Nat → Nat) (i : Nat → Int32) (l_ : Nat → Int64) (a : Nat → Nat → Int32) (h : Nat → Int64) : kM l yX10_high cX10_high 1 (some .int) (rmK 0 0 0 0) g [.ref h0] (wR g h0 ad (i, l_, a, h)) (kDi g (f_high (i, l_, a, h)).1 (wR g h0 ad (f_high (i, l_, a, h)).2)) := by
  refine k_enter (by decide) (Nat.le_of_ble_eq_true rfl) ?_
  intro p e s m args below meth c A F
  refine k_aload_n (n := 1) F dX10_high_0 rfl 0 rfl rfl ?_
  refine k_iconst (n := 2) (v := 0) F dX10_high_1 rfl rfl ?_
  refine k_rput_0 (n := 5) F dX10_high_2 rfl ?_
  refine k_aload_n (n := 6) F dX10_high_5 rfl 0 rfl rfl ?_
  refine k_rget_12 (n := 9) (v := i 12) F rfl dX10_high_6 rfl ?_
  refine k_iconst (n := 10) (v := 3) F dX10_high_9 rfl rfl ?_
  refine k_icmp_eq (n := 13) (tgt := 16) F dX10_high_10 (by decide) rfl (fun hc1 => ?_) (fun hc1 => ?_)
  · refine k_aload_n (n := 17) F dX10_high_16 rfl 0 rfl rfl ?_
    refine k_iconst (n := 18) (v := 2) F dX10_high_17 rfl rfl ?_
    refine k_rput_12 (n := 21) (u' := (upd i 12 2, l_, a, h)) F rfl dX10_high_18 rfl ?_
    refine k_aload_n (n := 22) F dX10_high_21 rfl 0 rfl rfl ?_
    refine k_rget_12 (n := 25) (v := 2) F (show (upd i 12 2) 12 = 2 from pk_us) dX10_high_22 rfl ?_
    exact k_iret F (by first | (simp only [f_high, hc1, if_true, if_false, not_true_eq_false, not_false_eq_true]; done) | (simp only [f_high, hc1, if_true, if_false, not_true_eq_false, not_false_eq_true, upd, va_up, vp_updL, reduceIte, Nat.reduceEqDiff]; done) | (simp [f_high, hc1]; done) | (simp_all [f_high, hc1]; done)) (by first | (simp only [f_high, hc1, if_true, if_false, not_true_eq_false, not_false_eq_true]; done) | (simp only [f_high, hc1, if_true, if_false, not_true_eq_false, not_false_eq_true, wR, upd, va_up, vp_updL, reduceIte, Nat.reduceEqDiff]; done) | (simp [f_high, hc1, wR, upd, va_up, vp_updL]; done) | (simp_all [f_high, hc1, wR, upd, va_up, vp_updL]; done)) dX10_high_25
  · refine k_bipush (n := 15) (v := -2) F dX10_high_13 rfl rfl ?_
    exact k_iret F (by first | (simp only [f_high, hc1, if_true, if_false, not_true_eq_false, not_false_eq_true]; done) | (simp only [f_high, hc1, if_true, if_false, not_true_eq_false, not_false_eq_true, upd, va_up, vp_updL, reduceIte, Nat.reduceEqDiff]; done) | (simp [f_high, hc1]; done) | (simp_all [f_high, hc1]; done)) (by first | (simp only [f_high, hc1, if_true, if_false, not_true_eq_false, not_false_eq_true]; done) | (simp only [f_high, hc1, if_true, if_false, not_true_eq_false, not_false_eq_true, wR, upd, va_up, vp_updL, reduceIte, Nat.reduceEqDiff]; done) | (simp [f_high, hc1, wR, upd, va_up, vp_updL]; done) | (simp_all [f_high, hc1, wR, upd, va_up, vp_updL]; done)) dX10_high_15
set_option maxRecDepth 100000 in
set_option maxHeartbeats 4000000 in
theorem r_trips (l : Launch) (g : kG) (h0 : Nat) (ad : Nat → Nat) (i : Nat → Int32) (l_ : Nat → Int64) (a : Nat → Nat → Int32) (h : Nat → Int64) : kM l yX10_trips cX10_trips 1 none (rmK 0 0 0 0) g [.ref h0] (wR g h0 ad (i, l_, a, h)) (kDv g (wR g h0 ad (s_trips (i, l_, a, h)))) := by
  refine k_enter (by decide) (Nat.le_of_ble_eq_true rfl) ?_
  intro p e s m args below meth c A F
  refine k_aload_n (n := 1) F dX10_trips_0 rfl 0 rfl rfl ?_
  refine k_rget_12 (n := 4) (v := i 12) F rfl dX10_trips_1 rfl ?_
  refine k_iconst (n := 5) (v := 4) F dX10_trips_4 rfl rfl ?_
  refine k_icmp_eq (n := 8) (tgt := 28) F dX10_trips_5 (by decide) rfl (fun hc1 => ?_) (fun hc1 => ?_)
  · exact k_vret F (by first | (simp only [s_trips, s_trip, hc1, if_true, if_false, not_true_eq_false, not_false_eq_true]; done) | (simp only [s_trips, s_trip, hc1, if_true, if_false, not_true_eq_false, not_false_eq_true, wR, upd, va_up, vp_updL, reduceIte, Nat.reduceEqDiff]; done) | (simp [s_trips, s_trip, hc1, wR, upd, va_up, vp_updL]; done) | (simp_all [s_trips, s_trip, hc1, wR, upd, va_up, vp_updL]; done)) dX10_trips_28
  · refine k_aload_n (n := 9) F dX10_trips_8 rfl 0 rfl rfl ?_
    refine k_iconst (n := 10) (v := 4) F dX10_trips_9 rfl rfl ?_
    refine k_rput_12 (n := 13) (u' := (upd i 12 4, l_, a, h)) F rfl dX10_trips_10 rfl ?_
    refine k_aload_n (n := 14) F dX10_trips_13 rfl 0 rfl rfl ?_
    refine k_iconst (n := 15) (v := 0) F dX10_trips_14 rfl rfl ?_
    refine k_rput_13 (n := 18) (u' := (upd (upd i 12 4) 13 0, l_, a, h)) F rfl dX10_trips_15 rfl ?_
    refine k_aload_n (n := 19) F dX10_trips_18 rfl 0 rfl rfl ?_
    refine k_dup (n := 20) F dX10_trips_19 rfl rfl ?_
    refine k_rget_32 (n := 23) (v := i 32) F (show (upd (upd i 12 4) 13 0) 32 = i 32 from (pk_un (k := 13) (j := 32) (by decide)).trans (pk_un (k := 12) (j := 32) (by decide))) dX10_trips_20 rfl ?_
    refine k_iconst (n := 24) (v := 1) F dX10_trips_23 rfl rfl ?_
    refine k_iadd (n := 25) F dX10_trips_24 rfl ?_
    refine k_rput_32 (n := 28) (u' := (upd (upd (upd i 12 4) 13 0) 32 ((i 32) + 1), l_, a, h)) F rfl dX10_trips_25 rfl ?_
    exact k_vret F (by first | (simp only [s_trips, s_trip, hc1, if_true, if_false, not_true_eq_false, not_false_eq_true]; done) | (simp only [s_trips, s_trip, hc1, if_true, if_false, not_true_eq_false, not_false_eq_true, wR, upd, va_up, vp_updL, reduceIte, Nat.reduceEqDiff]; done) | (simp [s_trips, s_trip, hc1, wR, upd, va_up, vp_updL]; done) | (simp_all [s_trips, s_trip, hc1, wR, upd, va_up, vp_updL]; done)) dX10_trips_28
set_option maxRecDepth 100000 in
set_option maxHeartbeats 4000000 in
theorem r_reset (l : Launch) (g : kG) (h0 : Nat) (ad : Nat → Nat) (i : Nat → Int32) (l_ : Nat → Int64) (a : Nat → Nat → Int32) (h : Nat → Int64) : kM l yX10_reset cX10_reset 1 (some .int) (rmK 0 0 0 0) g [.ref h0] (wR g h0 ad (i, l_, a, h)) (kDi g (f_reset (i, l_, a, h)).1 (wR g h0 ad (f_reset (i, l_, a, h)).2)) := by
  refine k_enter (by decide) (Nat.le_of_ble_eq_true rfl) ?_
  intro p e s m args below meth c A F
  refine k_aload_n (n := 1) F dX10_reset_0 rfl 0 rfl rfl ?_
  refine k_iconst (n := 2) (v := 0) F dX10_reset_1 rfl rfl ?_
  refine k_rput_0 (n := 5) F dX10_reset_2 rfl ?_
  refine k_aload_n (n := 6) F dX10_reset_5 rfl 0 rfl rfl ?_
  refine k_rget_12 (n := 9) (v := i 12) F rfl dX10_reset_6 rfl ?_
  refine k_iconst (n := 10) (v := 4) F dX10_reset_9 rfl rfl ?_
  refine k_icmp_ne (n := 13) (tgt := 20) F dX10_reset_10 (by decide) rfl (fun hc1 => ?_) (fun hc1 => ?_)
  · refine k_bipush (n := 22) (v := -2) F dX10_reset_20 rfl rfl ?_
    exact k_iret F (by first | (simp only [f_reset, hc1, if_true, if_false, not_true_eq_false, not_false_eq_true]; done) | (simp only [f_reset, hc1, if_true, if_false, not_true_eq_false, not_false_eq_true, upd, va_up, vp_updL, reduceIte, Nat.reduceEqDiff]; done) | (simp [f_reset, hc1]; done) | (simp_all [f_reset, hc1]; done)) (by first | (simp only [f_reset, hc1, if_true, if_false, not_true_eq_false, not_false_eq_true]; done) | (simp only [f_reset, hc1, if_true, if_false, not_true_eq_false, not_false_eq_true, wR, upd, va_up, vp_updL, reduceIte, Nat.reduceEqDiff]; done) | (simp [f_reset, hc1, wR, upd, va_up, vp_updL]; done) | (simp_all [f_reset, hc1, wR, upd, va_up, vp_updL]; done)) dX10_reset_22
  · refine k_aload_n (n := 14) F dX10_reset_13 rfl 0 rfl rfl ?_
    refine k_rget_16 (n := 17) (v := i 16) F rfl dX10_reset_14 rfl ?_
    refine k_if_ne (n := 20) (tgt := 23) F dX10_reset_17 (by decide) rfl (fun hc2 => ?_) (fun hc2 => ?_)
    · refine k_aload_n (n := 24) F dX10_reset_23 rfl 0 rfl rfl ?_
      refine k_iconst (n := 25) (v := 0) F dX10_reset_24 rfl rfl ?_
      refine k_rput_12 (n := 28) (u' := (upd i 12 0, l_, a, h)) F rfl dX10_reset_25 rfl ?_
      refine k_aload_n (n := 29) F dX10_reset_28 rfl 0 rfl rfl ?_
      refine k_iconst (n := 30) (v := 0) F dX10_reset_29 rfl rfl ?_
      refine k_rput_16 (n := 33) (u' := (upd (upd i 12 0) 16 0, l_, a, h)) F (Or.inl rfl) rfl dX10_reset_30 rfl ?_
      refine k_aload_n (n := 34) F dX10_reset_33 rfl 0 rfl rfl ?_
      refine k_rget_12 (n := 37) (v := 0) F (show (upd (upd i 12 0) 16 0) 12 = 0 from (pk_un (k := 16) (j := 12) (by decide)).trans (pk_us)) dX10_reset_34 rfl ?_
      exact k_iret F (by first | (simp only [f_reset, hc1, hc2, if_true, if_false, not_true_eq_false, not_false_eq_true]; done) | (simp only [f_reset, hc1, hc2, if_true, if_false, not_true_eq_false, not_false_eq_true, upd, va_up, vp_updL, reduceIte, Nat.reduceEqDiff]; done) | (simp [f_reset, hc1, hc2]; done) | (simp_all [f_reset, hc1, hc2]; done)) (by first | (simp only [f_reset, hc1, hc2, if_true, if_false, not_true_eq_false, not_false_eq_true]; done) | (simp only [f_reset, hc1, hc2, if_true, if_false, not_true_eq_false, not_false_eq_true, wR, upd, va_up, vp_updL, reduceIte, Nat.reduceEqDiff]; done) | (simp [f_reset, hc1, hc2, wR, upd, va_up, vp_updL]; done) | (simp_all [f_reset, hc1, hc2, wR, upd, va_up, vp_updL]; done)) dX10_reset_37
    · refine k_bipush (n := 22) (v := -2) F dX10_reset_20 rfl rfl ?_
      exact k_iret F (by first | (simp only [f_reset, hc1, hc2, if_true, if_false, not_true_eq_false, not_false_eq_true]; done) | (simp only [f_reset, hc1, hc2, if_true, if_false, not_true_eq_false, not_false_eq_true, upd, va_up, vp_updL, reduceIte, Nat.reduceEqDiff]; done) | (simp [f_reset, hc1, hc2]; done) | (simp_all [f_reset, hc1, hc2]; done)) (by first | (simp only [f_reset, hc1, hc2, if_true, if_false, not_true_eq_false, not_false_eq_true]; done) | (simp only [f_reset, hc1, hc2, if_true, if_false, not_true_eq_false, not_false_eq_true, wR, upd, va_up, vp_updL, reduceIte, Nat.reduceEqDiff]; done) | (simp [f_reset, hc1, hc2, wR, upd, va_up, vp_updL]; done) | (simp_all [f_reset, hc1, hc2, wR, upd, va_up, vp_updL]; done)) dX10_reset_22
set_option maxRecDepth 100000 in
set_option maxHeartbeats 4000000 in
theorem r_valve (l : Launch) (g : kG) (h0 : Nat) (ad : Nat → Nat) (i : Nat → Int32) (l_ : Nat → Int64) (a : Nat → Nat → Int32) (h : Nat → Int64) (x : Int32) : kM l yX10_valve cX10_valve 2 (some .int) (rmK 0 0 0 0) g [.ref h0, .int x] (wR g h0 ad (i, l_, a, h)) (kDi g (f_valve (i, l_, a, h) x) (wR g h0 ad (i, l_, a, h))) := by
  refine k_enter (by decide) (Nat.le_of_ble_eq_true rfl) ?_
  intro p e s m args below meth c A F
  refine k_aload_n (n := 1) F dX10_valve_0 rfl 0 rfl rfl ?_
  refine k_iconst (n := 2) (v := 0) F dX10_valve_1 rfl rfl ?_
  refine k_rput_0 (n := 5) F dX10_valve_2 rfl ?_
  refine k_iload_n (n := 6) F dX10_valve_5 rfl 1 rfl rfl ?_
  refine k_if_ne (n := 9) (tgt := 24) F dX10_valve_6 (by decide) rfl (fun hc1 => ?_) (fun hc1 => ?_)
  · refine k_iload_n (n := 25) F dX10_valve_24 rfl 1 rfl rfl ?_
    refine k_iconst (n := 26) (v := 1) F dX10_valve_25 rfl rfl ?_
    refine k_icmp_ne (n := 29) (tgt := 44) F dX10_valve_26 (by decide) rfl (fun hc2 => ?_) (fun hc2 => ?_)
    · refine k_iload_n (n := 45) F dX10_valve_44 rfl 1 rfl rfl ?_
      refine k_iconst (n := 46) (v := 2) F dX10_valve_45 rfl rfl ?_
      refine k_icmp_ne (n := 49) (tgt := 64) F dX10_valve_46 (by decide) rfl (fun hc3 => ?_) (fun hc3 => ?_)
      · refine k_iconst (n := 65) (v := -1) F dX10_valve_64 rfl rfl ?_
        exact k_iret F (by first | (simp only [f_valve, hc1, hc2, hc3, if_true, if_false, not_true_eq_false, not_false_eq_true]; done) | (simp only [f_valve, hc1, hc2, hc3, if_true, if_false, not_true_eq_false, not_false_eq_true, upd, va_up, vp_updL, reduceIte, Nat.reduceEqDiff]; done) | (simp [f_valve, hc1, hc2, hc3]; done) | (simp_all [f_valve, hc1, hc2, hc3]; done)) (by first | (simp only [f_valve, hc1, hc2, hc3, if_true, if_false, not_true_eq_false, not_false_eq_true]; done) | (simp only [f_valve, hc1, hc2, hc3, if_true, if_false, not_true_eq_false, not_false_eq_true, wR, upd, va_up, vp_updL, reduceIte, Nat.reduceEqDiff]; done) | (simp [f_valve, hc1, hc2, hc3, wR, upd, va_up, vp_updL]; done) | (simp_all [f_valve, hc1, hc2, hc3, wR, upd, va_up, vp_updL]; done)) dX10_valve_65
      · refine k_aload_n (n := 50) F dX10_valve_49 rfl 0 rfl rfl ?_
        refine k_rget_16 (n := 53) (v := i 16) F rfl dX10_valve_50 rfl ?_
        refine k_if_eq (n := 56) (tgt := 60) F dX10_valve_53 (by decide) rfl (fun hc4 => ?_) (fun hc4 => ?_)
        · refine k_iconst (n := 61) (v := 0) F dX10_valve_60 rfl rfl ?_
          refine k_goto (tgt := 65) F dX10_valve_61 (by decide) ?_
          exact k_iret F (by first | (simp only [f_valve, hc1, hc2, hc3, hc4, if_true, if_false, not_true_eq_false, not_false_eq_true]; done) | (simp only [f_valve, hc1, hc2, hc3, hc4, if_true, if_false, not_true_eq_false, not_false_eq_true, upd, va_up, vp_updL, reduceIte, Nat.reduceEqDiff]; done) | (simp [f_valve, hc1, hc2, hc3, hc4]; done) | (simp_all [f_valve, hc1, hc2, hc3, hc4]; done)) (by first | (simp only [f_valve, hc1, hc2, hc3, hc4, if_true, if_false, not_true_eq_false, not_false_eq_true]; done) | (simp only [f_valve, hc1, hc2, hc3, hc4, if_true, if_false, not_true_eq_false, not_false_eq_true, wR, upd, va_up, vp_updL, reduceIte, Nat.reduceEqDiff]; done) | (simp [f_valve, hc1, hc2, hc3, hc4, wR, upd, va_up, vp_updL]; done) | (simp_all [f_valve, hc1, hc2, hc3, hc4, wR, upd, va_up, vp_updL]; done)) dX10_valve_65
        · refine k_iconst (n := 57) (v := 1) F dX10_valve_56 rfl rfl ?_
          refine k_goto (tgt := 65) F dX10_valve_57 (by decide) ?_
          exact k_iret F (by first | (simp only [f_valve, hc1, hc2, hc3, hc4, if_true, if_false, not_true_eq_false, not_false_eq_true]; done) | (simp only [f_valve, hc1, hc2, hc3, hc4, if_true, if_false, not_true_eq_false, not_false_eq_true, upd, va_up, vp_updL, reduceIte, Nat.reduceEqDiff]; done) | (simp [f_valve, hc1, hc2, hc3, hc4]; done) | (simp_all [f_valve, hc1, hc2, hc3, hc4]; done)) (by first | (simp only [f_valve, hc1, hc2, hc3, hc4, if_true, if_false, not_true_eq_false, not_false_eq_true]; done) | (simp only [f_valve, hc1, hc2, hc3, hc4, if_true, if_false, not_true_eq_false, not_false_eq_true, wR, upd, va_up, vp_updL, reduceIte, Nat.reduceEqDiff]; done) | (simp [f_valve, hc1, hc2, hc3, hc4, wR, upd, va_up, vp_updL]; done) | (simp_all [f_valve, hc1, hc2, hc3, hc4, wR, upd, va_up, vp_updL]; done)) dX10_valve_65
    · refine k_aload_n (n := 30) F dX10_valve_29 rfl 0 rfl rfl ?_
      refine k_rget_15 (n := 33) (v := i 15) F rfl dX10_valve_30 rfl ?_
      refine k_if_eq (n := 36) (tgt := 40) F dX10_valve_33 (by decide) rfl (fun hc5 => ?_) (fun hc5 => ?_)
      · refine k_iconst (n := 41) (v := 0) F dX10_valve_40 rfl rfl ?_
        refine k_goto (tgt := 65) F dX10_valve_41 (by decide) ?_
        exact k_iret F (by first | (simp only [f_valve, hc1, hc2, hc5, if_true, if_false, not_true_eq_false, not_false_eq_true]; done) | (simp only [f_valve, hc1, hc2, hc5, if_true, if_false, not_true_eq_false, not_false_eq_true, upd, va_up, vp_updL, reduceIte, Nat.reduceEqDiff]; done) | (simp [f_valve, hc1, hc2, hc5]; done) | (simp_all [f_valve, hc1, hc2, hc5]; done)) (by first | (simp only [f_valve, hc1, hc2, hc5, if_true, if_false, not_true_eq_false, not_false_eq_true]; done) | (simp only [f_valve, hc1, hc2, hc5, if_true, if_false, not_true_eq_false, not_false_eq_true, wR, upd, va_up, vp_updL, reduceIte, Nat.reduceEqDiff]; done) | (simp [f_valve, hc1, hc2, hc5, wR, upd, va_up, vp_updL]; done) | (simp_all [f_valve, hc1, hc2, hc5, wR, upd, va_up, vp_updL]; done)) dX10_valve_65
      · refine k_iconst (n := 37) (v := 1) F dX10_valve_36 rfl rfl ?_
        refine k_goto (tgt := 65) F dX10_valve_37 (by decide) ?_
        exact k_iret F (by first | (simp only [f_valve, hc1, hc2, hc5, if_true, if_false, not_true_eq_false, not_false_eq_true]; done) | (simp only [f_valve, hc1, hc2, hc5, if_true, if_false, not_true_eq_false, not_false_eq_true, upd, va_up, vp_updL, reduceIte, Nat.reduceEqDiff]; done) | (simp [f_valve, hc1, hc2, hc5]; done) | (simp_all [f_valve, hc1, hc2, hc5]; done)) (by first | (simp only [f_valve, hc1, hc2, hc5, if_true, if_false, not_true_eq_false, not_false_eq_true]; done) | (simp only [f_valve, hc1, hc2, hc5, if_true, if_false, not_true_eq_false, not_false_eq_true, wR, upd, va_up, vp_updL, reduceIte, Nat.reduceEqDiff]; done) | (simp [f_valve, hc1, hc2, hc5, wR, upd, va_up, vp_updL]; done) | (simp_all [f_valve, hc1, hc2, hc5, wR, upd, va_up, vp_updL]; done)) dX10_valve_65
  · refine k_aload_n (n := 10) F dX10_valve_9 rfl 0 rfl rfl ?_
    refine k_rget_14 (n := 13) (v := i 14) F rfl dX10_valve_10 rfl ?_
    refine k_if_eq (n := 16) (tgt := 20) F dX10_valve_13 (by decide) rfl (fun hc6 => ?_) (fun hc6 => ?_)
    · refine k_iconst (n := 21) (v := 0) F dX10_valve_20 rfl rfl ?_
      refine k_goto (tgt := 65) F dX10_valve_21 (by decide) ?_
      exact k_iret F (by first | (simp only [f_valve, hc1, hc6, if_true, if_false, not_true_eq_false, not_false_eq_true]; done) | (simp only [f_valve, hc1, hc6, if_true, if_false, not_true_eq_false, not_false_eq_true, upd, va_up, vp_updL, reduceIte, Nat.reduceEqDiff]; done) | (simp [f_valve, hc1, hc6]; done) | (simp_all [f_valve, hc1, hc6]; done)) (by first | (simp only [f_valve, hc1, hc6, if_true, if_false, not_true_eq_false, not_false_eq_true]; done) | (simp only [f_valve, hc1, hc6, if_true, if_false, not_true_eq_false, not_false_eq_true, wR, upd, va_up, vp_updL, reduceIte, Nat.reduceEqDiff]; done) | (simp [f_valve, hc1, hc6, wR, upd, va_up, vp_updL]; done) | (simp_all [f_valve, hc1, hc6, wR, upd, va_up, vp_updL]; done)) dX10_valve_65
    · refine k_iconst (n := 17) (v := 1) F dX10_valve_16 rfl rfl ?_
      refine k_goto (tgt := 65) F dX10_valve_17 (by decide) ?_
      exact k_iret F (by first | (simp only [f_valve, hc1, hc6, if_true, if_false, not_true_eq_false, not_false_eq_true]; done) | (simp only [f_valve, hc1, hc6, if_true, if_false, not_true_eq_false, not_false_eq_true, upd, va_up, vp_updL, reduceIte, Nat.reduceEqDiff]; done) | (simp [f_valve, hc1, hc6]; done) | (simp_all [f_valve, hc1, hc6]; done)) (by first | (simp only [f_valve, hc1, hc6, if_true, if_false, not_true_eq_false, not_false_eq_true]; done) | (simp only [f_valve, hc1, hc6, if_true, if_false, not_true_eq_false, not_false_eq_true, wR, upd, va_up, vp_updL, reduceIte, Nat.reduceEqDiff]; done) | (simp [f_valve, hc1, hc6, wR, upd, va_up, vp_updL]; done) | (simp_all [f_valve, hc1, hc6, wR, upd, va_up, vp_updL]; done)) dX10_valve_65
set_option maxRecDepth 100000 in
set_option maxHeartbeats 4000000 in
theorem r_back (l : Launch) (g : kG) (h0 : Nat) (ad : Nat → Nat) (i : Nat → Int32) (l_ : Nat → Int64) (a : Nat → Nat → Int32) (h : Nat → Int64) (n : Int32) : kM l yX10_back cX10_back 2 (some .int) (rmK 0 0 0 0) g [.ref h0, .int n] (wR g h0 ad (i, l_, a, h)) (kDi g (f_back (i, l_, a, h) n).1 (wR g h0 ad (f_back (i, l_, a, h) n).2)) := by
  refine k_enter (by decide) (Nat.le_of_ble_eq_true rfl) ?_
  intro p e s m args below meth c A F
  refine k_aload_n (n := 1) F dX10_back_0 rfl 0 rfl rfl ?_
  refine k_iconst (n := 2) (v := 0) F dX10_back_1 rfl rfl ?_
  refine k_rput_0 (n := 5) F dX10_back_2 rfl ?_
  refine k_iload_n (n := 6) F dX10_back_5 rfl 1 rfl rfl ?_
  refine k_iconst (n := 7) (v := 1) F dX10_back_6 rfl rfl ?_
  refine k_icmp_ge (n := 10) (tgt := 12) F dX10_back_7 (by decide) rfl (fun hc1 => ?_) (fun hc1 => ?_)
  · refine k_iload_n (n := 13) F dX10_back_12 rfl 1 rfl rfl ?_
    refine k_aload_n (n := 14) F dX10_back_13 rfl 0 rfl rfl ?_
    refine k_rget_18 (n := 17) (v := i 18) F rfl dX10_back_14 rfl ?_
    refine k_icmp_gt (n := 20) (tgt := 35) F dX10_back_17 (by decide) rfl (fun hc2 => ?_) (fun hc2 => ?_)
    · refine k_bipush (n := 37) (v := -2) F dX10_back_35 rfl rfl ?_
      exact k_iret F (by first | (simp only [f_back, hc1, Int32.not_lt.mpr hc1, hc2, Int32.not_le.mpr hc2, if_true, if_false, not_true_eq_false, not_false_eq_true]; done) | (simp only [f_back, hc1, Int32.not_lt.mpr hc1, hc2, Int32.not_le.mpr hc2, if_true, if_false, not_true_eq_false, not_false_eq_true, upd, va_up, vp_updL, reduceIte, Nat.reduceEqDiff]; done) | (simp [f_back, hc1, Int32.not_lt.mpr hc1, hc2, Int32.not_le.mpr hc2]; done) | (simp_all [f_back, hc1, Int32.not_lt.mpr hc1, hc2, Int32.not_le.mpr hc2]; done)) (by first | (simp only [f_back, hc1, Int32.not_lt.mpr hc1, hc2, Int32.not_le.mpr hc2, if_true, if_false, not_true_eq_false, not_false_eq_true]; done) | (simp only [f_back, hc1, Int32.not_lt.mpr hc1, hc2, Int32.not_le.mpr hc2, if_true, if_false, not_true_eq_false, not_false_eq_true, wR, upd, va_up, vp_updL, reduceIte, Nat.reduceEqDiff]; done) | (simp [f_back, hc1, Int32.not_lt.mpr hc1, hc2, Int32.not_le.mpr hc2, wR, upd, va_up, vp_updL]; done) | (simp_all [f_back, hc1, Int32.not_lt.mpr hc1, hc2, Int32.not_le.mpr hc2, wR, upd, va_up, vp_updL]; done)) dX10_back_37
    · refine k_iload_n (n := 21) F dX10_back_20 rfl 1 rfl rfl ?_
      refine k_aload_n (n := 22) F dX10_back_21 rfl 0 rfl rfl ?_
      refine k_rget_10 (n := 25) F dX10_back_22 rfl ?_
      refine k_iconst (n := 26) (v := 3) F dX10_back_25 rfl rfl ?_
      refine k_rald_10 (n := 27) (N := 3) (f := a 10) F rfl (kIx_nI (j := 3) (by decide) (by decide)) dX10_back_26 rfl ?_
      refine k_aload_n (n := 28) F dX10_back_27 rfl 0 rfl rfl ?_
      refine k_rget_17 (n := 31) (v := i 17) F rfl dX10_back_28 rfl ?_
      refine k_isub (n := 32) F dX10_back_31 rfl ?_
      refine k_icmp_le (n := 35) (tgt := 38) F dX10_back_32 (by decide) rfl (fun hc3 => ?_) (fun hc3 => ?_)
      · refine k_aload_n (n := 39) F dX10_back_38 rfl 0 rfl rfl ?_
        refine k_dup (n := 40) F dX10_back_39 rfl rfl ?_
        refine k_rget_18 (n := 43) (v := i 18) F rfl dX10_back_40 rfl ?_
        refine k_iload_n (n := 44) F dX10_back_43 rfl 1 rfl rfl ?_
        refine k_isub (n := 45) F dX10_back_44 rfl ?_
        refine k_rput_18 (n := 48) (u' := (upd i 18 ((i 18) - n), l_, a, h)) F rfl dX10_back_45 rfl ?_
        refine k_aload_n (n := 49) F dX10_back_48 rfl 0 rfl rfl ?_
        refine k_dup (n := 50) F dX10_back_49 rfl rfl ?_
        refine k_rget_17 (n := 53) (v := i 17) F (show (upd i 18 ((i 18) - n)) 17 = i 17 from pk_un (k := 18) (j := 17) (by decide)) dX10_back_50 rfl ?_
        refine k_iload_n (n := 54) F dX10_back_53 rfl 1 rfl rfl ?_
        refine k_iadd (n := 55) F dX10_back_54 rfl ?_
        refine k_rput_17 (n := 58) (u' := (upd (upd i 18 ((i 18) - n)) 17 ((i 17) + n), l_, a, h)) F rfl dX10_back_55 rfl ?_
        refine k_aload_n (n := 59) F dX10_back_58 rfl 0 rfl rfl ?_
        refine k_rget_17 (n := 62) (v := (i 17) + n) F (show (upd (upd i 18 ((i 18) - n)) 17 ((i 17) + n)) 17 = (i 17) + n from pk_us) dX10_back_59 rfl ?_
        exact k_iret F (by first | (simp only [f_back, hc1, Int32.not_lt.mpr hc1, hc2, Int32.not_lt.mp hc2, hc3, Int32.not_lt.mpr hc3, if_true, if_false, not_true_eq_false, not_false_eq_true]; done) | (simp only [f_back, hc1, Int32.not_lt.mpr hc1, hc2, Int32.not_lt.mp hc2, hc3, Int32.not_lt.mpr hc3, if_true, if_false, not_true_eq_false, not_false_eq_true, upd, va_up, vp_updL, reduceIte, Nat.reduceEqDiff]; done) | (simp [f_back, hc1, Int32.not_lt.mpr hc1, hc2, Int32.not_lt.mp hc2, hc3, Int32.not_lt.mpr hc3]; done) | (simp_all [f_back, hc1, Int32.not_lt.mpr hc1, hc2, Int32.not_lt.mp hc2, hc3, Int32.not_lt.mpr hc3]; done)) (by first | (simp only [f_back, hc1, Int32.not_lt.mpr hc1, hc2, Int32.not_lt.mp hc2, hc3, Int32.not_lt.mpr hc3, if_true, if_false, not_true_eq_false, not_false_eq_true]; done) | (simp only [f_back, hc1, Int32.not_lt.mpr hc1, hc2, Int32.not_lt.mp hc2, hc3, Int32.not_lt.mpr hc3, if_true, if_false, not_true_eq_false, not_false_eq_true, wR, upd, va_up, vp_updL, reduceIte, Nat.reduceEqDiff]; done) | (simp [f_back, hc1, Int32.not_lt.mpr hc1, hc2, Int32.not_lt.mp hc2, hc3, Int32.not_lt.mpr hc3, wR, upd, va_up, vp_updL]; done) | (simp_all [f_back, hc1, Int32.not_lt.mpr hc1, hc2, Int32.not_lt.mp hc2, hc3, Int32.not_lt.mpr hc3, wR, upd, va_up, vp_updL]; done)) dX10_back_62
      · refine k_bipush (n := 37) (v := -2) F dX10_back_35 rfl rfl ?_
        exact k_iret F (by first | (simp only [f_back, hc1, Int32.not_lt.mpr hc1, hc2, Int32.not_lt.mp hc2, hc3, Int32.not_le.mp hc3, if_true, if_false, not_true_eq_false, not_false_eq_true]; done) | (simp only [f_back, hc1, Int32.not_lt.mpr hc1, hc2, Int32.not_lt.mp hc2, hc3, Int32.not_le.mp hc3, if_true, if_false, not_true_eq_false, not_false_eq_true, upd, va_up, vp_updL, reduceIte, Nat.reduceEqDiff]; done) | (simp [f_back, hc1, Int32.not_lt.mpr hc1, hc2, Int32.not_lt.mp hc2, hc3, Int32.not_le.mp hc3]; done) | (simp_all [f_back, hc1, Int32.not_lt.mpr hc1, hc2, Int32.not_lt.mp hc2, hc3, Int32.not_le.mp hc3]; done)) (by first | (simp only [f_back, hc1, Int32.not_lt.mpr hc1, hc2, Int32.not_lt.mp hc2, hc3, Int32.not_le.mp hc3, if_true, if_false, not_true_eq_false, not_false_eq_true]; done) | (simp only [f_back, hc1, Int32.not_lt.mpr hc1, hc2, Int32.not_lt.mp hc2, hc3, Int32.not_le.mp hc3, if_true, if_false, not_true_eq_false, not_false_eq_true, wR, upd, va_up, vp_updL, reduceIte, Nat.reduceEqDiff]; done) | (simp [f_back, hc1, Int32.not_lt.mpr hc1, hc2, Int32.not_lt.mp hc2, hc3, Int32.not_le.mp hc3, wR, upd, va_up, vp_updL]; done) | (simp_all [f_back, hc1, Int32.not_lt.mpr hc1, hc2, Int32.not_lt.mp hc2, hc3, Int32.not_le.mp hc3, wR, upd, va_up, vp_updL]; done)) dX10_back_37
  · refine k_iconst (n := 11) (v := -1) F dX10_back_10 rfl rfl ?_
    exact k_iret F (by first | (simp only [f_back, hc1, Int32.not_le.mp hc1, if_true, if_false, not_true_eq_false, not_false_eq_true]; done) | (simp only [f_back, hc1, Int32.not_le.mp hc1, if_true, if_false, not_true_eq_false, not_false_eq_true, upd, va_up, vp_updL, reduceIte, Nat.reduceEqDiff]; done) | (simp [f_back, hc1, Int32.not_le.mp hc1]; done) | (simp_all [f_back, hc1, Int32.not_le.mp hc1]; done)) (by first | (simp only [f_back, hc1, Int32.not_le.mp hc1, if_true, if_false, not_true_eq_false, not_false_eq_true]; done) | (simp only [f_back, hc1, Int32.not_le.mp hc1, if_true, if_false, not_true_eq_false, not_false_eq_true, wR, upd, va_up, vp_updL, reduceIte, Nat.reduceEqDiff]; done) | (simp [f_back, hc1, Int32.not_le.mp hc1, wR, upd, va_up, vp_updL]; done) | (simp_all [f_back, hc1, Int32.not_le.mp hc1, wR, upd, va_up, vp_updL]; done)) dX10_back_11
set_option maxRecDepth 100000 in
set_option maxHeartbeats 4000000 in
theorem r_lose (l : Launch) (g : kG) (h0 : Nat) (ad : Nat → Nat) (i : Nat → Int32) (l_ : Nat → Int64) (a : Nat → Nat → Int32) (h : Nat → Int64) (x v : Int32) (hv : v = 0 ∨ v = 1) : kM l yX10_lose cX10_lose 4 (some .int) (rmK 1 0 0 22) g [.ref h0, .int x, .int v] (wR g h0 ad (i, l_, a, h)) (kDi g (f_lose (i, l_, a, h) x v).1 (wR g h0 ad (f_lose (i, l_, a, h) x v).2)) := by
  refine k_enter (by decide) (Nat.le_of_ble_eq_true rfl) ?_
  intro p e s m args below meth c A F
  refine k_aload_n (n := 1) F dX10_lose_0 rfl 0 rfl rfl ?_
  refine k_iconst (n := 2) (v := 0) F dX10_lose_1 rfl rfl ?_
  refine k_rput_0 (n := 5) F dX10_lose_2 rfl ?_
  refine k_iload_n (n := 6) F dX10_lose_5 rfl 1 rfl rfl ?_
  refine k_iconst (n := 7) (v := 0) F dX10_lose_6 rfl rfl ?_
  refine k_iconst (n := 8) (v := 3) F dX10_lose_7 rfl rfl ?_
  refine k_ciR (n := 11) F (k_rS (k := 3) (As := [.int x, .int 0, .int 3]) (rest := []) F (c_in l g x 0 3) [] rfl rfl mw_693 mw_691 mw_692 mw_9 (by decide) ⟨by decide, by decide⟩ rfl (Nat.le_of_ble_eq_true rfl) ⟨by decide, by decide⟩ dX10_lose_8) [] rfl rfl ?_
  refine k_if_ne (n := 14) (tgt := 16) F dX10_lose_11 (by decide) rfl (fun hc1 => ?_) (fun hc1 => ?_)
  · refine k_aload_n (n := 17) F dX10_lose_16 rfl 0 rfl rfl ?_
    refine k_rget_33 (n := 20) F dX10_lose_17 rfl ?_
    refine k_iload_n (n := 21) F dX10_lose_20 rfl 1 rfl rfl ?_
    refine k_rald_33 (n := 22) (N := x.toNatClampNeg) (f := a 33) F rfl (kIx_m hc1) dX10_lose_21 rfl ?_
    refine k_if_eq (n := 25) (tgt := 29) F dX10_lose_22 (by decide) rfl (fun hc2 => ?_) (fun hc2 => ?_)
    · refine k_iconst (n := 30) (v := 0) F dX10_lose_29 rfl rfl ?_
      refine k_istore_n (n := 31) (lv' := [(3, .int 0), (0, .ref h0), (1, .int x), (2, .int v)]) F dX10_lose_30 rfl (by decide) rfl rfl ?_
      refine k_aload_n (n := 32) F dX10_lose_31 rfl 1 rfl rfl ?_
      refine k_rget_33 (n := 35) F dX10_lose_32 rfl ?_
      refine k_iload_n (n := 36) F dX10_lose_35 rfl 2 rfl rfl ?_
      refine k_iload_n (n := 37) F dX10_lose_36 rfl 3 rfl rfl ?_
      refine k_rast_33 (n := 38) (N := x.toNatClampNeg) (f := a 33) (u' := (i, l_, va_up a 33 (upd (a 33) x.toNatClampNeg v), h)) F rfl (kIx_m hc1) (kZv hv) rfl dX10_lose_37 rfl ?_
      refine k_iload_n (n := 39) F dX10_lose_38 rfl 0 rfl rfl ?_
      exact k_iret F (by first | (simp only [f_lose, hc1, hc2, if_true, if_false, not_true_eq_false, not_false_eq_true]; done) | (simp only [f_lose, hc1, hc2, if_true, if_false, not_true_eq_false, not_false_eq_true, upd, va_up, vp_updL, reduceIte, Nat.reduceEqDiff]; done) | (simp [f_lose, hc1, hc2]; done) | (simp_all [f_lose, hc1, hc2]; done)) (by first | (simp only [f_lose, hc1, hc2, if_true, if_false, not_true_eq_false, not_false_eq_true]; done) | (simp only [f_lose, hc1, hc2, if_true, if_false, not_true_eq_false, not_false_eq_true, wR, upd, va_up, vp_updL, reduceIte, Nat.reduceEqDiff]; done) | (simp [f_lose, hc1, hc2, wR, upd, va_up, vp_updL]; done) | (simp_all [f_lose, hc1, hc2, wR, upd, va_up, vp_updL]; done)) dX10_lose_39
    · refine k_iconst (n := 26) (v := 1) F dX10_lose_25 rfl rfl ?_
      refine k_goto (tgt := 30) F dX10_lose_26 (by decide) ?_
      refine k_istore_n (n := 31) (lv' := [(3, .int 1), (0, .ref h0), (1, .int x), (2, .int v)]) F dX10_lose_30 rfl (by decide) rfl rfl ?_
      refine k_aload_n (n := 32) F dX10_lose_31 rfl 1 rfl rfl ?_
      refine k_rget_33 (n := 35) F dX10_lose_32 rfl ?_
      refine k_iload_n (n := 36) F dX10_lose_35 rfl 2 rfl rfl ?_
      refine k_iload_n (n := 37) F dX10_lose_36 rfl 3 rfl rfl ?_
      refine k_rast_33 (n := 38) (N := x.toNatClampNeg) (f := a 33) (u' := (i, l_, va_up a 33 (upd (a 33) x.toNatClampNeg v), h)) F rfl (kIx_m hc1) (kZv hv) rfl dX10_lose_37 rfl ?_
      refine k_iload_n (n := 39) F dX10_lose_38 rfl 0 rfl rfl ?_
      exact k_iret F (by first | (simp only [f_lose, hc1, hc2, if_true, if_false, not_true_eq_false, not_false_eq_true]; done) | (simp only [f_lose, hc1, hc2, if_true, if_false, not_true_eq_false, not_false_eq_true, upd, va_up, vp_updL, reduceIte, Nat.reduceEqDiff]; done) | (simp [f_lose, hc1, hc2]; done) | (simp_all [f_lose, hc1, hc2]; done)) (by first | (simp only [f_lose, hc1, hc2, if_true, if_false, not_true_eq_false, not_false_eq_true]; done) | (simp only [f_lose, hc1, hc2, if_true, if_false, not_true_eq_false, not_false_eq_true, wR, upd, va_up, vp_updL, reduceIte, Nat.reduceEqDiff]; done) | (simp [f_lose, hc1, hc2, wR, upd, va_up, vp_updL]; done) | (simp_all [f_lose, hc1, hc2, wR, upd, va_up, vp_updL]; done)) dX10_lose_39
  · refine k_iconst (n := 15) (v := -1) F dX10_lose_14 rfl rfl ?_
    exact k_iret F (by first | (simp only [f_lose, hc1, if_true, if_false, not_true_eq_false, not_false_eq_true]; done) | (simp only [f_lose, hc1, if_true, if_false, not_true_eq_false, not_false_eq_true, upd, va_up, vp_updL, reduceIte, Nat.reduceEqDiff]; done) | (simp [f_lose, hc1]; done) | (simp_all [f_lose, hc1]; done)) (by first | (simp only [f_lose, hc1, if_true, if_false, not_true_eq_false, not_false_eq_true]; done) | (simp only [f_lose, hc1, if_true, if_false, not_true_eq_false, not_false_eq_true, wR, upd, va_up, vp_updL, reduceIte, Nat.reduceEqDiff]; done) | (simp [f_lose, hc1, wR, upd, va_up, vp_updL]; done) | (simp_all [f_lose, hc1, wR, upd, va_up, vp_updL]; done)) dX10_lose_15
set_option maxRecDepth 100000 in
set_option maxHeartbeats 4000000 in
theorem r_reads (l : Launch) (g : kG) (h0 : Nat) (ad : Nat → Nat) (i : Nat → Int32) (l_ : Nat → Int64) (a : Nat → Nat → Int32) (h : Nat → Int64) (x : Int32) : kM l yX10_reads cX10_reads 2 (some .long) (rmK 0 0 0 0) g [.ref h0, .int x] (wR g h0 ad (i, l_, a, h)) (kDl g (rdR (i, l_, a, h) x) (wR g h0 ad (i, l_, a, h))) := by
  refine k_enter (by decide) (Nat.le_of_ble_eq_true rfl) ?_
  intro p e s m args below meth c A F
  refine k_iload_n (n := 1) F dX10_reads_0 rfl 1 rfl rfl ?_
  refine k_if_ne (n := 4) (tgt := 11) F dX10_reads_1 (by decide) rfl (fun hc1 => ?_) (fun hc1 => ?_)
  · refine k_iload_n (n := 12) F dX10_reads_11 rfl 1 rfl rfl ?_
    refine k_iconst (n := 13) (v := 1) F dX10_reads_12 rfl rfl ?_
    refine k_icmp_ne (n := 16) (tgt := 23) F dX10_reads_13 (by decide) rfl (fun hc2 => ?_) (fun hc2 => ?_)
    · refine k_iload_n (n := 24) F dX10_reads_23 rfl 1 rfl rfl ?_
      refine k_iconst (n := 25) (v := 2) F dX10_reads_24 rfl rfl ?_
      refine k_icmp_ne (n := 28) (tgt := 35) F dX10_reads_25 (by decide) rfl (fun hc3 => ?_) (fun hc3 => ?_)
      · refine k_aload_n (n := 36) F dX10_reads_35 rfl 0 rfl rfl ?_
        refine k_rget_17 (n := 39) (v := i 17) F rfl dX10_reads_36 rfl ?_
        refine k_i2l (n := 40) F dX10_reads_39 rfl ?_
        refine k_aload_n (n := 41) F dX10_reads_40 rfl 0 rfl rfl ?_
        refine k_rget_18 (n := 44) (v := i 18) F rfl dX10_reads_41 rfl ?_
        refine k_i2l (n := 45) F dX10_reads_44 rfl ?_
        refine k_ladd (n := 46) F dX10_reads_45 rfl ?_
        exact k_lret F (by first | (simp only [rdR, hc1, hc2, hc3, if_true, if_false, not_true_eq_false, not_false_eq_true]; done) | (simp only [rdR, hc1, hc2, hc3, if_true, if_false, not_true_eq_false, not_false_eq_true, upd, va_up, vp_updL, reduceIte, Nat.reduceEqDiff]; done) | (simp [rdR, hc1, hc2, hc3]; done) | (simp_all [rdR, hc1, hc2, hc3]; done)) (by first | (simp only [rdR, hc1, hc2, hc3, if_true, if_false, not_true_eq_false, not_false_eq_true]; done) | (simp only [rdR, hc1, hc2, hc3, if_true, if_false, not_true_eq_false, not_false_eq_true, wR, upd, va_up, vp_updL, reduceIte, Nat.reduceEqDiff]; done) | (simp [rdR, hc1, hc2, hc3, wR, upd, va_up, vp_updL]; done) | (simp_all [rdR, hc1, hc2, hc3, wR, upd, va_up, vp_updL]; done)) dX10_reads_46
      · refine k_aload_n (n := 29) F dX10_reads_28 rfl 0 rfl rfl ?_
        refine k_rget_21 (n := 32) (v := l_ 21) F rfl dX10_reads_29 rfl ?_
        refine k_goto (tgt := 46) F dX10_reads_32 (by decide) ?_
        exact k_lret F (by first | (simp only [rdR, hc1, hc2, hc3, if_true, if_false, not_true_eq_false, not_false_eq_true]; done) | (simp only [rdR, hc1, hc2, hc3, if_true, if_false, not_true_eq_false, not_false_eq_true, upd, va_up, vp_updL, reduceIte, Nat.reduceEqDiff]; done) | (simp [rdR, hc1, hc2, hc3]; done) | (simp_all [rdR, hc1, hc2, hc3]; done)) (by first | (simp only [rdR, hc1, hc2, hc3, if_true, if_false, not_true_eq_false, not_false_eq_true]; done) | (simp only [rdR, hc1, hc2, hc3, if_true, if_false, not_true_eq_false, not_false_eq_true, wR, upd, va_up, vp_updL, reduceIte, Nat.reduceEqDiff]; done) | (simp [rdR, hc1, hc2, hc3, wR, upd, va_up, vp_updL]; done) | (simp_all [rdR, hc1, hc2, hc3, wR, upd, va_up, vp_updL]; done)) dX10_reads_46
    · refine k_aload_n (n := 17) F dX10_reads_16 rfl 0 rfl rfl ?_
      refine k_rget_20 (n := 20) (v := l_ 20) F rfl dX10_reads_17 rfl ?_
      refine k_goto (tgt := 46) F dX10_reads_20 (by decide) ?_
      exact k_lret F (by first | (simp only [rdR, hc1, hc2, if_true, if_false, not_true_eq_false, not_false_eq_true]; done) | (simp only [rdR, hc1, hc2, if_true, if_false, not_true_eq_false, not_false_eq_true, upd, va_up, vp_updL, reduceIte, Nat.reduceEqDiff]; done) | (simp [rdR, hc1, hc2]; done) | (simp_all [rdR, hc1, hc2]; done)) (by first | (simp only [rdR, hc1, hc2, if_true, if_false, not_true_eq_false, not_false_eq_true]; done) | (simp only [rdR, hc1, hc2, if_true, if_false, not_true_eq_false, not_false_eq_true, wR, upd, va_up, vp_updL, reduceIte, Nat.reduceEqDiff]; done) | (simp [rdR, hc1, hc2, wR, upd, va_up, vp_updL]; done) | (simp_all [rdR, hc1, hc2, wR, upd, va_up, vp_updL]; done)) dX10_reads_46
  · refine k_aload_n (n := 5) F dX10_reads_4 rfl 0 rfl rfl ?_
    refine k_rget_19 (n := 8) (v := l_ 19) F rfl dX10_reads_5 rfl ?_
    refine k_goto (tgt := 46) F dX10_reads_8 (by decide) ?_
    exact k_lret F (by first | (simp only [rdR, hc1, if_true, if_false, not_true_eq_false, not_false_eq_true]; done) | (simp only [rdR, hc1, if_true, if_false, not_true_eq_false, not_false_eq_true, upd, va_up, vp_updL, reduceIte, Nat.reduceEqDiff]; done) | (simp [rdR, hc1]; done) | (simp_all [rdR, hc1]; done)) (by first | (simp only [rdR, hc1, if_true, if_false, not_true_eq_false, not_false_eq_true]; done) | (simp only [rdR, hc1, if_true, if_false, not_true_eq_false, not_false_eq_true, wR, upd, va_up, vp_updL, reduceIte, Nat.reduceEqDiff]; done) | (simp [rdR, hc1, wR, upd, va_up, vp_updL]; done) | (simp_all [rdR, hc1, wR, upd, va_up, vp_updL]; done)) dX10_reads_46
set_option maxRecDepth 100000 in
set_option maxHeartbeats 4000000 in
theorem r_meter (l : Launch) (g : kG) (h0 : Nat) (ad : Nat → Nat) (i : Nat → Int32) (l_ : Nat → Int64) (a : Nat → Nat → Int32) (h : Nat → Int64) (x : Int32) (h17 : (i 17 + i 18).toInt64 = (i 17).toInt64 + (i 18).toInt64) : kM l yX10_meter cX10_meter 2 (some .long) (rmK 1 0 0 22) g [.ref h0, .int x] (wR g h0 ad (i, l_, a, h)) (kDl g (f_meter (i, l_, a, h) x) (wR g h0 ad (i, l_, a, h))) := by
  refine k_enter (by decide) (Nat.le_of_ble_eq_true rfl) ?_
  intro p e s m args below meth c A F
  refine k_aload_n (n := 1) F dX10_meter_0 rfl 0 rfl rfl ?_
  refine k_iconst (n := 2) (v := 0) F dX10_meter_1 rfl rfl ?_
  refine k_rput_0 (n := 5) F dX10_meter_2 rfl ?_
  refine k_iload_n (n := 6) F dX10_meter_5 rfl 1 rfl rfl ?_
  refine k_iconst (n := 7) (v := 0) F dX10_meter_6 rfl rfl ?_
  refine k_iconst (n := 8) (v := 3) F dX10_meter_7 rfl rfl ?_
  refine k_ciR (n := 11) F (k_rS (k := 3) (As := [.int x, .int 0, .int 3]) (rest := []) F (c_in l g x 0 3) [] rfl rfl mw_693 mw_691 mw_692 mw_9 (by decide) ⟨by decide, by decide⟩ rfl (Nat.le_of_ble_eq_true rfl) ⟨by decide, by decide⟩ dX10_meter_8) [] rfl rfl ?_
  refine k_if_ne (n := 14) (tgt := 20) F dX10_meter_11 (by decide) rfl (fun hc1 => ?_) (fun hc1 => ?_)
  · refine k_aload_n (n := 21) F dX10_meter_20 rfl 0 rfl rfl ?_
    refine k_rget_33 (n := 24) F dX10_meter_21 rfl ?_
    refine k_iload_n (n := 25) F dX10_meter_24 rfl 1 rfl rfl ?_
    refine k_rald_33 (n := 26) (N := x.toNatClampNeg) (f := a 33) F rfl (kIx_m hc1) dX10_meter_25 rfl ?_
    refine k_if_eq (n := 29) (tgt := 35) F dX10_meter_26 (by decide) rfl (fun hc2 => ?_) (fun hc2 => ?_)
    · refine k_aload_n (n := 36) F dX10_meter_35 rfl 0 rfl rfl ?_
      refine k_iload_n (n := 37) F dX10_meter_36 rfl 1 rfl rfl ?_
      refine k_clR (n := 40) F (k_rV (k := 1) (b := h0) (As := [.int x]) (rest := []) F (r_reads l g h0 ad i l_ a h x) [0, 1, 2, 3, 4, 5, 6, 7, 8, 9, 10, 11, 12, 13, 14] rfl rfl 0 rfl rfl mw_809 mw_806 mw_808 mw_s27 mw_9 (by decide) ⟨by decide, by decide⟩ rfl (Nat.le_of_ble_eq_true rfl) ⟨by decide, by decide⟩ dX10_meter_37) [0, 1, 2, 3, 4, 5, 6, 7, 8, 9, 10, 11, 12, 13, 14] rfl rfl ?_
      exact k_lret F (by first | (simp only [f_meter, rdR_e h17, hc1, hc2, if_true, if_false, not_true_eq_false, not_false_eq_true]; done) | (simp only [f_meter, rdR_e h17, hc1, hc2, if_true, if_false, not_true_eq_false, not_false_eq_true, upd, va_up, vp_updL, reduceIte, Nat.reduceEqDiff]; done) | (simp [f_meter, rdR_e h17, hc1, hc2]; done) | (simp_all [f_meter, rdR_e h17, hc1, hc2]; done)) (by first | (simp only [f_meter, rdR_e h17, hc1, hc2, if_true, if_false, not_true_eq_false, not_false_eq_true]; done) | (simp only [f_meter, rdR_e h17, hc1, hc2, if_true, if_false, not_true_eq_false, not_false_eq_true, wR, upd, va_up, vp_updL, reduceIte, Nat.reduceEqDiff]; done) | (simp [f_meter, rdR_e h17, hc1, hc2, wR, upd, va_up, vp_updL]; done) | (simp_all [f_meter, rdR_e h17, hc1, hc2, wR, upd, va_up, vp_updL]; done)) dX10_meter_40
    · refine k_ldc2 (n := 32) (v := -9) F mw_805 dX10_meter_29 rfl ?_
      refine k_goto (tgt := 40) F dX10_meter_32 (by decide) ?_
      exact k_lret F (by first | (simp only [f_meter, rdR_e h17, hc1, hc2, if_true, if_false, not_true_eq_false, not_false_eq_true]; done) | (simp only [f_meter, rdR_e h17, hc1, hc2, if_true, if_false, not_true_eq_false, not_false_eq_true, upd, va_up, vp_updL, reduceIte, Nat.reduceEqDiff]; done) | (simp [f_meter, rdR_e h17, hc1, hc2]; done) | (simp_all [f_meter, rdR_e h17, hc1, hc2]; done)) (by first | (simp only [f_meter, rdR_e h17, hc1, hc2, if_true, if_false, not_true_eq_false, not_false_eq_true]; done) | (simp only [f_meter, rdR_e h17, hc1, hc2, if_true, if_false, not_true_eq_false, not_false_eq_true, wR, upd, va_up, vp_updL, reduceIte, Nat.reduceEqDiff]; done) | (simp [f_meter, rdR_e h17, hc1, hc2, wR, upd, va_up, vp_updL]; done) | (simp_all [f_meter, rdR_e h17, hc1, hc2, wR, upd, va_up, vp_updL]; done)) dX10_meter_40
  · refine k_ldc2 (n := 17) (v := -1) F mw_724 dX10_meter_14 rfl ?_
    refine k_goto (tgt := 40) F dX10_meter_17 (by decide) ?_
    exact k_lret F (by first | (simp only [f_meter, rdR_e h17, hc1, if_true, if_false, not_true_eq_false, not_false_eq_true]; done) | (simp only [f_meter, rdR_e h17, hc1, if_true, if_false, not_true_eq_false, not_false_eq_true, upd, va_up, vp_updL, reduceIte, Nat.reduceEqDiff]; done) | (simp [f_meter, rdR_e h17, hc1]; done) | (simp_all [f_meter, rdR_e h17, hc1]; done)) (by first | (simp only [f_meter, rdR_e h17, hc1, if_true, if_false, not_true_eq_false, not_false_eq_true]; done) | (simp only [f_meter, rdR_e h17, hc1, if_true, if_false, not_true_eq_false, not_false_eq_true, wR, upd, va_up, vp_updL, reduceIte, Nat.reduceEqDiff]; done) | (simp [f_meter, rdR_e h17, hc1, wR, upd, va_up, vp_updL]; done) | (simp_all [f_meter, rdR_e h17, hc1, wR, upd, va_up, vp_updL]; done)) dX10_meter_40
set_option maxRecDepth 100000 in
set_option maxHeartbeats 4000000 in
theorem r_count (l : Launch) (g : kG) (h0 : Nat) (ad : Nat → Nat) (i : Nat → Int32) (l_ : Nat → Int64) (a : Nat → Nat → Int32) (h : Nat → Int64) (x : Int32) : kM l yX10_count cX10_count 2 (some .int) (rmK 0 0 0 0) g [.ref h0, .int x] (wR g h0 ad (i, l_, a, h)) (kDi g (f_count (i, l_, a, h) x) (wR g h0 ad (i, l_, a, h))) := by
  refine k_enter (by decide) (Nat.le_of_ble_eq_true rfl) ?_
  intro p e s m args below meth c A F
  refine k_aload_n (n := 1) F dX10_count_0 rfl 0 rfl rfl ?_
  refine k_iconst (n := 2) (v := 0) F dX10_count_1 rfl rfl ?_
  refine k_rput_0 (n := 5) F dX10_count_2 rfl ?_
  refine k_iload_n (n := 6) F dX10_count_5 rfl 1 rfl rfl ?_
  by_cases hc1 : x = 0
  · refine k_tableIn (off := 54) (tgt := 60) F dX10_count_6 (by rw [hc1]; decide) (by rw [hc1]; decide) (by rw [hc1]; rfl) (by decide) ?_
    refine k_aload_n (n := 61) F dX10_count_60 rfl 0 rfl rfl ?_
    refine k_rget_12 (n := 64) (v := i 12) F rfl dX10_count_61 rfl ?_
    exact k_iret F (by first | (simp only [f_count, hc1, if_true, if_false, not_true_eq_false, not_false_eq_true]; done) | (simp only [f_count, hc1, if_true, if_false, not_true_eq_false, not_false_eq_true, upd, va_up, vp_updL, reduceIte, Nat.reduceEqDiff]; done) | (simp [f_count, hc1]; done) | (simp_all [f_count, hc1]; done)) (by first | (simp only [f_count, hc1, if_true, if_false, not_true_eq_false, not_false_eq_true]; done) | (simp only [f_count, hc1, if_true, if_false, not_true_eq_false, not_false_eq_true, wR, upd, va_up, vp_updL, reduceIte, Nat.reduceEqDiff]; done) | (simp [f_count, hc1, wR, upd, va_up, vp_updL]; done) | (simp_all [f_count, hc1, wR, upd, va_up, vp_updL]; done)) dX10_count_64
  by_cases hc2 : x = 1
  · refine k_tableIn (off := 59) (tgt := 65) F dX10_count_6 (by rw [hc2]; decide) (by rw [hc2]; decide) (by rw [hc2]; rfl) (by decide) ?_
    refine k_aload_n (n := 66) F dX10_count_65 rfl 0 rfl rfl ?_
    refine k_rget_17 (n := 69) (v := i 17) F rfl dX10_count_66 rfl ?_
    exact k_iret F (by first | (simp only [f_count, hc1, hc2, if_true, if_false, not_true_eq_false, not_false_eq_true]; done) | (simp only [f_count, hc1, hc2, if_true, if_false, not_true_eq_false, not_false_eq_true, upd, va_up, vp_updL, reduceIte, Nat.reduceEqDiff]; done) | (simp [f_count, hc1, hc2]; done) | (simp_all [f_count, hc1, hc2]; done)) (by first | (simp only [f_count, hc1, hc2, if_true, if_false, not_true_eq_false, not_false_eq_true]; done) | (simp only [f_count, hc1, hc2, if_true, if_false, not_true_eq_false, not_false_eq_true, wR, upd, va_up, vp_updL, reduceIte, Nat.reduceEqDiff]; done) | (simp [f_count, hc1, hc2, wR, upd, va_up, vp_updL]; done) | (simp_all [f_count, hc1, hc2, wR, upd, va_up, vp_updL]; done)) dX10_count_69
  by_cases hc3 : x = 2
  · refine k_tableIn (off := 64) (tgt := 70) F dX10_count_6 (by rw [hc3]; decide) (by rw [hc3]; decide) (by rw [hc3]; rfl) (by decide) ?_
    refine k_aload_n (n := 71) F dX10_count_70 rfl 0 rfl rfl ?_
    refine k_rget_18 (n := 74) (v := i 18) F rfl dX10_count_71 rfl ?_
    exact k_iret F (by first | (simp only [f_count, hc1, hc2, hc3, if_true, if_false, not_true_eq_false, not_false_eq_true]; done) | (simp only [f_count, hc1, hc2, hc3, if_true, if_false, not_true_eq_false, not_false_eq_true, upd, va_up, vp_updL, reduceIte, Nat.reduceEqDiff]; done) | (simp [f_count, hc1, hc2, hc3]; done) | (simp_all [f_count, hc1, hc2, hc3]; done)) (by first | (simp only [f_count, hc1, hc2, hc3, if_true, if_false, not_true_eq_false, not_false_eq_true]; done) | (simp only [f_count, hc1, hc2, hc3, if_true, if_false, not_true_eq_false, not_false_eq_true, wR, upd, va_up, vp_updL, reduceIte, Nat.reduceEqDiff]; done) | (simp [f_count, hc1, hc2, hc3, wR, upd, va_up, vp_updL]; done) | (simp_all [f_count, hc1, hc2, hc3, wR, upd, va_up, vp_updL]; done)) dX10_count_74
  by_cases hc4 : x = 3
  · refine k_tableIn (off := 69) (tgt := 75) F dX10_count_6 (by rw [hc4]; decide) (by rw [hc4]; decide) (by rw [hc4]; rfl) (by decide) ?_
    refine k_aload_n (n := 76) F dX10_count_75 rfl 0 rfl rfl ?_
    refine k_rget_2 (n := 79) (v := i 2) F rfl dX10_count_76 rfl ?_
    exact k_iret F (by first | (simp only [f_count, hc1, hc2, hc3, hc4, if_true, if_false, not_true_eq_false, not_false_eq_true]; done) | (simp only [f_count, hc1, hc2, hc3, hc4, if_true, if_false, not_true_eq_false, not_false_eq_true, upd, va_up, vp_updL, reduceIte, Nat.reduceEqDiff]; done) | (simp [f_count, hc1, hc2, hc3, hc4]; done) | (simp_all [f_count, hc1, hc2, hc3, hc4]; done)) (by first | (simp only [f_count, hc1, hc2, hc3, hc4, if_true, if_false, not_true_eq_false, not_false_eq_true]; done) | (simp only [f_count, hc1, hc2, hc3, hc4, if_true, if_false, not_true_eq_false, not_false_eq_true, wR, upd, va_up, vp_updL, reduceIte, Nat.reduceEqDiff]; done) | (simp [f_count, hc1, hc2, hc3, hc4, wR, upd, va_up, vp_updL]; done) | (simp_all [f_count, hc1, hc2, hc3, hc4, wR, upd, va_up, vp_updL]; done)) dX10_count_79
  by_cases hc5 : x = 4
  · refine k_tableIn (off := 74) (tgt := 80) F dX10_count_6 (by rw [hc5]; decide) (by rw [hc5]; decide) (by rw [hc5]; rfl) (by decide) ?_
    refine k_aload_n (n := 81) F dX10_count_80 rfl 0 rfl rfl ?_
    refine k_rget_6 (n := 84) (v := i 6) F rfl dX10_count_81 rfl ?_
    exact k_iret F (by first | (simp only [f_count, hc1, hc2, hc3, hc4, hc5, if_true, if_false, not_true_eq_false, not_false_eq_true]; done) | (simp only [f_count, hc1, hc2, hc3, hc4, hc5, if_true, if_false, not_true_eq_false, not_false_eq_true, upd, va_up, vp_updL, reduceIte, Nat.reduceEqDiff]; done) | (simp [f_count, hc1, hc2, hc3, hc4, hc5]; done) | (simp_all [f_count, hc1, hc2, hc3, hc4, hc5]; done)) (by first | (simp only [f_count, hc1, hc2, hc3, hc4, hc5, if_true, if_false, not_true_eq_false, not_false_eq_true]; done) | (simp only [f_count, hc1, hc2, hc3, hc4, hc5, if_true, if_false, not_true_eq_false, not_false_eq_true, wR, upd, va_up, vp_updL, reduceIte, Nat.reduceEqDiff]; done) | (simp [f_count, hc1, hc2, hc3, hc4, hc5, wR, upd, va_up, vp_updL]; done) | (simp_all [f_count, hc1, hc2, hc3, hc4, hc5, wR, upd, va_up, vp_updL]; done)) dX10_count_84
  by_cases hc6 : x = 5
  · refine k_tableIn (off := 79) (tgt := 85) F dX10_count_6 (by rw [hc6]; decide) (by rw [hc6]; decide) (by rw [hc6]; rfl) (by decide) ?_
    refine k_aload_n (n := 86) F dX10_count_85 rfl 0 rfl rfl ?_
    refine k_rget_25 (n := 89) (v := i 25) F rfl dX10_count_86 rfl ?_
    exact k_iret F (by first | (simp only [f_count, hc1, hc2, hc3, hc4, hc5, hc6, if_true, if_false, not_true_eq_false, not_false_eq_true]; done) | (simp only [f_count, hc1, hc2, hc3, hc4, hc5, hc6, if_true, if_false, not_true_eq_false, not_false_eq_true, upd, va_up, vp_updL, reduceIte, Nat.reduceEqDiff]; done) | (simp [f_count, hc1, hc2, hc3, hc4, hc5, hc6]; done) | (simp_all [f_count, hc1, hc2, hc3, hc4, hc5, hc6]; done)) (by first | (simp only [f_count, hc1, hc2, hc3, hc4, hc5, hc6, if_true, if_false, not_true_eq_false, not_false_eq_true]; done) | (simp only [f_count, hc1, hc2, hc3, hc4, hc5, hc6, if_true, if_false, not_true_eq_false, not_false_eq_true, wR, upd, va_up, vp_updL, reduceIte, Nat.reduceEqDiff]; done) | (simp [f_count, hc1, hc2, hc3, hc4, hc5, hc6, wR, upd, va_up, vp_updL]; done) | (simp_all [f_count, hc1, hc2, hc3, hc4, hc5, hc6, wR, upd, va_up, vp_updL]; done)) dX10_count_89
  by_cases hc7 : x = 6
  · refine k_tableIn (off := 84) (tgt := 90) F dX10_count_6 (by rw [hc7]; decide) (by rw [hc7]; decide) (by rw [hc7]; rfl) (by decide) ?_
    refine k_aload_n (n := 91) F dX10_count_90 rfl 0 rfl rfl ?_
    refine k_rget_29 (n := 94) (v := i 29) F rfl dX10_count_91 rfl ?_
    exact k_iret F (by first | (simp only [f_count, hc1, hc2, hc3, hc4, hc5, hc6, hc7, if_true, if_false, not_true_eq_false, not_false_eq_true]; done) | (simp only [f_count, hc1, hc2, hc3, hc4, hc5, hc6, hc7, if_true, if_false, not_true_eq_false, not_false_eq_true, upd, va_up, vp_updL, reduceIte, Nat.reduceEqDiff]; done) | (simp [f_count, hc1, hc2, hc3, hc4, hc5, hc6, hc7]; done) | (simp_all [f_count, hc1, hc2, hc3, hc4, hc5, hc6, hc7]; done)) (by first | (simp only [f_count, hc1, hc2, hc3, hc4, hc5, hc6, hc7, if_true, if_false, not_true_eq_false, not_false_eq_true]; done) | (simp only [f_count, hc1, hc2, hc3, hc4, hc5, hc6, hc7, if_true, if_false, not_true_eq_false, not_false_eq_true, wR, upd, va_up, vp_updL, reduceIte, Nat.reduceEqDiff]; done) | (simp [f_count, hc1, hc2, hc3, hc4, hc5, hc6, hc7, wR, upd, va_up, vp_updL]; done) | (simp_all [f_count, hc1, hc2, hc3, hc4, hc5, hc6, hc7, wR, upd, va_up, vp_updL]; done)) dX10_count_94
  by_cases hc8 : x = 7
  · refine k_tableIn (off := 89) (tgt := 95) F dX10_count_6 (by rw [hc8]; decide) (by rw [hc8]; decide) (by rw [hc8]; rfl) (by decide) ?_
    refine k_aload_n (n := 96) F dX10_count_95 rfl 0 rfl rfl ?_
    refine k_rget_31 (n := 99) (v := i 31) F rfl dX10_count_96 rfl ?_
    exact k_iret F (by first | (simp only [f_count, hc1, hc2, hc3, hc4, hc5, hc6, hc7, hc8, if_true, if_false, not_true_eq_false, not_false_eq_true]; done) | (simp only [f_count, hc1, hc2, hc3, hc4, hc5, hc6, hc7, hc8, if_true, if_false, not_true_eq_false, not_false_eq_true, upd, va_up, vp_updL, reduceIte, Nat.reduceEqDiff]; done) | (simp [f_count, hc1, hc2, hc3, hc4, hc5, hc6, hc7, hc8]; done) | (simp_all [f_count, hc1, hc2, hc3, hc4, hc5, hc6, hc7, hc8]; done)) (by first | (simp only [f_count, hc1, hc2, hc3, hc4, hc5, hc6, hc7, hc8, if_true, if_false, not_true_eq_false, not_false_eq_true]; done) | (simp only [f_count, hc1, hc2, hc3, hc4, hc5, hc6, hc7, hc8, if_true, if_false, not_true_eq_false, not_false_eq_true, wR, upd, va_up, vp_updL, reduceIte, Nat.reduceEqDiff]; done) | (simp [f_count, hc1, hc2, hc3, hc4, hc5, hc6, hc7, hc8, wR, upd, va_up, vp_updL]; done) | (simp_all [f_count, hc1, hc2, hc3, hc4, hc5, hc6, hc7, hc8, wR, upd, va_up, vp_updL]; done)) dX10_count_99
  by_cases hc9 : x = 8
  · refine k_tableIn (off := 94) (tgt := 100) F dX10_count_6 (by rw [hc9]; decide) (by rw [hc9]; decide) (by rw [hc9]; rfl) (by decide) ?_
    refine k_aload_n (n := 101) F dX10_count_100 rfl 0 rfl rfl ?_
    refine k_rget_32 (n := 104) (v := i 32) F rfl dX10_count_101 rfl ?_
    exact k_iret F (by first | (simp only [f_count, hc1, hc2, hc3, hc4, hc5, hc6, hc7, hc8, hc9, if_true, if_false, not_true_eq_false, not_false_eq_true]; done) | (simp only [f_count, hc1, hc2, hc3, hc4, hc5, hc6, hc7, hc8, hc9, if_true, if_false, not_true_eq_false, not_false_eq_true, upd, va_up, vp_updL, reduceIte, Nat.reduceEqDiff]; done) | (simp [f_count, hc1, hc2, hc3, hc4, hc5, hc6, hc7, hc8, hc9]; done) | (simp_all [f_count, hc1, hc2, hc3, hc4, hc5, hc6, hc7, hc8, hc9]; done)) (by first | (simp only [f_count, hc1, hc2, hc3, hc4, hc5, hc6, hc7, hc8, hc9, if_true, if_false, not_true_eq_false, not_false_eq_true]; done) | (simp only [f_count, hc1, hc2, hc3, hc4, hc5, hc6, hc7, hc8, hc9, if_true, if_false, not_true_eq_false, not_false_eq_true, wR, upd, va_up, vp_updL, reduceIte, Nat.reduceEqDiff]; done) | (simp [f_count, hc1, hc2, hc3, hc4, hc5, hc6, hc7, hc8, hc9, wR, upd, va_up, vp_updL]; done) | (simp_all [f_count, hc1, hc2, hc3, hc4, hc5, hc6, hc7, hc8, hc9, wR, upd, va_up, vp_updL]; done)) dX10_count_104
  by_cases hc10 : x = 9
  · refine k_tableIn (off := 99) (tgt := 105) F dX10_count_6 (by rw [hc10]; decide) (by rw [hc10]; decide) (by rw [hc10]; rfl) (by decide) ?_
    refine k_aload_n (n := 106) F dX10_count_105 rfl 0 rfl rfl ?_
    refine k_rget_30 (n := 109) (v := i 30) F rfl dX10_count_106 rfl ?_
    exact k_iret F (by first | (simp only [f_count, hc1, hc2, hc3, hc4, hc5, hc6, hc7, hc8, hc9, hc10, if_true, if_false, not_true_eq_false, not_false_eq_true]; done) | (simp only [f_count, hc1, hc2, hc3, hc4, hc5, hc6, hc7, hc8, hc9, hc10, if_true, if_false, not_true_eq_false, not_false_eq_true, upd, va_up, vp_updL, reduceIte, Nat.reduceEqDiff]; done) | (simp [f_count, hc1, hc2, hc3, hc4, hc5, hc6, hc7, hc8, hc9, hc10]; done) | (simp_all [f_count, hc1, hc2, hc3, hc4, hc5, hc6, hc7, hc8, hc9, hc10]; done)) (by first | (simp only [f_count, hc1, hc2, hc3, hc4, hc5, hc6, hc7, hc8, hc9, hc10, if_true, if_false, not_true_eq_false, not_false_eq_true]; done) | (simp only [f_count, hc1, hc2, hc3, hc4, hc5, hc6, hc7, hc8, hc9, hc10, if_true, if_false, not_true_eq_false, not_false_eq_true, wR, upd, va_up, vp_updL, reduceIte, Nat.reduceEqDiff]; done) | (simp [f_count, hc1, hc2, hc3, hc4, hc5, hc6, hc7, hc8, hc9, hc10, wR, upd, va_up, vp_updL]; done) | (simp_all [f_count, hc1, hc2, hc3, hc4, hc5, hc6, hc7, hc8, hc9, hc10, wR, upd, va_up, vp_updL]; done)) dX10_count_109
  refine k_tableOut (tgt := 110) F dX10_count_6 (by have z0 := lv_neT hc1 (show (0 : Int32).toInt = 0 from rfl); have z1 := lv_neT hc2 (show (1 : Int32).toInt = 1 from rfl); have z2 := lv_neT hc3 (show (2 : Int32).toInt = 2 from rfl); have z3 := lv_neT hc4 (show (3 : Int32).toInt = 3 from rfl); have z4 := lv_neT hc5 (show (4 : Int32).toInt = 4 from rfl); have z5 := lv_neT hc6 (show (5 : Int32).toInt = 5 from rfl); have z6 := lv_neT hc7 (show (6 : Int32).toInt = 6 from rfl); have z7 := lv_neT hc8 (show (7 : Int32).toInt = 7 from rfl); have z8 := lv_neT hc9 (show (8 : Int32).toInt = 8 from rfl); have z9 := lv_neT hc10 (show (9 : Int32).toInt = 9 from rfl); omega) (by decide) ?_
  refine k_iconst (n := 111) (v := -1) F dX10_count_110 rfl rfl ?_
  exact k_iret F (by first | (simp only [f_count, hc1, hc2, hc3, hc4, hc5, hc6, hc7, hc8, hc9, hc10, if_true, if_false, not_true_eq_false, not_false_eq_true]; done) | (simp only [f_count, hc1, hc2, hc3, hc4, hc5, hc6, hc7, hc8, hc9, hc10, if_true, if_false, not_true_eq_false, not_false_eq_true, upd, va_up, vp_updL, reduceIte, Nat.reduceEqDiff]; done) | (simp [f_count, hc1, hc2, hc3, hc4, hc5, hc6, hc7, hc8, hc9, hc10]; done) | (simp_all [f_count, hc1, hc2, hc3, hc4, hc5, hc6, hc7, hc8, hc9, hc10]; done)) (by first | (simp only [f_count, hc1, hc2, hc3, hc4, hc5, hc6, hc7, hc8, hc9, hc10, if_true, if_false, not_true_eq_false, not_false_eq_true]; done) | (simp only [f_count, hc1, hc2, hc3, hc4, hc5, hc6, hc7, hc8, hc9, hc10, if_true, if_false, not_true_eq_false, not_false_eq_true, wR, upd, va_up, vp_updL, reduceIte, Nat.reduceEqDiff]; done) | (simp [f_count, hc1, hc2, hc3, hc4, hc5, hc6, hc7, hc8, hc9, hc10, wR, upd, va_up, vp_updL]; done) | (simp_all [f_count, hc1, hc2, hc3, hc4, hc5, hc6, hc7, hc8, hc9, hc10, wR, upd, va_up, vp_updL]; done)) dX10_count_111
set_option maxRecDepth 100000 in
set_option maxHeartbeats 4000000 in
theorem r_trace (l : Launch) (g : kG) (h0 : Nat) (ad : Nat → Nat) (i : Nat → Int32) (l_ : Nat → Int64) (a : Nat → Nat → Int32) (h : Nat → Int64) : kM l yX10_trace cX10_trace 1 (some .long) (rmK 0 0 0 0) g [.ref h0] (wR g h0 ad (i, l_, a, h)) (kDl g (l_ 1) (wR g h0 ad (i, l_, a, h))) := by
  refine k_enter (by decide) (Nat.le_of_ble_eq_true rfl) ?_
  intro p e s m args below meth c A F
  refine k_aload_n (n := 1) F dX10_trace_0 rfl 0 rfl rfl ?_
  refine k_iconst (n := 2) (v := 0) F dX10_trace_1 rfl rfl ?_
  refine k_rput_0 (n := 5) F dX10_trace_2 rfl ?_
  refine k_aload_n (n := 6) F dX10_trace_5 rfl 0 rfl rfl ?_
  refine k_rget_1 (n := 9) (v := l_ 1) F rfl dX10_trace_6 rfl ?_
  exact k_lret F (by first | (simp only [kin, if_true, if_false, not_true_eq_false, not_false_eq_true]; done) | (simp only [kin, if_true, if_false, not_true_eq_false, not_false_eq_true, upd, va_up, vp_updL, reduceIte, Nat.reduceEqDiff]; done) | (simp [kin]; done) | (simp_all [kin]; done)) (by first | (simp only [kin, if_true, if_false, not_true_eq_false, not_false_eq_true]; done) | (simp only [kin, if_true, if_false, not_true_eq_false, not_false_eq_true, wR, upd, va_up, vp_updL, reduceIte, Nat.reduceEqDiff]; done) | (simp [kin, wR, upd, va_up, vp_updL]; done) | (simp_all [kin, wR, upd, va_up, vp_updL]; done)) dX10_trace_9
set_option maxRecDepth 100000 in
set_option maxHeartbeats 4000000 in
theorem r_order (l : Launch) (g : kG) (h0 : Nat) (ad : Nat → Nat) (i : Nat → Int32) (l_ : Nat → Int64) (a : Nat → Nat → Int32) (h : Nat → Int64) (n d : Int32) (h25 : 0 ≤ i 25 ∧ i 25 ≤ 8) : kM l yX10_order cX10_order 3 (some .int) (rmK 1 0 0 22) g [.ref h0, .int n, .int d] (wR g h0 ad (i, l_, a, h)) (kDi g (f_order (i, l_, a, h) n d).1 (wR g h0 ad (f_order (i, l_, a, h) n d).2)) := by
  refine k_enter (by decide) (Nat.le_of_ble_eq_true rfl) ?_
  intro p e s m args below meth c A F
  refine k_aload_n (n := 1) F dX10_order_0 rfl 0 rfl rfl ?_
  refine k_iconst (n := 2) (v := 0) F dX10_order_1 rfl rfl ?_
  refine k_rput_0 (n := 5) F dX10_order_2 rfl ?_
  refine k_iload_n (n := 6) F dX10_order_5 rfl 1 rfl rfl ?_
  refine k_iconst (n := 7) (v := 1) F dX10_order_6 rfl rfl ?_
  refine k_sipush (n := 10) (v := 500) F dX10_order_7 rfl rfl ?_
  refine k_ciR (n := 13) F (k_rS (k := 3) (As := [.int n, .int 1, .int 500]) (rest := []) F (c_in l g n 1 500) [] rfl rfl mw_693 mw_691 mw_692 mw_9 (by decide) ⟨by decide, by decide⟩ rfl (Nat.le_of_ble_eq_true rfl) ⟨by decide, by decide⟩ dX10_order_10) [] rfl rfl ?_
  refine k_if_eq (n := 16) (tgt := 26) F dX10_order_13 (by decide) rfl (fun hc1 => ?_) (fun hc1 => ?_)
  · refine k_iconst (n := 27) (v := -1) F dX10_order_26 rfl rfl ?_
    exact k_iret F (by first | (simp only [f_order, ko25 h25, hc1, if_true, if_false, not_true_eq_false, not_false_eq_true]; done) | (simp only [f_order, ko25 h25, hc1, if_true, if_false, not_true_eq_false, not_false_eq_true, upd, va_up, vp_updL, reduceIte, Nat.reduceEqDiff]; done) | (simp [f_order, ko25 h25, hc1]; done) | (simp_all [f_order, ko25 h25, hc1]; done)) (by first | (simp only [f_order, ko25 h25, hc1, if_true, if_false, not_true_eq_false, not_false_eq_true]; done) | (simp only [f_order, ko25 h25, hc1, if_true, if_false, not_true_eq_false, not_false_eq_true, wR, upd, va_up, vp_updL, reduceIte, Nat.reduceEqDiff]; done) | (simp [f_order, ko25 h25, hc1, wR, upd, va_up, vp_updL]; done) | (simp_all [f_order, ko25 h25, hc1, wR, upd, va_up, vp_updL]; done)) dX10_order_27
  · refine k_iload_n (n := 17) F dX10_order_16 rfl 2 rfl rfl ?_
    refine k_iconst (n := 18) (v := 0) F dX10_order_17 rfl rfl ?_
    refine k_bipush (n := 20) (v := 9) F dX10_order_18 rfl rfl ?_
    refine k_ciR (n := 23) F (k_rS (k := 3) (As := [.int d, .int 0, .int 9]) (rest := []) F (c_in l g d 0 9) [] rfl rfl mw_693 mw_691 mw_692 mw_9 (by decide) ⟨by decide, by decide⟩ rfl (Nat.le_of_ble_eq_true rfl) ⟨by decide, by decide⟩ dX10_order_20) [] rfl rfl ?_
    refine k_if_ne (n := 26) (tgt := 28) F dX10_order_23 (by decide) rfl (fun hc2 => ?_) (fun hc2 => ?_)
    · refine k_aload_n (n := 29) F dX10_order_28 rfl 0 rfl rfl ?_
      refine k_rget_25 (n := 32) (v := i 25) F rfl dX10_order_29 rfl ?_
      refine k_bipush (n := 34) (v := 8) F dX10_order_32 rfl rfl ?_
      refine k_icmp_ne (n := 37) (tgt := 40) F dX10_order_34 (by decide) rfl (fun hc3 => ?_) (fun hc3 => ?_)
      · refine k_aload_n (n := 41) F dX10_order_40 rfl 0 rfl rfl ?_
        refine k_rget_26 (n := 44) F dX10_order_41 rfl ?_
        refine k_aload_n (n := 45) F dX10_order_44 rfl 0 rfl rfl ?_
        refine k_rget_25 (n := 48) (v := i 25) F rfl dX10_order_45 rfl ?_
        refine k_iload_n (n := 49) F dX10_order_48 rfl 1 rfl rfl ?_
        refine k_rast_26 (n := 50) (N := (i 25).toNatClampNeg) (f := a 26) (u' := (i, l_, va_up a 26 (upd (a 26) ((i 25).toNatClampNeg) n), h)) F rfl (kIx_o hc3 h25.1 h25.2) rfl dX10_order_49 rfl ?_
        refine k_aload_n (n := 51) F dX10_order_50 rfl 0 rfl rfl ?_
        refine k_rget_27 (n := 54) F dX10_order_51 rfl ?_
        refine k_aload_n (n := 55) F dX10_order_54 rfl 0 rfl rfl ?_
        refine k_rget_25 (n := 58) (v := i 25) F rfl dX10_order_55 rfl ?_
        refine k_iload_n (n := 59) F dX10_order_58 rfl 2 rfl rfl ?_
        refine k_rast_27 (n := 60) (N := (i 25).toNatClampNeg) (f := a 27) (u' := (i, l_, va_up (va_up a 26 (upd (a 26) ((i 25).toNatClampNeg) n)) 27 (upd (a 27) ((i 25).toNatClampNeg) d), h)) F (show (va_up a 26 (upd (a 26) ((i 25).toNatClampNeg) n)) 27 = a 27 from va_up_ne _ (k := 26) (j := 27) _ (by decide)) (kIx_o hc3 h25.1 h25.2) rfl dX10_order_59 rfl ?_
        refine k_aload_n (n := 61) F dX10_order_60 rfl 0 rfl rfl ?_
        refine k_rget_28 (n := 64) F dX10_order_61 rfl ?_
        refine k_aload_n (n := 65) F dX10_order_64 rfl 0 rfl rfl ?_
        refine k_rget_25 (n := 68) (v := i 25) F rfl dX10_order_65 rfl ?_
        refine k_iconst (n := 69) (v := 0) F dX10_order_68 rfl rfl ?_
        refine k_rast_28 (n := 70) (N := (i 25).toNatClampNeg) (f := a 28) (u' := (i, l_, va_up (va_up (va_up a 26 (upd (a 26) ((i 25).toNatClampNeg) n)) 27 (upd (a 27) ((i 25).toNatClampNeg) d)) 28 (upd (a 28) ((i 25).toNatClampNeg) 0), h)) F (show (va_up (va_up a 26 (upd (a 26) ((i 25).toNatClampNeg) n)) 27 (upd (a 27) ((i 25).toNatClampNeg) d)) 28 = a 28 from (va_up_ne _ (k := 27) (j := 28) _ (by decide)).trans (va_up_ne _ (k := 26) (j := 28) _ (by decide))) (kIx_o hc3 h25.1 h25.2) rfl dX10_order_69 rfl ?_
        refine k_aload_n (n := 71) F dX10_order_70 rfl 0 rfl rfl ?_
        refine k_dup (n := 72) F dX10_order_71 rfl rfl ?_
        refine k_rget_25 (n := 75) (v := i 25) F rfl dX10_order_72 rfl ?_
        refine k_iconst (n := 76) (v := 1) F dX10_order_75 rfl rfl ?_
        refine k_iadd (n := 77) F dX10_order_76 rfl ?_
        refine k_rput_25 (n := 80) (u' := (upd i 25 ((i 25) + 1), l_, va_up (va_up (va_up a 26 (upd (a 26) ((i 25).toNatClampNeg) n)) 27 (upd (a 27) ((i 25).toNatClampNeg) d)) 28 (upd (a 28) ((i 25).toNatClampNeg) 0), h)) F rfl dX10_order_77 rfl ?_
        refine k_aload_n (n := 81) F dX10_order_80 rfl 0 rfl rfl ?_
        refine k_rget_25 (n := 84) (v := (i 25) + 1) F (show (upd i 25 ((i 25) + 1)) 25 = (i 25) + 1 from pk_us) dX10_order_81 rfl ?_
        refine k_iconst (n := 85) (v := 1) F dX10_order_84 rfl rfl ?_
        refine k_isub (n := 86) F dX10_order_85 rfl ?_
        exact k_iret F (by first | (simp only [f_order, ko25 h25, hc1, hc2, hc3, if_true, if_false, not_true_eq_false, not_false_eq_true]; done) | (simp only [f_order, ko25 h25, hc1, hc2, hc3, if_true, if_false, not_true_eq_false, not_false_eq_true, upd, va_up, vp_updL, reduceIte, Nat.reduceEqDiff]; done) | (simp [f_order, ko25 h25, hc1, hc2, hc3]; done) | (simp_all [f_order, ko25 h25, hc1, hc2, hc3]; done)) (by first | (simp only [f_order, ko25 h25, hc1, hc2, hc3, if_true, if_false, not_true_eq_false, not_false_eq_true]; done) | (simp only [f_order, ko25 h25, hc1, hc2, hc3, if_true, if_false, not_true_eq_false, not_false_eq_true, wR, upd, va_up, vp_updL, reduceIte, Nat.reduceEqDiff]; done) | (simp [f_order, ko25 h25, hc1, hc2, hc3, wR, upd, va_up, vp_updL]; done) | (simp_all [f_order, ko25 h25, hc1, hc2, hc3, wR, upd, va_up, vp_updL]; done)) dX10_order_86
      · refine k_bipush (n := 39) (v := -3) F dX10_order_37 rfl rfl ?_
        exact k_iret F (by first | (simp only [f_order, ko25 h25, hc1, hc2, hc3, if_true, if_false, not_true_eq_false, not_false_eq_true]; done) | (simp only [f_order, ko25 h25, hc1, hc2, hc3, if_true, if_false, not_true_eq_false, not_false_eq_true, upd, va_up, vp_updL, reduceIte, Nat.reduceEqDiff]; done) | (simp [f_order, ko25 h25, hc1, hc2, hc3]; done) | (simp_all [f_order, ko25 h25, hc1, hc2, hc3]; done)) (by first | (simp only [f_order, ko25 h25, hc1, hc2, hc3, if_true, if_false, not_true_eq_false, not_false_eq_true]; done) | (simp only [f_order, ko25 h25, hc1, hc2, hc3, if_true, if_false, not_true_eq_false, not_false_eq_true, wR, upd, va_up, vp_updL, reduceIte, Nat.reduceEqDiff]; done) | (simp [f_order, ko25 h25, hc1, hc2, hc3, wR, upd, va_up, vp_updL]; done) | (simp_all [f_order, ko25 h25, hc1, hc2, hc3, wR, upd, va_up, vp_updL]; done)) dX10_order_39
    · refine k_iconst (n := 27) (v := -1) F dX10_order_26 rfl rfl ?_
      exact k_iret F (by first | (simp only [f_order, ko25 h25, hc1, hc2, if_true, if_false, not_true_eq_false, not_false_eq_true]; done) | (simp only [f_order, ko25 h25, hc1, hc2, if_true, if_false, not_true_eq_false, not_false_eq_true, upd, va_up, vp_updL, reduceIte, Nat.reduceEqDiff]; done) | (simp [f_order, ko25 h25, hc1, hc2]; done) | (simp_all [f_order, ko25 h25, hc1, hc2]; done)) (by first | (simp only [f_order, ko25 h25, hc1, hc2, if_true, if_false, not_true_eq_false, not_false_eq_true]; done) | (simp only [f_order, ko25 h25, hc1, hc2, if_true, if_false, not_true_eq_false, not_false_eq_true, wR, upd, va_up, vp_updL, reduceIte, Nat.reduceEqDiff]; done) | (simp [f_order, ko25 h25, hc1, hc2, wR, upd, va_up, vp_updL]; done) | (simp_all [f_order, ko25 h25, hc1, hc2, wR, upd, va_up, vp_updL]; done)) dX10_order_27
