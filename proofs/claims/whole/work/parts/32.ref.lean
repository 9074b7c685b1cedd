theorem kclamp6 {x : Int32} (h : 0 ≤ x) (h6 : x ≤ 6) : x.toNatClampNeg ≤ 6 := by
  obtain ⟨k, hk, rfl⟩ := nI_of (Int32.not_lt.mpr h)
  rw [nI_clamp hk]
  exact (nI_leI hk (by decide)).mp (show nI k ≤ nI 6 from h6)
theorem nd10 {dd : Nat} (h : dd ≤ 40) : nI dd / 10 = nI (dd / 10) := pk_div (d := 10) (by omega) (by decide) (by decide)
theorem nr10 {dd : Nat} (h : dd ≤ 40) : nI dd - nI dd / 10 * 10 = nI (dd % 10) := pk_rem (d := 10) (by omega) (by decide) (by decide)
theorem n5c (c : Nat) : 5 * nI c = nI (5 * c) := pk_mul 5 c
theorem ixc1 {c dd : Nat} (hc : c < 6) (hd : dd ≤ 40) : kIx (5 * nI c + nI dd / 10) (5 * c + dd / 10) 30 := by
  rw [nd10 hd, n5c, nI_add]
  exact kIx_nI (by omega) (by decide)
theorem ixc2 {c dd : Nat} (hc : c < 6) (hd : dd ≤ 40) (hr : ¬ nI dd - nI dd / 10 * 10 ≤ 0) : kIx (5 * nI c + nI dd / 10 + 1) (5 * c + dd / 10 + 1) 30 := by
  rw [nr10 hd] at hr
  have h1 : ¬ nI (dd % 10) ≤ nI 0 := hr
  rw [nI_leI (by omega) (by decide)] at h1
  rw [nd10 hd, n5c, nI_add, nI_1]
  exact kIx_nI (by omega) (by decide)
theorem kd0 {k : Int32} (h : k = 0 ∨ k = 1 ∨ k = 2) (h0 : k ≤ 0) : k = 0 := by
  rcases h with rfl | rfl | rfl
  · rfl
  · exact absurd h0 (by decide)
  · exact absurd h0 (by decide)
theorem kd1 {k : Int32} (h : k = 0 ∨ k = 1 ∨ k = 2) (h0 : ¬ k ≤ 0) (h2 : ¬ k = 2) : k = 1 := by
  rcases h with rfl | rfl | rfl
  · exact absurd (by decide) h0
  · rfl
  · exact absurd rfl h2
theorem cd_1 {a : Nat → Nat → Int32} {c : Nat} {d : Int32} (h : a 3 c = 1) : cdC a c d = kwc (fun k => a 4 (5 * c + k)) d := by
  unfold cdC
  rw [h]
  rfl
theorem cd_2 {a : Nat → Nat → Int32} {c : Nat} {d : Int32} (h : a 3 c = 2) : cdC a c d = if a 5 c < kwc (fun k => a 4 (5 * c + k)) d then a 5 c else kwc (fun k => a 4 (5 * c + k)) d := by
  unfold cdC
  rw [h]
  rfl
theorem wt_0 {a : Nat → Nat → Int32} {c : Nat} (h : a 3 c = 0) : wtC a c = 1 := by unfold wtC; rw [h]; rfl
theorem wt_1 {a : Nat → Nat → Int32} {c : Nat} (h : a 3 c = 1) : wtC a c = 11 := by unfold wtC; rw [h]; rfl
theorem wt_2 {a : Nat → Nat → Int32} {c : Nat} (h0 : ¬ a 3 c = 0) (h1 : ¬ a 3 c = 1) : wtC a c = 111 := by unfold wtC; rw [if_neg h0, if_neg h1]
theorem kcn_at {f : Nat → Int32} {k : Nat} (h : k < 5) : kcn f (nI k) = f k := by
  unfold kcn
  rw [if_neg (nI_pos (by omega)), if_neg (show ¬ (5 : Int32) ≤ nI k from nI_ge h (by decide)), nI_clamp (by omega)]
theorem kwc_z {dd : Nat} (hd : dd ≤ 40) (hr : nI dd - nI dd / 10 * 10 ≤ 0) (f : Nat → Int32) : kwc f (nI dd) = nI dd / 4 + ((10 - (nI dd - nI dd / 10 * 10)) * f (dd / 10) + 0) / 10 := by
  rw [nr10 hd] at hr
  have h1 : nI (dd % 10) ≤ nI 0 := hr
  rw [nI_leI (by omega) (by decide)] at h1
  have h2 : dd % 10 = 0 := by omega
  unfold kwc
  rw [nr10 hd, h2, nd10 hd, kcn_at (by omega)]
  congr 2
  have e : nI 0 = (0 : Int32) := rfl
  rw [e, Int32.zero_mul]
theorem kwc_p {dd : Nat} (hd : dd ≤ 40) (hr : ¬ nI dd - nI dd / 10 * 10 ≤ 0) (f : Nat → Int32) : kwc f (nI dd) = nI dd / 4 + ((10 - (nI dd - nI dd / 10 * 10)) * f (dd / 10) + (nI dd - nI dd / 10 * 10) * f (dd / 10 + 1)) / 10 := by
  rw [nr10 hd] at hr
  have h1 : ¬ nI (dd % 10) ≤ nI 0 := hr
  rw [nI_leI (by omega) (by decide)] at h1
  unfold kwc
  rw [nr10 hd, nd10 hd, kcn_at (by omega), nI_1, kcn_at (by omega)]
theorem fa_upd_01 (f : Nat → Int32) (x y : Int32) : upd (upd f 1 x) 0 y = upd (upd f 0 y) 1 x := by
  funext k
  by_cases h0 : k = 0
  · subst h0; simp [upd]
  · by_cases h1 : k = 1 <;> simp [upd, h0, h1]
theorem fa_upd_s1 (f : Nat → Int32) (x : Int32) : upd (upd f 0 x) 1 (f 1) = upd f 0 x := by
  funext k
  by_cases h1 : k = 1
  · subst h1; simp [upd]
  · simp [upd, h1]
/-- the reference's loads, the trip counted in -/
def ldT (u : kS) : kS := if ld_R u = 0 then s_trips (ld_S u) else ld_S u
theorem ld_on {x y : Int32} (h : ¬ x = 1) (h2 : x = 1 ∨ y = 1) : y = 1 := h2.resolve_left h
section
variable (h0 l0 t0 h1 l1 t1 fl : Int32)
theorem ldA0 (e : h0 = 1) (hl : ¬ fl ≤ l0 + 1) : ldR h0 l0 h1 l1 fl = 1 ∧ ldH0 h0 l0 h1 l1 fl = h0 ∧ ldL0 h0 l0 = l0 + 1 ∧ ldT0 h0 l0 t0 h1 l1 fl = t0 ∧ ldH1 h0 l0 h1 l1 fl = h1 ∧ ldL1 h0 h1 l1 = l1 ∧ ldT1 h0 l0 h1 l1 t1 fl = t1 := by
  subst e
  have hl := Int32.not_le.mp hl
  simp [ldR, ldH0, ldL0, ldT0, ldH1, ldL1, ldT1, lnR, lnH, lnL, lnT, lxH, lxT, hl]
theorem ldB0 (e : h0 = 1) (hl : fl ≤ l0 + 1) (hz : h1 = 0) (ht : t1 = 0) : ldR h0 l0 h1 l1 fl = 1 ∧ ldH0 h0 l0 h1 l1 fl = 2 ∧ ldL0 h0 l0 = l0 + 1 ∧ ldT0 h0 l0 t0 h1 l1 fl = 0 ∧ ldH1 h0 l0 h1 l1 fl = 1 ∧ ldL1 h0 h1 l1 = l1 ∧ ldT1 h0 l0 h1 l1 t1 fl = t1 := by
  subst e hz ht
  have hl := Int32.not_lt.mpr hl
  simp [ldR, ldH0, ldL0, ldT0, ldH1, ldL1, ldT1, lnR, lnH, lnL, lnT, lxH, lxT, hl]
theorem ldC0 (e : h0 = 1) (hl : fl ≤ l0 + 1) (hz : ¬ h1 = 0) : ldR h0 l0 h1 l1 fl = 0 ∧ ldH0 h0 l0 h1 l1 fl = 2 ∧ ldL0 h0 l0 = l0 + 1 ∧ ldT0 h0 l0 t0 h1 l1 fl = 0 ∧ ldH1 h0 l0 h1 l1 fl = h1 ∧ ldL1 h0 h1 l1 = l1 ∧ ldT1 h0 l0 h1 l1 t1 fl = t1 := by
  subst e
  have hl := Int32.not_lt.mpr hl
  simp [ldR, ldH0, ldL0, ldT0, ldH1, ldL1, ldT1, lnR, lnH, lnL, lnT, lxH, lxT, hl, hz]
theorem ldA1 (e0 : ¬ h0 = 1) (e : h1 = 1) (hl : ¬ fl ≤ l1 + 1) : ldR h0 l0 h1 l1 fl = 1 ∧ ldH0 h0 l0 h1 l1 fl = h0 ∧ ldL0 h0 l0 = l0 ∧ ldT0 h0 l0 t0 h1 l1 fl = t0 ∧ ldH1 h0 l0 h1 l1 fl = h1 ∧ ldL1 h0 h1 l1 = l1 + 1 ∧ ldT1 h0 l0 h1 l1 t1 fl = t1 := by
  subst e
  have hl := Int32.not_le.mp hl
  simp [ldR, ldH0, ldL0, ldT0, ldH1, ldL1, ldT1, lnR, lnH, lnL, lnT, lxH, lxT, hl, e0]
theorem ldB1 (e0 : ¬ h0 = 1) (e : h1 = 1) (hl : fl ≤ l1 + 1) (hz : h0 = 0) (ht : t0 = 0) : ldR h0 l0 h1 l1 fl = 1 ∧ ldH0 h0 l0 h1 l1 fl = 1 ∧ ldL0 h0 l0 = l0 ∧ ldT0 h0 l0 t0 h1 l1 fl = t0 ∧ ldH1 h0 l0 h1 l1 fl = 2 ∧ ldL1 h0 h1 l1 = l1 + 1 ∧ ldT1 h0 l0 h1 l1 t1 fl = 0 := by
  subst e hz ht
  have hl := Int32.not_lt.mpr hl
  simp [ldR, ldH0, ldL0, ldT0, ldH1, ldL1, ldT1, lnR, lnH, lnL, lnT, lxH, lxT, hl]
theorem ldC1 (e0 : ¬ h0 = 1) (e : h1 = 1) (hl : fl ≤ l1 + 1) (hz : ¬ h0 = 0) : ldR h0 l0 h1 l1 fl = 0 ∧ ldH0 h0 l0 h1 l1 fl = h0 ∧ ldL0 h0 l0 = l0 ∧ ldT0 h0 l0 t0 h1 l1 fl = t0 ∧ ldH1 h0 l0 h1 l1 fl = 2 ∧ ldL1 h0 h1 l1 = l1 + 1 ∧ ldT1 h0 l0 h1 l1 t1 fl = 0 := by
  subst e
  have hl := Int32.not_lt.mpr hl
  simp [ldR, ldH0, ldL0, ldT0, ldH1, ldL1, ldT1, lnR, lnH, lnL, lnT, lxH, lxT, hl, hz, e0]
end
set_option maxRecDepth 100000 in
set_option maxHeartbeats 4000000 in
theorem r_coldOf (l : Launch) (g : kG) (h0 : Nat) (ad : Nat → Nat) (i : Nat → Int32) (l_ : Nat → Int64) (a : Nat → Nat → Int32) (h : Nat → Int64) (x d : Int32) (h2 : 0 ≤ i 2 ∧ i 2 ≤ 6) (hx : ¬ kin x 0 (i 2 - 1) = 0) (hd : ¬ kin d 0 40 = 0) (hk : ∀ c : Nat, c < (i 2).toNatClampNeg → a 3 c = 0 ∨ a 3 c = 1 ∨ a 3 c = 2) : kM l yX10_coldOf cX10_coldOf 7 (some .int) (rmK 0 0 0 0) g [.ref h0, .int x, .int d] (wR g h0 ad (i, l_, a, h)) (kDi g (cdC a x.toNatClampNeg d) (wR g h0 ad (i, l_, a, h))) := by
  have hlt := cool_lt hx h2.1 h2.2
  have h6n := kclamp6 h2.1 h2.2
  obtain ⟨cq, hc, rfl⟩ := nI_of (Int32.not_lt.mpr (kin_n.mp hx).1)
  obtain ⟨dd, hdd, rfl⟩ := nI_of (Int32.not_lt.mpr (kin_n.mp hd).1)
  have hd40 : dd ≤ 40 := (nI_leI hdd (by decide)).mp (show nI dd ≤ nI 40 from (kin_n.mp hd).2)
  have hcl : (nI cq).toNatClampNeg = cq := nI_clamp hc
  rw [hcl] at hlt
  have hc6 : cq < 6 := by omega
  have hkc := hk cq hlt
  refine k_enter (by decide) (Nat.le_of_ble_eq_true rfl) ?_
  intro p e s m args below meth c A F
  refine k_iload_n (n := 1) F dX10_coldOf_0 rfl 2 rfl rfl ?_
  refine k_iconst (n := 2) (v := 4) F dX10_coldOf_1 rfl rfl ?_
  refine k_idiv (n := 3) F dX10_coldOf_2 (by decide) rfl ?_
  refine k_istore_n (n := 4) (lv' := [(3, .int ((nI dd) / 4)), (0, .ref h0), (1, .int (nI cq)), (2, .int (nI dd))]) F dX10_coldOf_3 rfl (by decide) rfl rfl ?_
  refine k_aload_n (n := 5) F dX10_coldOf_4 rfl 1 rfl rfl ?_
  refine k_rget_3 (n := 8) F dX10_coldOf_5 rfl ?_
  refine k_iload_n (n := 9) F dX10_coldOf_8 rfl 2 rfl rfl ?_
  refine k_rald_3 (n := 10) (N := cq) (f := a 3) F rfl (kIx_nI (by omega) (by decide)) dX10_coldOf_9 rfl ?_
  refine k_if_le (n := 13) (tgt := 82) F dX10_coldOf_10 (by decide) rfl (fun hc1 => ?_) (fun hc1 => ?_)
  · refine k_aload_n (n := 83) F dX10_coldOf_82 rfl 1 rfl rfl ?_
    refine k_rget_3 (n := 86) F dX10_coldOf_83 rfl ?_
    refine k_iload_n (n := 87) F dX10_coldOf_86 rfl 2 rfl rfl ?_
    refine k_rald_3 (n := 88) (N := cq) (f := a 3) F rfl (kIx_nI (by omega) (by decide)) dX10_coldOf_87 rfl ?_
    refine k_iconst (n := 89) (v := 2) F dX10_coldOf_88 rfl rfl ?_
    refine k_icmp_ne (n := 92) (tgt := 111) F dX10_coldOf_89 (by decide) rfl (fun hc2 => ?_) (fun hc2 => ?_)
    · refine k_iload_n (n := 112) F dX10_coldOf_111 rfl 0 rfl rfl ?_
      have e0 : a 3 cq = 0 := kd0 hkc hc1
      exact k_iret F (by rw [hcl]; simp only [cdC, e0, if_true, if_false, not_true_eq_false, not_false_eq_true]) rfl dX10_coldOf_112
    · refine k_iload_n (n := 93) F dX10_coldOf_92 rfl 0 rfl rfl ?_
      refine k_aload_n (n := 94) F dX10_coldOf_93 rfl 1 rfl rfl ?_
      refine k_rget_5 (n := 97) F dX10_coldOf_94 rfl ?_
      refine k_iload_n (n := 98) F dX10_coldOf_97 rfl 2 rfl rfl ?_
      refine k_rald_5 (n := 99) (N := cq) (f := a 5) F rfl (kIx_nI (by omega) (by decide)) dX10_coldOf_98 rfl ?_
      refine k_icmp_le (n := 102) (tgt := 111) F dX10_coldOf_99 (by decide) rfl (fun hc3 => ?_) (fun hc3 => ?_)
      · refine k_iload_n (n := 112) F dX10_coldOf_111 rfl 0 rfl rfl ?_
        exact absurd ((kd0 hkc hc1).symm.trans hc2) (by decide)
      · refine k_aload_n (n := 103) F dX10_coldOf_102 rfl 1 rfl rfl ?_
        refine k_rget_5 (n := 106) F dX10_coldOf_103 rfl ?_
        refine k_iload_n (n := 107) F dX10_coldOf_106 rfl 2 rfl rfl ?_
        refine k_rald_5 (n := 108) (N := cq) (f := a 5) F rfl (kIx_nI (by omega) (by decide)) dX10_coldOf_107 rfl ?_
        refine k_goto (tgt := 112) F dX10_coldOf_108 (by decide) ?_
        exact absurd ((kd0 hkc hc1).symm.trans hc2) (by decide)
  · refine k_iload_n (n := 14) F dX10_coldOf_13 rfl 3 rfl rfl ?_
    refine k_bipush (n := 16) (v := 10) F dX10_coldOf_14 rfl rfl ?_
    refine k_idiv (n := 17) F dX10_coldOf_16 (by decide) rfl ?_
    refine k_istore (n := 19) (lv' := [(4, .int ((nI dd) / 10)), (3, .int ((nI dd) / 4)), (0, .ref h0), (1, .int (nI cq)), (2, .int (nI dd))]) F dX10_coldOf_17 (by decide) rfl rfl ?_
    refine k_iload_n (n := 20) F dX10_coldOf_19 rfl 4 rfl rfl ?_
    refine k_bipush (n := 22) (v := 10) F dX10_coldOf_20 rfl rfl ?_
    refine k_irem (n := 23) F dX10_coldOf_22 (by decide) rfl ?_
    refine k_istore (n := 25) (lv' := [(5, .int ((nI dd) - (nI dd) / 10 * 10)), (4, .int ((nI dd) / 10)), (3, .int ((nI dd) / 4)), (0, .ref h0), (1, .int (nI cq)), (2, .int (nI dd))]) F dX10_coldOf_23 (by decide) rfl rfl ?_
    refine k_bipush (n := 27) (v := 10) F dX10_coldOf_25 rfl rfl ?_
    refine k_iload (n := 29) F dX10_coldOf_27 0 rfl rfl ?_
    refine k_isub (n := 30) F dX10_coldOf_29 rfl ?_
    refine k_aload_n (n := 31) F dX10_coldOf_30 rfl 3 rfl rfl ?_
    refine k_rget_4 (n := 34) F dX10_coldOf_31 rfl ?_
    refine k_iconst (n := 35) (v := 5) F dX10_coldOf_34 rfl rfl ?_
    refine k_iload_n (n := 36) F dX10_coldOf_35 rfl 4 rfl rfl ?_
    refine k_imul (n := 37) F dX10_coldOf_36 rfl ?_
    refine k_iload (n := 39) F dX10_coldOf_37 1 rfl rfl ?_
    refine k_iadd (n := 40) F dX10_coldOf_39 rfl ?_
    refine k_rald_4 (n := 41) (N := 5 * cq + dd / 10) (f := a 4) F rfl (ixc1 hc6 hd40) dX10_coldOf_40 rfl ?_
    refine k_imul (n := 42) F dX10_coldOf_41 rfl ?_
    refine k_istore (n := 44) (lv' := [(6, .int ((10 - ((nI dd) - (nI dd) / 10 * 10)) * ((a 4) (5 * cq + dd / 10)))), (5, .int ((nI dd) - (nI dd) / 10 * 10)), (4, .int ((nI dd) / 10)), (3, .int ((nI dd) / 4)), (0, .ref h0), (1, .int (nI cq)), (2, .int (nI dd))]) F dX10_coldOf_42 (by decide) rfl rfl ?_
    refine k_iload (n := 46) F dX10_coldOf_44 0 rfl rfl ?_
    refine k_iload (n := 48) F dX10_coldOf_46 1 rfl rfl ?_
    refine k_if_le (n := 51) (tgt := 70) F dX10_coldOf_48 (by decide) rfl (fun hc4 => ?_) (fun hc4 => ?_)
    · refine k_iconst (n := 71) (v := 0) F dX10_coldOf_70 rfl rfl ?_
      refine k_iadd (n := 72) F dX10_coldOf_71 rfl ?_
      refine k_istore (n := 74) (lv' := [(6, .int (((10 - ((nI dd) - (nI dd) / 10 * 10)) * ((a 4) (5 * cq + dd / 10))) + 0)), (5, .int ((nI dd) - (nI dd) / 10 * 10)), (4, .int ((nI dd) / 10)), (3, .int ((nI dd) / 4)), (0, .ref h0), (1, .int (nI cq)), (2, .int (nI dd))]) F dX10_coldOf_72 (by decide) rfl rfl ?_
      refine k_iload_n (n := 75) F dX10_coldOf_74 rfl 3 rfl rfl ?_
      refine k_iload (n := 77) F dX10_coldOf_75 0 rfl rfl ?_
      refine k_bipush (n := 79) (v := 10) F dX10_coldOf_77 rfl rfl ?_
      refine k_idiv (n := 80) F dX10_coldOf_79 (by decide) rfl ?_
      refine k_iadd (n := 81) F dX10_coldOf_80 rfl ?_
      refine k_istore_n (n := 82) (lv' := [(3, .int (((nI dd) / 4) + ((((10 - ((nI dd) - (nI dd) / 10 * 10)) * ((a 4) (5 * cq + dd / 10))) + 0) / 10))), (6, .int (((10 - ((nI dd) - (nI dd) / 10 * 10)) * ((a 4) (5 * cq + dd / 10))) + 0)), (5, .int ((nI dd) - (nI dd) / 10 * 10)), (4, .int ((nI dd) / 10)), (0, .ref h0), (1, .int (nI cq)), (2, .int (nI dd))]) F dX10_coldOf_81 rfl (by decide) rfl rfl ?_
      refine k_aload_n (n := 83) F dX10_coldOf_82 rfl 4 rfl rfl ?_
      refine k_rget_3 (n := 86) F dX10_coldOf_83 rfl ?_
      refine k_iload_n (n := 87) F dX10_coldOf_86 rfl 5 rfl rfl ?_
      refine k_rald_3 (n := 88) (N := cq) (f := a 3) F rfl (kIx_nI (by omega) (by decide)) dX10_coldOf_87 rfl ?_
      refine k_iconst (n := 89) (v := 2) F dX10_coldOf_88 rfl rfl ?_
      refine k_icmp_ne (n := 92) (tgt := 111) F dX10_coldOf_89 (by decide) rfl (fun hc5 => ?_) (fun hc5 => ?_)
      · refine k_iload_n (n := 112) F dX10_coldOf_111 rfl 0 rfl rfl ?_
        have ew := kwc_z hd40 hc4 (fun k => a 4 (5 * cq + k))
        have e1 : a 3 cq = 1 := kd1 hkc hc1 hc5
        exact k_iret F (by rw [hcl, cd_1 e1, ew]) rfl dX10_coldOf_112
      · refine k_iload_n (n := 93) F dX10_coldOf_92 rfl 0 rfl rfl ?_
        refine k_aload_n (n := 94) F dX10_coldOf_93 rfl 4 rfl rfl ?_
        refine k_rget_5 (n := 97) F dX10_coldOf_94 rfl ?_
        refine k_iload_n (n := 98) F dX10_coldOf_97 rfl 5 rfl rfl ?_
        refine k_rald_5 (n := 99) (N := cq) (f := a 5) F rfl (kIx_nI (by omega) (by decide)) dX10_coldOf_98 rfl ?_
        refine k_icmp_le (n := 102) (tgt := 111) F dX10_coldOf_99 (by decide) rfl (fun hc6 => ?_) (fun hc6 => ?_)
        · refine k_iload_n (n := 112) F dX10_coldOf_111 rfl 0 rfl rfl ?_
          have ew := kwc_z hd40 hc4 (fun k => a 4 (5 * cq + k))
          have h9 := hc6
          exact k_iret F (by rw [hcl, cd_2 hc5, ew]; exact (if_neg (Int32.not_lt.mpr h9)).symm) rfl dX10_coldOf_112
        · refine k_aload_n (n := 103) F dX10_coldOf_102 rfl 4 rfl rfl ?_
          refine k_rget_5 (n := 106) F dX10_coldOf_103 rfl ?_
          refine k_iload_n (n := 107) F dX10_coldOf_106 rfl 5 rfl rfl ?_
          refine k_rald_5 (n := 108) (N := cq) (f := a 5) F rfl (kIx_nI (by omega) (by decide)) dX10_coldOf_107 rfl ?_
          refine k_goto (tgt := 112) F dX10_coldOf_108 (by decide) ?_
          have ew := kwc_z hd40 hc4 (fun k => a 4 (5 * cq + k))
          have h9 := hc6
          exact k_iret F (by rw [hcl, cd_2 hc5, ew]; exact (if_pos (Int32.not_le.mp h9)).symm) rfl dX10_coldOf_112
    · refine k_iload (n := 53) F dX10_coldOf_51 1 rfl rfl ?_
      refine k_aload_n (n := 54) F dX10_coldOf_53 rfl 4 rfl rfl ?_
      refine k_rget_4 (n := 57) F dX10_coldOf_54 rfl ?_
      refine k_iconst (n := 58) (v := 5) F dX10_coldOf_57 rfl rfl ?_
      refine k_iload_n (n := 59) F dX10_coldOf_58 rfl 5 rfl rfl ?_
      refine k_imul (n := 60) F dX10_coldOf_59 rfl ?_
      refine k_iload (n := 62) F dX10_coldOf_60 2 rfl rfl ?_
      refine k_iadd (n := 63) F dX10_coldOf_62 rfl ?_
      refine k_iconst (n := 64) (v := 1) F dX10_coldOf_63 rfl rfl ?_
      refine k_iadd (n := 65) F dX10_coldOf_64 rfl ?_
      refine k_rald_4 (n := 66) (N := 5 * cq + dd / 10 + 1) (f := a 4) F rfl (ixc2 hc6 hd40 hc4) dX10_coldOf_65 rfl ?_
      refine k_imul (n := 67) F dX10_coldOf_66 rfl ?_
      refine k_goto (tgt := 71) F dX10_coldOf_67 (by decide) ?_
      refine k_iadd (n := 72) F dX10_coldOf_71 rfl ?_
      refine k_istore (n := 74) (lv' := [(6, .int (((10 - ((nI dd) - (nI dd) / 10 * 10)) * ((a 4) (5 * cq + dd / 10))) + (((nI dd) - (nI dd) / 10 * 10) * ((a 4) (5 * cq + dd / 10 + 1))))), (5, .int ((nI dd) - (nI dd) / 10 * 10)), (4, .int ((nI dd) / 10)), (3, .int ((nI dd) / 4)), (0, .ref h0), (1, .int (nI cq)), (2, .int (nI dd))]) F dX10_coldOf_72 (by decide) rfl rfl ?_
      refine k_iload_n (n := 75) F dX10_coldOf_74 rfl 3 rfl rfl ?_
      refine k_iload (n := 77) F dX10_coldOf_75 0 rfl rfl ?_
      refine k_bipush (n := 79) (v := 10) F dX10_coldOf_77 rfl rfl ?_
      refine k_idiv (n := 80) F dX10_coldOf_79 (by decide) rfl ?_
      refine k_iadd (n := 81) F dX10_coldOf_80 rfl ?_
      refine k_istore_n (n := 82) (lv' := [(3, .int (((nI dd) / 4) + ((((10 - ((nI dd) - (nI dd) / 10 * 10)) * ((a 4) (5 * cq + dd / 10))) + (((nI dd) - (nI dd) / 10 * 10) * ((a 4) (5 * cq + dd / 10 + 1)))) / 10))), (6, .int (((10 - ((nI dd) - (nI dd) / 10 * 10)) * ((a 4) (5 * cq + dd / 10))) + (((nI dd) - (nI dd) / 10 * 10) * ((a 4) (5 * cq + dd / 10 + 1))))), (5, .int ((nI dd) - (nI dd) / 10 * 10)), (4, .int ((nI dd) / 10)), (0, .ref h0), (1, .int (nI cq)), (2, .int (nI dd))]) F dX10_coldOf_81 rfl (by decide) rfl rfl ?_
      refine k_aload_n (n := 83) F dX10_coldOf_82 rfl 4 rfl rfl ?_
      refine k_rget_3 (n := 86) F dX10_coldOf_83 rfl ?_
      refine k_iload_n (n := 87) F dX10_coldOf_86 rfl 5 rfl rfl ?_
      refine k_rald_3 (n := 88) (N := cq) (f := a 3) F rfl (kIx_nI (by omega) (by decide)) dX10_coldOf_87 rfl ?_
      refine k_iconst (n := 89) (v := 2) F dX10_coldOf_88 rfl rfl ?_
      refine k_icmp_ne (n := 92) (tgt := 111) F dX10_coldOf_89 (by decide) rfl (fun hc7 => ?_) (fun hc7 => ?_)
      · refine k_iload_n (n := 112) F dX10_coldOf_111 rfl 0 rfl rfl ?_
        have ew := kwc_p hd40 hc4 (fun k => a 4 (5 * cq + k))
        simp only [← Nat.add_assoc] at ew
        have e1 : a 3 cq = 1 := kd1 hkc hc1 hc7
        exact k_iret F (by rw [hcl, cd_1 e1, ew]) rfl dX10_coldOf_112
      · refine k_iload_n (n := 93) F dX10_coldOf_92 rfl 0 rfl rfl ?_
        refine k_aload_n (n := 94) F dX10_coldOf_93 rfl 4 rfl rfl ?_
        refine k_rget_5 (n := 97) F dX10_coldOf_94 rfl ?_
        refine k_iload_n (n := 98) F dX10_coldOf_97 rfl 5 rfl rfl ?_
        refine k_rald_5 (n := 99) (N := cq) (f := a 5) F rfl (kIx_nI (by omega) (by decide)) dX10_coldOf_98 rfl ?_
        refine k_icmp_le (n := 102) (tgt := 111) F dX10_coldOf_99 (by decide) rfl (fun hc8 => ?_) (fun hc8 => ?_)
        · refine k_iload_n (n := 112) F dX10_coldOf_111 rfl 0 rfl rfl ?_
          have ew := kwc_p hd40 hc4 (fun k => a 4 (5 * cq + k))
          simp only [← Nat.add_assoc] at ew
          have h9 := hc8
          exact k_iret F (by rw [hcl, cd_2 hc7, ew]; exact (if_neg (Int32.not_lt.mpr h9)).symm) rfl dX10_coldOf_112
        · refine k_aload_n (n := 103) F dX10_coldOf_102 rfl 4 rfl rfl ?_
          refine k_rget_5 (n := 106) F dX10_coldOf_103 rfl ?_
          refine k_iload_n (n := 107) F dX10_coldOf_106 rfl 5 rfl rfl ?_
          refine k_rald_5 (n := 108) (N := cq) (f := a 5) F rfl (kIx_nI (by omega) (by decide)) dX10_coldOf_107 rfl ?_
          refine k_goto (tgt := 112) F dX10_coldOf_108 (by decide) ?_
          have ew := kwc_p hd40 hc4 (fun k => a 4 (5 * cq + k))
          simp only [← Nat.add_assoc] at ew
          have h9 := hc8
          exact k_iret F (by rw [hcl, cd_2 hc7, ew]; exact (if_pos (Int32.not_le.mp h9)).symm) rfl dX10_coldOf_112
set_option maxRecDepth 100000 in
set_option maxHeartbeats 4000000 in
theorem r_cold (l : Launch) (g : kG) (h0 : Nat) (ad : Nat → Nat) (i : Nat → Int32) (l_ : Nat → Int64) (a : Nat → Nat → Int32) (h : Nat → Int64) (x d : Int32) (h2 : 0 ≤ i 2 ∧ i 2 ≤ 6) (hk : ∀ c : Nat, c < (i 2).toNatClampNeg → a 3 c = 0 ∨ a 3 c = 1 ∨ a 3 c = 2) : kM l yX10_cold cX10_cold 3 (some .int) (rmK 2 0 0 43) g [.ref h0, .int x, .int d] (wR g h0 ad (i, l_, a, h)) (kDi g (f_cold (i, l_, a, h) x d).1 (wR g h0 ad (f_cold (i, l_, a, h) x d).2)) := by
  refine k_enter (by decide) (Nat.le_of_ble_eq_true rfl) ?_
  intro p e s m args below meth c A F
  refine k_aload_n (n := 1) F dX10_cold_0 rfl 0 rfl rfl ?_
  refine k_iconst (n := 2) (v := 0) F dX10_cold_1 rfl rfl ?_
  refine k_rput_0 (n := 5) F dX10_cold_2 rfl ?_
  refine k_aload_n (n := 6) F dX10_cold_5 rfl 0 rfl rfl ?_
  refine k_iload_n (n := 7) F dX10_cold_6 rfl 1 rfl rfl ?_
  refine k_ciR (n := 10) F (k_rV (k := 1) (b := h0) (As := [.int x]) (rest := []) F (r_isCooler l g h0 ad i l_ a h x) [0, 1, 2, 3, 4, 5, 6, 7, 8, 9, 10, 11, 12, 13, 14] rfl rfl 0 rfl rfl mw_701 mw_698 mw_700 mw_s19 mw_9 (by decide) ⟨by decide, by decide⟩ rfl (Nat.le_of_ble_eq_true rfl) ⟨by decide, by decide⟩ dX10_cold_7) [0, 1, 2, 3, 4, 5, 6, 7, 8, 9, 10, 11, 12, 13, 14] rfl rfl ?_
  refine k_if_eq (n := 13) (tgt := 23) F dX10_cold_10 (by decide) rfl (fun hc1 => ?_) (fun hc1 => ?_)
  · refine k_iconst (n := 24) (v := -1) F dX10_cold_23 rfl rfl ?_
    exact k_iret F (by first | (simp only [f_cold, hc1, if_true, if_false, not_true_eq_false, not_false_eq_true]; done) | (simp only [f_cold, hc1, if_true, if_false, not_true_eq_false, not_false_eq_true, upd, va_up, vp_updL, reduceIte, Nat.reduceEqDiff]; done) | (simp [f_cold, hc1]; done) | (simp_all [f_cold, hc1]; done)) (by first | (simp only [f_cold, hc1, if_true, if_false, not_true_eq_false, not_false_eq_true]; done) | (simp only [f_cold, hc1, if_true, if_false, not_true_eq_false, not_false_eq_true, wR, upd, va_up, vp_updL, reduceIte, Nat.reduceEqDiff]; done) | (simp [f_cold, hc1, wR, upd, va_up, vp_updL]; done) | (simp_all [f_cold, hc1, wR, upd, va_up, vp_updL]; done)) dX10_cold_24
  · refine k_iload_n (n := 14) F dX10_cold_13 rfl 2 rfl rfl ?_
    refine k_iconst (n := 15) (v := 0) F dX10_cold_14 rfl rfl ?_
    refine k_bipush (n := 17) (v := 40) F dX10_cold_15 rfl rfl ?_
    refine k_ciR (n := 20) F (k_rS (k := 3) (As := [.int d, .int 0, .int 40]) (rest := []) F (c_in l g d 0 40) [] rfl rfl mw_693 mw_691 mw_692 mw_9 (by decide) ⟨by decide, by decide⟩ rfl (Nat.le_of_ble_eq_true rfl) ⟨by decide, by decide⟩ dX10_cold_17) [] rfl rfl ?_
    refine k_if_ne (n := 23) (tgt := 25) F dX10_cold_20 (by decide) rfl (fun hc2 => ?_) (fun hc2 => ?_)
    · refine k_aload_n (n := 26) F dX10_cold_25 rfl 0 rfl rfl ?_
      refine k_dup (n := 27) F dX10_cold_26 rfl rfl ?_
      refine k_rget_1 (n := 30) (v := l_ 1) F rfl dX10_cold_27 rfl ?_
      refine k_aload_n (n := 31) F dX10_cold_30 rfl 0 rfl rfl ?_
      refine k_rget_3 (n := 34) F dX10_cold_31 rfl ?_
      refine k_iload_n (n := 35) F dX10_cold_34 rfl 1 rfl rfl ?_
      refine k_rald_3 (n := 36) (N := x.toNatClampNeg) (f := a 3) F rfl (kIx_c hc1 h2.1 h2.2) dX10_cold_35 rfl ?_
      refine k_if_ne (n := 39) (tgt := 43) F dX10_cold_36 (by decide) rfl (fun hc3 => ?_) (fun hc3 => ?_)
      · refine k_aload_n (n := 44) F dX10_cold_43 rfl 0 rfl rfl ?_
        refine k_rget_3 (n := 47) F dX10_cold_44 rfl ?_
        refine k_iload_n (n := 48) F dX10_cold_47 rfl 1 rfl rfl ?_
        refine k_rald_3 (n := 49) (N := x.toNatClampNeg) (f := a 3) F rfl (kIx_c hc1 h2.1 h2.2) dX10_cold_48 rfl ?_
        refine k_iconst (n := 50) (v := 1) F dX10_cold_49 rfl rfl ?_
        refine k_icmp_ne (n := 53) (tgt := 59) F dX10_cold_50 (by decide) rfl (fun hc4 => ?_) (fun hc4 => ?_)
        · refine k_ldc2 (n := 62) (v := 111) F mw_703 dX10_cold_59 rfl ?_
          refine k_ladd (n := 63) F dX10_cold_62 rfl ?_
          refine k_rput_1 (n := 66) (u' := (i, vp_updL l_ 1 ((l_ 1) + 111), a, h)) F rfl dX10_cold_63 rfl ?_
          refine k_aload_n (n := 67) F dX10_cold_66 rfl 0 rfl rfl ?_
          refine k_iload_n (n := 68) F dX10_cold_67 rfl 1 rfl rfl ?_
          refine k_iload_n (n := 69) F dX10_cold_68 rfl 2 rfl rfl ?_
          refine k_ciR (n := 72) F (k_rV (k := 2) (b := h0) (As := [.int x, .int d]) (rest := []) F (r_coldOf l g h0 ad i (vp_updL l_ 1 ((l_ 1) + 111)) a h x d h2 hc1 hc2 hk) [0, 1, 2, 3, 4, 5, 6, 7, 8, 9, 10, 11, 12, 13, 14] rfl rfl 0 rfl rfl mw_707 mw_704 mw_706 mw_s20 mw_9 (by decide) ⟨by decide, by decide⟩ rfl (Nat.le_of_ble_eq_true rfl) ⟨by decide, by decide⟩ dX10_cold_69) [0, 1, 2, 3, 4, 5, 6, 7, 8, 9, 10, 11, 12, 13, 14] rfl rfl ?_
          have ew := wt_2 hc3 hc4
          exact k_iret F (by simp only [f_cold, hc1, hc2, if_true, if_false, not_true_eq_false, not_false_eq_true]) (by simp only [f_cold, hc1, hc2, if_true, if_false, not_true_eq_false, not_false_eq_true, ew, wR, upd, va_up, vp_updL, reduceIte, Nat.reduceEqDiff]; rfl) dX10_cold_72
        · refine k_ldc2 (n := 56) (v := 11) F mw_702 dX10_cold_53 rfl ?_
          refine k_goto (tgt := 62) F dX10_cold_56 (by decide) ?_
          refine k_ladd (n := 63) F dX10_cold_62 rfl ?_
          refine k_rput_1 (n := 66) (u' := (i, vp_updL l_ 1 ((l_ 1) + 11), a, h)) F rfl dX10_cold_63 rfl ?_
          refine k_aload_n (n := 67) F dX10_cold_66 rfl 0 rfl rfl ?_
          refine k_iload_n (n := 68) F dX10_cold_67 rfl 1 rfl rfl ?_
          refine k_iload_n (n := 69) F dX10_cold_68 rfl 2 rfl rfl ?_
          refine k_ciR (n := 72) F (k_rV (k := 2) (b := h0) (As := [.int x, .int d]) (rest := []) F (r_coldOf l g h0 ad i (vp_updL l_ 1 ((l_ 1) + 11)) a h x d h2 hc1 hc2 hk) [0, 1, 2, 3, 4, 5, 6, 7, 8, 9, 10, 11, 12, 13, 14] rfl rfl 0 rfl rfl mw_707 mw_704 mw_706 mw_s20 mw_9 (by decide) ⟨by decide, by decide⟩ rfl (Nat.le_of_ble_eq_true rfl) ⟨by decide, by decide⟩ dX10_cold_69) [0, 1, 2, 3, 4, 5, 6, 7, 8, 9, 10, 11, 12, 13, 14] rfl rfl ?_
          have ew := wt_1 hc4
          exact k_iret F (by simp only [f_cold, hc1, hc2, if_true, if_false, not_true_eq_false, not_false_eq_true]) (by simp only [f_cold, hc1, hc2, if_true, if_false, not_true_eq_false, not_false_eq_true, ew, wR, upd, va_up, vp_updL, reduceIte, Nat.reduceEqDiff]; rfl) dX10_cold_72
      · refine k_lconst (n := 40) (v := 1) F dX10_cold_39 rfl rfl ?_
        refine k_goto (tgt := 62) F dX10_cold_40 (by decide) ?_
        refine k_ladd (n := 63) F dX10_cold_62 rfl ?_
        refine k_rput_1 (n := 66) (u' := (i, vp_updL l_ 1 ((l_ 1) + 1), a, h)) F rfl dX10_cold_63 rfl ?_
        refine k_aload_n (n := 67) F dX10_cold_66 rfl 0 rfl rfl ?_
        refine k_iload_n (n := 68) F dX10_cold_67 rfl 1 rfl rfl ?_
        refine k_iload_n (n := 69) F dX10_cold_68 rfl 2 rfl rfl ?_
        refine k_ciR (n := 72) F (k_rV (k := 2) (b := h0) (As := [.int x, .int d]) (rest := []) F (r_coldOf l g h0 ad i (vp_updL l_ 1 ((l_ 1) + 1)) a h x d h2 hc1 hc2 hk) [0, 1, 2, 3, 4, 5, 6, 7, 8, 9, 10, 11, 12, 13, 14] rfl rfl 0 rfl rfl mw_707 mw_704 mw_706 mw_s20 mw_9 (by decide) ⟨by decide, by decide⟩ rfl (Nat.le_of_ble_eq_true rfl) ⟨by decide, by decide⟩ dX10_cold_69) [0, 1, 2, 3, 4, 5, 6, 7, 8, 9, 10, 11, 12, 13, 14] rfl rfl ?_
        have ew := wt_0 hc3
        exact k_iret F (by simp only [f_cold, hc1, hc2, if_true, if_false, not_true_eq_false, not_false_eq_true]) (by simp only [f_cold, hc1, hc2, if_true, if_false, not_true_eq_false, not_false_eq_true, ew, wR, upd, va_up, vp_updL, reduceIte, Nat.reduceEqDiff]; rfl) dX10_cold_72
    · refine k_iconst (n := 24) (v := -1) F dX10_cold_23 rfl rfl ?_
      exact k_iret F (by first | (simp only [f_cold, hc1, hc2, if_true, if_false, not_true_eq_false, not_false_eq_true]; done) | (simp only [f_cold, hc1, hc2, if_true, if_false, not_true_eq_false, not_false_eq_true, upd, va_up, vp_updL, reduceIte, Nat.reduceEqDiff]; done) | (simp [f_cold, hc1, hc2]; done) | (simp_all [f_cold, hc1, hc2]; done)) (by first | (simp only [f_cold, hc1, hc2, if_true, if_false, not_true_eq_false, not_false_eq_true]; done) | (simp only [f_cold, hc1, hc2, if_true, if_false, not_true_eq_false, not_false_eq_true, wR, upd, va_up, vp_updL, reduceIte, Nat.reduceEqDiff]; done) | (simp [f_cold, hc1, hc2, wR, upd, va_up, vp_updL]; done) | (simp_all [f_cold, hc1, hc2, wR, upd, va_up, vp_updL]; done)) dX10_cold_24
set_option maxRecDepth 100000 in
set_option maxHeartbeats 4000000 in
theorem r_loads (l : Launch) (g : kG) (h0 : Nat) (ad : Nat → Nat) (i : Nat → Int32) (l_ : Nat → Int64) (a : Nat → Nat → Int32) (h : Nat → Int64) (hon : a 22 0 = 1 ∨ a 22 1 = 1) (hr0 : a 22 0 = 0 → a 24 0 = 0) (hr1 : a 22 1 = 0 → a 24 1 = 0) : kM l yX10_loads cX10_loads 2 none (rmK 1 0 0 20) g [.ref h0] (wR g h0 ad (i, l_, a, h)) (kDv g (wR g h0 ad (ldT (i, l_, a, h)))) := by
  refine k_enter (by decide) (Nat.le_of_ble_eq_true rfl) ?_
  intro p e s m args below meth c A F
  refine k_aload_n (n := 1) F dX10_loads_0 rfl 0 rfl rfl ?_
  refine k_rget_22 (n := 4) F dX10_loads_1 rfl ?_
  refine k_iconst (n := 5) (v := 0) F dX10_loads_4 rfl rfl ?_
  refine k_rald_22 (n := 6) (N := 0) (f := a 22) F rfl (kIx_nI (j := 0) (by decide) (by decide)) dX10_loads_5 rfl ?_
  refine k_iconst (n := 7) (v := 1) F dX10_loads_6 rfl rfl ?_
  refine k_icmp_ne (n := 10) (tgt := 14) F dX10_loads_7 (by decide) rfl (fun hc1 => ?_) (fun hc1 => ?_)
  · refine k_iconst (n := 15) (v := 1) F dX10_loads_14 rfl rfl ?_
    refine k_istore_n (n := 16) (lv' := [(1, .int 1), (0, .ref h0)]) F dX10_loads_15 rfl (by decide) rfl rfl ?_
    refine k_aload_n (n := 17) F dX10_loads_16 rfl 1 rfl rfl ?_
    refine k_rget_23 (n := 20) F dX10_loads_17 rfl ?_
    refine k_iload_n (n := 21) F dX10_loads_20 rfl 0 rfl rfl ?_
    refine k_dup2_11 (n := 22) F dX10_loads_21 rfl rfl rfl ?_
    refine k_rald_23 (n := 23) (N := 1) (f := a 23) F rfl (kIx_nI (j := 1) (by decide) (by decide)) dX10_loads_22 rfl ?_
    refine k_iconst (n := 24) (v := 1) F dX10_loads_23 rfl rfl ?_
    refine k_iadd (n := 25) F dX10_loads_24 rfl ?_
    refine k_rast_23 (n := 26) (N := 1) (f := a 23) (u' := (i, l_, va_up a 23 (upd (a 23) 1 (((a 23) 1) + 1)), h)) F rfl (kIx_nI (j := 1) (by decide) (by decide)) rfl dX10_loads_25 rfl ?_
    refine k_aload_n (n := 27) F dX10_loads_26 rfl 1 rfl rfl ?_
    refine k_rget_23 (n := 30) F dX10_loads_27 rfl ?_
    refine k_iload_n (n := 31) F dX10_loads_30 rfl 0 rfl rfl ?_
    refine k_rald_23 (n := 32) (N := 1) (f := upd (a 23) 1 (((a 23) 1) + 1)) F (show (va_up a 23 (upd (a 23) 1 (((a 23) 1) + 1))) 23 = upd (a 23) 1 (((a 23) 1) + 1) from va_up_self _ _ _) (kIx_nI (j := 1) (by decide) (by decide)) dX10_loads_31 rfl ?_
    refine k_aload_n (n := 33) F dX10_loads_32 rfl 1 rfl rfl ?_
    refine k_rget_10 (n := 36) F dX10_loads_33 rfl ?_
    refine k_iconst (n := 37) (v := 4) F dX10_loads_36 rfl rfl ?_
    refine k_rald_10 (n := 38) (N := 4) (f := a 10) F (show (va_up a 23 (upd (a 23) 1 (((a 23) 1) + 1))) 10 = a 10 from va_up_ne _ (k := 23) (j := 10) _ (by decide)) (kIx_nI (j := 4) (by decide) (by decide)) dX10_loads_37 rfl ?_
    refine k_icmp_ge (n := 41) (tgt := 42) F dX10_loads_38 (by decide) rfl (fun hc2 => ?_) (fun hc2 => ?_)
    · refine k_aload_n (n := 43) F dX10_loads_42 rfl 1 rfl rfl ?_
      refine k_rget_22 (n := 46) F dX10_loads_43 rfl ?_
      refine k_iload_n (n := 47) F dX10_loads_46 rfl 0 rfl rfl ?_
      refine k_iconst (n := 48) (v := 2) F dX10_loads_47 rfl rfl ?_
      refine k_rast_22 (n := 49) (N := 1) (f := a 22) (u' := (i, l_, va_up (va_up a 23 (upd (a 23) 1 (((a 23) 1) + 1))) 22 (upd (a 22) 1 2), h)) F (show (va_up a 23 (upd (a 23) 1 (((a 23) 1) + 1))) 22 = a 22 from va_up_ne _ (k := 23) (j := 22) _ (by decide)) (kIx_nI (j := 1) (by decide) (by decide)) rfl dX10_loads_48 rfl ?_
      refine k_aload_n (n := 50) F dX10_loads_49 rfl 1 rfl rfl ?_
      refine k_rget_24 (n := 53) F dX10_loads_50 rfl ?_
      refine k_iload_n (n := 54) F dX10_loads_53 rfl 0 rfl rfl ?_
      refine k_iconst (n := 55) (v := 0) F dX10_loads_54 rfl rfl ?_
      refine k_rast_24 (n := 56) (N := 1) (f := a 24) (u' := (i, l_, va_up (va_up (va_up a 23 (upd (a 23) 1 (((a 23) 1) + 1))) 22 (upd (a 22) 1 2)) 24 (upd (a 24) 1 0), h)) F (show (va_up (va_up a 23 (upd (a 23) 1 (((a 23) 1) + 1))) 22 (upd (a 22) 1 2)) 24 = a 24 from (va_up_ne _ (k := 22) (j := 24) _ (by decide)).trans (va_up_ne _ (k := 23) (j := 24) _ (by decide))) (kIx_nI (j := 1) (by decide) (by decide)) rfl dX10_loads_55 rfl ?_
      refine k_aload_n (n := 57) F dX10_loads_56 rfl 1 rfl rfl ?_
      refine k_rget_22 (n := 60) F dX10_loads_57 rfl ?_
      refine k_iconst (n := 61) (v := 1) F dX10_loads_60 rfl rfl ?_
      refine k_iload_n (n := 62) F dX10_loads_61 rfl 0 rfl rfl ?_
      refine k_isub (n := 63) F dX10_loads_62 rfl ?_
      refine k_valI (y := 0) rfl ?_
      refine k_rald_22 (n := 64) (N := 0) (f := upd (a 22) 1 2) F (show (va_up (va_up (va_up a 23 (upd (a 23) 1 (((a 23) 1) + 1))) 22 (upd (a 22) 1 2)) 24 (upd (a 24) 1 0)) 22 = upd (a 22) 1 2 from (va_up_ne _ (k := 24) (j := 22) _ (by decide)).trans (va_up_self _ _ _)) (kIx_nI (j := 0) (by decide) (by decide)) dX10_loads_63 rfl ?_
      refine k_if_ne (n := 67) (tgt := 79) F dX10_loads_64 (by decide) rfl (fun hc3 => ?_) (fun hc3 => ?_)
      · refine k_aload_n (n := 80) F dX10_loads_79 rfl 1 rfl rfl ?_
        have h8 := hc2
        simp only [pk_us] at h8
        have h9 := hc3
        rw [pk_un (show (0 : Nat) ≠ 1 by decide)] at h9
        have e := ldC1 (a 22 0) (a 23 0) (a 24 0) (a 22 1) (a 23 1) (a 24 1) (a 10 4) hc1 (ld_on hc1 hon) h8 h9
        refine k_world (ws' := wR g h0 ad (ld_S (i, l_, a, h))) (by simp only [ld_S, e.2.1, e.2.2.1, e.2.2.2.1, e.2.2.2.2.1, e.2.2.2.2.2.1, e.2.2.2.2.2.2, wR, fa_upd_self, fa_upd_twice, fa_upd_01, fa_upd_s1, va_up, reduceIte, Nat.reduceEqDiff]) ?_
        refine k_cvA (n := 83) (w0 := wR g h0 ad (s_trips (ld_S (i, l_, a, h)))) (is := [0, 1, 2, 3, 4, 5, 6, 7, 8, 9, 10, 11, 12, 13, 14]) F (k_rV (k := 0) (b := h0) (As := []) (rest := []) F (r_trips l g h0 ad (((ld_S (i, l_, a, h))).1) (((ld_S (i, l_, a, h))).2.1) (((ld_S (i, l_, a, h))).2.2.1) (((ld_S (i, l_, a, h))).2.2.2)) [0, 1, 2, 3, 4, 5, 6, 7, 8, 9, 10, 11, 12, 13, 14] rfl rfl 0 rfl rfl mw_744 mw_741 mw_743 mw_s21 mw_9 (by decide) ⟨by decide, by decide⟩ rfl (Nat.le_of_ble_eq_true rfl) ⟨by decide, by decide⟩ dX10_loads_80) rfl rfl ?_
        have eT : ldT (i, l_, a, h) = s_trips (ld_S (i, l_, a, h)) := if_pos e.1
        exact k_vret F (by rw [eT]) dX10_loads_83
      · refine k_aload_n (n := 68) F dX10_loads_67 rfl 1 rfl rfl ?_
        refine k_rget_22 (n := 71) F dX10_loads_68 rfl ?_
        refine k_iconst (n := 72) (v := 1) F dX10_loads_71 rfl rfl ?_
        refine k_iload_n (n := 73) F dX10_loads_72 rfl 0 rfl rfl ?_
        refine k_isub (n := 74) F dX10_loads_73 rfl ?_
        refine k_valI (y := 0) rfl ?_
        refine k_iconst (n := 75) (v := 1) F dX10_loads_74 rfl rfl ?_
        refine k_rast_22 (n := 76) (N := 0) (f := upd (a 22) 1 2) (u' := (i, l_, va_up (va_up (va_up (va_up a 23 (upd (a 23) 1 (((a 23) 1) + 1))) 22 (upd (a 22) 1 2)) 24 (upd (a 24) 1 0)) 22 (upd (upd (a 22) 1 2) 0 1), h)) F (show (va_up (va_up (va_up a 23 (upd (a 23) 1 (((a 23) 1) + 1))) 22 (upd (a 22) 1 2)) 24 (upd (a 24) 1 0)) 22 = upd (a 22) 1 2 from (va_up_ne _ (k := 24) (j := 22) _ (by decide)).trans (va_up_self _ _ _)) (kIx_nI (j := 0) (by decide) (by decide)) rfl dX10_loads_75 rfl ?_
        refine k_goto (tgt := 83) F dX10_loads_76 (by decide) ?_
        have h8 := hc2
        simp only [pk_us] at h8
        have h9 := hc3
        rw [pk_un (show (0 : Nat) ≠ 1 by decide)] at h9
        have e := ldB1 (a 22 0) (a 23 0) (a 24 0) (a 22 1) (a 23 1) (a 24 1) (a 10 4) hc1 (ld_on hc1 hon) h8 h9 (hr0 h9)
        have eT : ldT (i, l_, a, h) = ld_S (i, l_, a, h) := if_neg (by rw [show ld_R (i, l_, a, h) = 1 from e.1]; decide)
        exact k_vret F (by rw [eT]; simp only [ld_S, e.2.1, e.2.2.1, e.2.2.2.1, e.2.2.2.2.1, e.2.2.2.2.2.1, e.2.2.2.2.2.2, wR, fa_upd_self, fa_upd_twice, fa_upd_01, fa_upd_s1, va_up, reduceIte, Nat.reduceEqDiff]) dX10_loads_83
    · have h8 := hc2
      simp only [pk_us] at h8
      have e := ldA1 (a 22 0) (a 23 0) (a 24 0) (a 22 1) (a 23 1) (a 24 1) (a 10 4) hc1 (ld_on hc1 hon) h8
      have eT : ldT (i, l_, a, h) = ld_S (i, l_, a, h) := if_neg (by rw [show ld_R (i, l_, a, h) = 1 from e.1]; decide)
      exact k_vret F (by rw [eT]; simp only [ld_S, e.2.1, e.2.2.1, e.2.2.2.1, e.2.2.2.2.1, e.2.2.2.2.2.1, e.2.2.2.2.2.2, wR, fa_upd_self, fa_upd_twice, fa_upd_01, fa_upd_s1, va_up, reduceIte, Nat.reduceEqDiff]) dX10_loads_41
  · refine k_iconst (n := 11) (v := 0) F dX10_loads_10 rfl rfl ?_
    refine k_goto (tgt := 15) F dX10_loads_11 (by decide) ?_
    refine k_istore_n (n := 16) (lv' := [(1, .int 0), (0, .ref h0)]) F dX10_loads_15 rfl (by decide) rfl rfl ?_
    refine k_aload_n (n := 17) F dX10_loads_16 rfl 1 rfl rfl ?_
    refine k_rget_23 (n := 20) F dX10_loads_17 rfl ?_
    refine k_iload_n (n := 21) F dX10_loads_20 rfl 0 rfl rfl ?_
    refine k_dup2_11 (n := 22) F dX10_loads_21 rfl rfl rfl ?_
    refine k_rald_23 (n := 23) (N := 0) (f := a 23) F rfl (kIx_nI (j := 0) (by decide) (by decide)) dX10_loads_22 rfl ?_
    refine k_iconst (n := 24) (v := 1) F dX10_loads_23 rfl rfl ?_
    refine k_iadd (n := 25) F dX10_loads_24 rfl ?_
    refine k_rast_23 (n := 26) (N := 0) (f := a 23) (u' := (i, l_, va_up a 23 (upd (a 23) 0 (((a 23) 0) + 1)), h)) F rfl (kIx_nI (j := 0) (by decide) (by decide)) rfl dX10_loads_25 rfl ?_
    refine k_aload_n (n := 27) F dX10_loads_26 rfl 1 rfl rfl ?_
    refine k_rget_23 (n := 30) F dX10_loads_27 rfl ?_
    refine k_iload_n (n := 31) F dX10_loads_30 rfl 0 rfl rfl ?_
    refine k_rald_23 (n := 32) (N := 0) (f := upd (a 23) 0 (((a 23) 0) + 1)) F (show (va_up a 23 (upd (a 23) 0 (((a 23) 0) + 1))) 23 = upd (a 23) 0 (((a 23) 0) + 1) from va_up_self _ _ _) (kIx_nI (j := 0) (by decide) (by decide)) dX10_loads_31 rfl ?_
    refine k_aload_n (n := 33) F dX10_loads_32 rfl 1 rfl rfl ?_
    refine k_rget_10 (n := 36) F dX10_loads_33 rfl ?_
    refine k_iconst (n := 37) (v := 4) F dX10_loads_36 rfl rfl ?_
    refine k_rald_10 (n := 38) (N := 4) (f := a 10) F (show (va_up a 23 (upd (a 23) 0 (((a 23) 0) + 1))) 10 = a 10 from va_up_ne _ (k := 23) (j := 10) _ (by decide)) (kIx_nI (j := 4) (by decide) (by decide)) dX10_loads_37 rfl ?_
    refine k_icmp_ge (n := 41) (tgt := 42) F dX10_loads_38 (by decide) rfl (fun hc4 => ?_) (fun hc4 => ?_)
    · refine k_aload_n (n := 43) F dX10_loads_42 rfl 1 rfl rfl ?_
      refine k_rget_22 (n := 46) F dX10_loads_43 rfl ?_
      refine k_iload_n (n := 47) F dX10_loads_46 rfl 0 rfl rfl ?_
      refine k_iconst (n := 48) (v := 2) F dX10_loads_47 rfl rfl ?_
      refine k_rast_22 (n := 49) (N := 0) (f := a 22) (u' := (i, l_, va_up (va_up a 23 (upd (a 23) 0 (((a 23) 0) + 1))) 22 (upd (a 22) 0 2), h)) F (show (va_up a 23 (upd (a 23) 0 (((a 23) 0) + 1))) 22 = a 22 from va_up_ne _ (k := 23) (j := 22) _ (by decide)) (kIx_nI (j := 0) (by decide) (by decide)) rfl dX10_loads_48 rfl ?_
      refine k_aload_n (n := 50) F dX10_loads_49 rfl 1 rfl rfl ?_
      refine k_rget_24 (n := 53) F dX10_loads_50 rfl ?_
      refine k_iload_n (n := 54) F dX10_loads_53 rfl 0 rfl rfl ?_
      refine k_iconst (n := 55) (v := 0) F dX10_loads_54 rfl rfl ?_
      refine k_rast_24 (n := 56) (N := 0) (f := a 24) (u' := (i, l_, va_up (va_up (va_up a 23 (upd (a 23) 0 (((a 23) 0) + 1))) 22 (upd (a 22) 0 2)) 24 (upd (a 24) 0 0), h)) F (show (va_up (va_up a 23 (upd (a 23) 0 (((a 23) 0) + 1))) 22 (upd (a 22) 0 2)) 24 = a 24 from (va_up_ne _ (k := 22) (j := 24) _ (by decide)).trans (va_up_ne _ (k := 23) (j := 24) _ (by decide))) (kIx_nI (j := 0) (by decide) (by decide)) rfl dX10_loads_55 rfl ?_
      refine k_aload_n (n := 57) F dX10_loads_56 rfl 1 rfl rfl ?_
      refine k_rget_22 (n := 60) F dX10_loads_57 rfl ?_
      refine k_iconst (n := 61) (v := 1) F dX10_loads_60 rfl rfl ?_
      refine k_iload_n (n := 62) F dX10_loads_61 rfl 0 rfl rfl ?_
      refine k_isub (n := 63) F dX10_loads_62 rfl ?_
      refine k_valI (y := 1) rfl ?_
      refine k_rald_22 (n := 64) (N := 1) (f := upd (a 22) 0 2) F (show (va_up (va_up (va_up a 23 (upd (a 23) 0 (((a 23) 0) + 1))) 22 (upd (a 22) 0 2)) 24 (upd (a 24) 0 0)) 22 = upd (a 22) 0 2 from (va_up_ne _ (k := 24) (j := 22) _ (by decide)).trans (va_up_self _ _ _)) (kIx_nI (j := 1) (by decide) (by decide)) dX10_loads_63 rfl ?_
      refine k_if_ne (n := 67) (tgt := 79) F dX10_loads_64 (by decide) rfl (fun hc5 => ?_) (fun hc5 => ?_)
      · refine k_aload_n (n := 80) F dX10_loads_79 rfl 1 rfl rfl ?_
        have h8 := hc4
        simp only [pk_us] at h8
        have h9 := hc5
        rw [pk_un (show (1 : Nat) ≠ 0 by decide)] at h9
        have e := ldC0 (a 22 0) (a 23 0) (a 24 0) (a 22 1) (a 23 1) (a 24 1) (a 10 4) hc1 h8 h9
        refine k_world (ws' := wR g h0 ad (ld_S (i, l_, a, h))) (by simp only [ld_S, e.2.1, e.2.2.1, e.2.2.2.1, e.2.2.2.2.1, e.2.2.2.2.2.1, e.2.2.2.2.2.2, wR, fa_upd_self, fa_upd_twice, fa_upd_01, fa_upd_s1, va_up, reduceIte, Nat.reduceEqDiff]) ?_
        refine k_cvA (n := 83) (w0 := wR g h0 ad (s_trips (ld_S (i, l_, a, h)))) (is := [0, 1, 2, 3, 4, 5, 6, 7, 8, 9, 10, 11, 12, 13, 14]) F (k_rV (k := 0) (b := h0) (As := []) (rest := []) F (r_trips l g h0 ad (((ld_S (i, l_, a, h))).1) (((ld_S (i, l_, a, h))).2.1) (((ld_S (i, l_, a, h))).2.2.1) (((ld_S (i, l_, a, h))).2.2.2)) [0, 1, 2, 3, 4, 5, 6, 7, 8, 9, 10, 11, 12, 13, 14] rfl rfl 0 rfl rfl mw_744 mw_741 mw_743 mw_s21 mw_9 (by decide) ⟨by decide, by decide⟩ rfl (Nat.le_of_ble_eq_true rfl) ⟨by decide, by decide⟩ dX10_loads_80) rfl rfl ?_
        have eT : ldT (i, l_, a, h) = s_trips (ld_S (i, l_, a, h)) := if_pos e.1
        exact k_vret F (by rw [eT]) dX10_loads_83
      · refine k_aload_n (n := 68) F dX10_loads_67 rfl 1 rfl rfl ?_
        refine k_rget_22 (n := 71) F dX10_loads_68 rfl ?_
        refine k_iconst (n := 72) (v := 1) F dX10_loads_71 rfl rfl ?_
        refine k_iload_n (n := 73) F dX10_loads_72 rfl 0 rfl rfl ?_
        refine k_isub (n := 74) F dX10_loads_73 rfl ?_
        refine k_valI (y := 1) rfl ?_
        refine k_iconst (n := 75) (v := 1) F dX10_loads_74 rfl rfl ?_
        refine k_rast_22 (n := 76) (N := 1) (f := upd (a 22) 0 2) (u' := (i, l_, va_up (va_up (va_up (va_up a 23 (upd (a 23) 0 (((a 23) 0) + 1))) 22 (upd (a 22) 0 2)) 24 (upd (a 24) 0 0)) 22 (upd (upd (a 22) 0 2) 1 1), h)) F (show (va_up (va_up (va_up a 23 (upd (a 23) 0 (((a 23) 0) + 1))) 22 (upd (a 22) 0 2)) 24 (upd (a 24) 0 0)) 22 = upd (a 22) 0 2 from (va_up_ne _ (k := 24) (j := 22) _ (by decide)).trans (va_up_self _ _ _)) (kIx_nI (j := 1) (by decide) (by decide)) rfl dX10_loads_75 rfl ?_
        refine k_goto (tgt := 83) F dX10_loads_76 (by decide) ?_
        have h8 := hc4
        simp only [pk_us] at h8
        have h9 := hc5
        rw [pk_un (show (1 : Nat) ≠ 0 by decide)] at h9
        have e := ldB0 (a 22 0) (a 23 0) (a 24 0) (a 22 1) (a 23 1) (a 24 1) (a 10 4) hc1 h8 h9 (hr1 h9)
        have eT : ldT (i, l_, a, h) = ld_S (i, l_, a, h) := if_neg (by rw [show ld_R (i, l_, a, h) = 1 from e.1]; decide)
        exact k_vret F (by rw [eT]; simp only [ld_S, e.2.1, e.2.2.1, e.2.2.2.1, e.2.2.2.2.1, e.2.2.2.2.2.1, e.2.2.2.2.2.2, wR, fa_upd_self, fa_upd_twice, fa_upd_01, fa_upd_s1, va_up, reduceIte, Nat.reduceEqDiff]) dX10_loads_83
    · have h8 := hc4
      simp only [pk_us] at h8
      have e := ldA0 (a 22 0) (a 23 0) (a 24 0) (a 22 1) (a 23 1) (a 24 1) (a 10 4) hc1 h8
      have eT : ldT (i, l_, a, h) = ld_S (i, l_, a, h) := if_neg (by rw [show ld_R (i, l_, a, h) = 1 from e.1]; decide)
      exact k_vret F (by rw [eT]; simp only [ld_S, e.2.1, e.2.2.1, e.2.2.2.1, e.2.2.2.2.1, e.2.2.2.2.2.1, e.2.2.2.2.2.2, wR, fa_upd_self, fa_upd_twice, fa_upd_01, fa_upd_s1, va_up, reduceIte, Nat.reduceEqDiff]) dX10_loads_41
