theorem kl_f {cells slots a b : Nat} {R : Room} (h : cells + 2 ≤ R.cells ∧ slots + 7 ≤ R.slots) (ha : a ≤ 2) (hb : b ≤ 7) : cells + a ≤ R.cells ∧ slots + b ≤ R.slots := ⟨Nat.le_trans (Nat.add_le_add_left ha _) h.1, Nat.le_trans (Nat.add_le_add_left hb _) h.2⟩
theorem kl_g {cells slots a b : Nat} {R : Room} (h : cells + 2 ≤ R.cells ∧ slots + 7 ≤ R.slots) (ha : a = 0) (hb : b = 0) : cells + 2 + a ≤ R.cells ∧ slots + 7 + b ≤ R.slots := by
  subst ha hb
  exact h
set_option maxRecDepth 100000 in
set_option maxHeartbeats 4000000 in
theorem lc_cooler {p : Program} (l : Launch) {e : Env} {s : State} {m : MethodId} {args : Array Value} {below : List Frame} {meth : Method} {c : Code} {Q : State → Prop} {g : kG} {A : Nat → Prop} {ret0 : Option FieldType} {nm : String} {b h0 B cells slots : Nat} {L : Nat} {xs : Nat → Int32} {x : Int32} {y1 y2 y3 y4 y5 y6 y7 : Int32} {adC ca cb adR : Nat → Nat} {i : Nat → Int32} {l_ : Nat → Int64} {a : Nat → Nat → Int32} {h : Nat → Int64} (F : kF p s m args meth c g A 4 cL_law "ColdWorksLaw" ret0 nm) (hX : va_X b L xs s s.heap) (hbl : b < s.heap.size) (hbA : ¬ A b) (hy1 : vp_in (x + 1) L ∧ xs (x + 1).toNatClampNeg = y1) (hy2 : vp_in (x + 2) L ∧ xs (x + 2).toNatClampNeg = y2) (hy3 : vp_in (x + 3) L ∧ xs (x + 3).toNatClampNeg = y3) (hy4 : vp_in (x + 4) L ∧ xs (x + 4).toNatClampNeg = y4) (hy5 : vp_in (x + 5) L ∧ xs (x + 5).toNatClampNeg = y5) (hy6 : vp_in (x + 6) L ∧ xs (x + 6).toNatClampNeg = y6) (hy7 : vp_in (x + 7) L ∧ xs (x + 7).toNatClampNeg = y7) (hI : Inv B (i, l_, a, h)) (hB : B + 60 < 1000000) (hcs : cells + 2 ≤ room_1.cells ∧ slots + 7 ≤ room_1.slots) (nx : ∀ (ca cb : Nat → Nat) (u : kS), Inv (B + 60) u → KW p l e room_1 s m args below meth c Q g A 4 (wK g adC ca cb u ++ wR g h0 adR u) (cells + 2) (slots + 7) 820 [(3, .int x), (2, .ref h0), (1, .ref (adC 0)), (0, .ref b)] []) : KW p l e room_1 s m args below meth c Q g A 4 (wK g adC ca cb (i, l_, a, h) ++ wR g h0 adR (i, l_, a, h)) cells slots 144 [(3, .int x), (2, .ref h0), (1, .ref (adC 0)), (0, .ref b)] [] := by
  refine k_aload_n (n := 145) F dL_law_144 rfl 2 rfl rfl ?_
  refine k_aload_n (n := 146) F dL_law_145 rfl 3 rfl rfl ?_
  refine k_iload_n (n := 147) F dL_law_146 rfl 0 rfl rfl ?_
  refine k_iconst (n := 148) (v := 1) F dL_law_147 rfl rfl ?_
  refine k_iadd (n := 149) F dL_law_148 rfl ?_
  refine k_sld (n := 150) F hX hbl hbA hy1 dL_law_149 rfl ?_
  refine k_aload_n (n := 151) F dL_law_150 rfl 3 rfl rfl ?_
  refine k_iload_n (n := 152) F dL_law_151 rfl 0 rfl rfl ?_
  refine k_iconst (n := 153) (v := 2) F dL_law_152 rfl rfl ?_
  refine k_iadd (n := 154) F dL_law_153 rfl ?_
  refine k_sld (n := 155) F hX hbl hbA hy2 dL_law_154 rfl ?_
  refine k_aload_n (n := 156) F dL_law_155 rfl 3 rfl rfl ?_
  refine k_iload_n (n := 157) F dL_law_156 rfl 0 rfl rfl ?_
  refine k_iconst (n := 158) (v := 3) F dL_law_157 rfl rfl ?_
  refine k_iadd (n := 159) F dL_law_158 rfl ?_
  refine k_sld (n := 160) F hX hbl hbA hy3 dL_law_159 rfl ?_
  refine k_aload_n (n := 161) F dL_law_160 rfl 3 rfl rfl ?_
  refine k_iload_n (n := 162) F dL_law_161 rfl 0 rfl rfl ?_
  refine k_iconst (n := 163) (v := 4) F dL_law_162 rfl rfl ?_
  refine k_iadd (n := 164) F dL_law_163 rfl ?_
  refine k_sld (n := 165) F hX hbl hbA hy4 dL_law_164 rfl ?_
  refine k_aload_n (n := 166) F dL_law_165 rfl 3 rfl rfl ?_
  refine k_iload_n (n := 167) F dL_law_166 rfl 0 rfl rfl ?_
  refine k_iconst (n := 168) (v := 5) F dL_law_167 rfl rfl ?_
  refine k_iadd (n := 169) F dL_law_168 rfl ?_
  refine k_sld (n := 170) F hX hbl hbA hy5 dL_law_169 rfl ?_
  refine k_aload_n (n := 171) F dL_law_170 rfl 3 rfl rfl ?_
  refine k_iload_n (n := 172) F dL_law_171 rfl 0 rfl rfl ?_
  refine k_bipush (n := 174) (v := 6) F dL_law_172 rfl rfl ?_
  refine k_iadd (n := 175) F dL_law_174 rfl ?_
  refine k_sld (n := 176) F hX hbl hbA hy6 dL_law_175 rfl ?_
  refine k_aload_n (n := 177) F dL_law_176 rfl 3 rfl rfl ?_
  refine k_iload_n (n := 178) F dL_law_177 rfl 0 rfl rfl ?_
  refine k_bipush (n := 180) (v := 7) F dL_law_178 rfl rfl ?_
  refine k_iadd (n := 181) F dL_law_180 rfl ?_
  refine k_sld (n := 182) F hX hbl hbA hy7 dL_law_181 rfl ?_
  refine kl_K (n := 185) (k := 7) (As := [.int y1, .int y2, .int y3, .int y4, .int y5, .int y6, .int y7]) (rest := []) (u := (i, l_, a, h)) (v := (f_cooler (i, l_, a, h) y1 y2 y3 y4 y5 y6 y7).2) (r0 := (f_cooler (i, l_, a, h) y1 y2 y3 y4 y5 y6 y7).1) (ad := adC) (ca := ca) (cb := cb) F (c_cooler l g adC ca cb i l_ a h y1 y2 y3 y4 y5 y6 y7 hI.1.1) rfl mw_240 mw_237 mw_238 mw_239 mw_1 (by decide) ⟨by decide, by decide⟩ rfl (Nat.le_of_ble_eq_true rfl) (kl_f hcs (by decide) (by decide)) dL_law_182 rfl ⟨by decide, by decide⟩ (fun ca cb => ?_)
  refine k_aload_n (n := 186) F dL_law_185 rfl 1 rfl rfl ?_
  refine k_aload_n (n := 187) F dL_law_186 rfl 3 rfl rfl ?_
  refine k_iload_n (n := 188) F dL_law_187 rfl 0 rfl rfl ?_
  refine k_iconst (n := 189) (v := 1) F dL_law_188 rfl rfl ?_
  refine k_iadd (n := 190) F dL_law_189 rfl ?_
  refine k_sld (n := 191) F hX hbl hbA hy1 dL_law_190 rfl ?_
  refine k_aload_n (n := 192) F dL_law_191 rfl 3 rfl rfl ?_
  refine k_iload_n (n := 193) F dL_law_192 rfl 0 rfl rfl ?_
  refine k_iconst (n := 194) (v := 2) F dL_law_193 rfl rfl ?_
  refine k_iadd (n := 195) F dL_law_194 rfl ?_
  refine k_sld (n := 196) F hX hbl hbA hy2 dL_law_195 rfl ?_
  refine k_aload_n (n := 197) F dL_law_196 rfl 3 rfl rfl ?_
  refine k_iload_n (n := 198) F dL_law_197 rfl 0 rfl rfl ?_
  refine k_iconst (n := 199) (v := 3) F dL_law_198 rfl rfl ?_
  refine k_iadd (n := 200) F dL_law_199 rfl ?_
  refine k_sld (n := 201) F hX hbl hbA hy3 dL_law_200 rfl ?_
  refine k_aload_n (n := 202) F dL_law_201 rfl 3 rfl rfl ?_
  refine k_iload_n (n := 203) F dL_law_202 rfl 0 rfl rfl ?_
  refine k_iconst (n := 204) (v := 4) F dL_law_203 rfl rfl ?_
  refine k_iadd (n := 205) F dL_law_204 rfl ?_
  refine k_sld (n := 206) F hX hbl hbA hy4 dL_law_205 rfl ?_
  refine k_aload_n (n := 207) F dL_law_206 rfl 3 rfl rfl ?_
  refine k_iload_n (n := 208) F dL_law_207 rfl 0 rfl rfl ?_
  refine k_iconst (n := 209) (v := 5) F dL_law_208 rfl rfl ?_
  refine k_iadd (n := 210) F dL_law_209 rfl ?_
  refine k_sld (n := 211) F hX hbl hbA hy5 dL_law_210 rfl ?_
  refine k_aload_n (n := 212) F dL_law_211 rfl 3 rfl rfl ?_
  refine k_iload_n (n := 213) F dL_law_212 rfl 0 rfl rfl ?_
  refine k_bipush (n := 215) (v := 6) F dL_law_213 rfl rfl ?_
  refine k_iadd (n := 216) F dL_law_215 rfl ?_
  refine k_sld (n := 217) F hX hbl hbA hy6 dL_law_216 rfl ?_
  refine k_aload_n (n := 218) F dL_law_217 rfl 3 rfl rfl ?_
  refine k_iload_n (n := 219) F dL_law_218 rfl 0 rfl rfl ?_
  refine k_bipush (n := 221) (v := 7) F dL_law_219 rfl rfl ?_
  refine k_iadd (n := 222) F dL_law_221 rfl ?_
  refine k_sld (n := 223) F hX hbl hbA hy7 dL_law_222 rfl ?_
  refine kl_Ri (n := 226) (k := 7) (As := [.int y1, .int y2, .int y3, .int y4, .int y5, .int y6, .int y7]) (rest := [.int ((f_cooler (i, l_, a, h) y1 y2 y3 y4 y5 y6 y7).1)]) (u := (i, l_, a, h)) (v := (f_cooler (i, l_, a, h) y1 y2 y3 y4 y5 y6 y7).2) (r0 := (f_cooler (i, l_, a, h) y1 y2 y3 y4 y5 y6 y7).1) (ad := adR) F (r_cooler l g h0 adR i l_ a h y1 y2 y3 y4 y5 y6 y7 hI.1.1) rfl mw_690 mw_687 mw_688 mw_689 mw_9 (by decide) ⟨by decide, by decide⟩ rfl (Nat.le_of_ble_eq_true rfl) (kl_g hcs rfl rfl) dL_law_223 rfl ⟨rfl, rfl⟩ ?_
  exact k_icmp_eq (n := 229) (tgt := 820) F dL_law_226 (by decide) rfl (fun _ => nx ca cb _ (Inv_mono (Inv_cooler hI) (Nat.le_add_right B 60) hB)) (fun h9 => absurd rfl h9)
set_option maxRecDepth 100000 in
set_option maxHeartbeats 4000000 in
theorem lc_cold {p : Program} (l : Launch) {e : Env} {s : State} {m : MethodId} {args : Array Value} {below : List Frame} {meth : Method} {c : Code} {Q : State → Prop} {g : kG} {A : Nat → Prop} {ret0 : Option FieldType} {nm : String} {b h0 B cells slots : Nat} {L : Nat} {xs : Nat → Int32} {x : Int32} {y1 y2 : Int32} {adC ca cb adR : Nat → Nat} {i : Nat → Int32} {l_ : Nat → Int64} {a : Nat → Nat → Int32} {h : Nat → Int64} (F : kF p s m args meth c g A 4 cL_law "ColdWorksLaw" ret0 nm) (hX : va_X b L xs s s.heap) (hbl : b < s.heap.size) (hbA : ¬ A b) (hy1 : vp_in (x + 1) L ∧ xs (x + 1).toNatClampNeg = y1) (hy2 : vp_in (x + 2) L ∧ xs (x + 2).toNatClampNeg = y2) (hI : Inv B (i, l_, a, h)) (hB : B + 60 < 1000000) (hcs : cells + 2 ≤ room_1.cells ∧ slots + 7 ≤ room_1.slots) (nx : ∀ (ca cb : Nat → Nat) (u : kS), Inv (B + 60) u → KW p l e room_1 s m args below meth c Q g A 4 (wK g adC ca cb u ++ wR g h0 adR u) (cells + 2) (slots + 7) 820 [(3, .int x), (2, .ref h0), (1, .ref (adC 0)), (0, .ref b)] []) : KW p l e room_1 s m args below meth c Q g A 4 (wK g adC ca cb (i, l_, a, h) ++ wR g h0 adR (i, l_, a, h)) cells slots 231 [(3, .int x), (2, .ref h0), (1, .ref (adC 0)), (0, .ref b)] [] := by
  refine k_aload_n (n := 232) F dL_law_231 rfl 2 rfl rfl ?_
  refine k_aload_n (n := 233) F dL_law_232 rfl 3 rfl rfl ?_
  refine k_iload_n (n := 234) F dL_law_233 rfl 0 rfl rfl ?_
  refine k_iconst (n := 235) (v := 1) F dL_law_234 rfl rfl ?_
  refine k_iadd (n := 236) F dL_law_235 rfl ?_
  refine k_sld (n := 237) F hX hbl hbA hy1 dL_law_236 rfl ?_
  refine k_aload_n (n := 238) F dL_law_237 rfl 3 rfl rfl ?_
  refine k_iload_n (n := 239) F dL_law_238 rfl 0 rfl rfl ?_
  refine k_iconst (n := 240) (v := 2) F dL_law_239 rfl rfl ?_
  refine k_iadd (n := 241) F dL_law_240 rfl ?_
  refine k_sld (n := 242) F hX hbl hbA hy2 dL_law_241 rfl ?_
  refine kl_Kd (n := 245) (k := 2) (As := [.int y1, .int y2]) (rest := []) (u := (i, l_, a, h)) (v := (f_cold (i, l_, a, h) y1 y2).2) (r0 := (f_cold (i, l_, a, h) y1 y2).1) (ad := adC) (ca := ca) (cb := cb) F (c_cold l g adC ca cb i l_ a h y1 y2 hI.1.1) rfl mw_280 mw_277 mw_278 mw_279 mw_1 (by decide) ⟨by decide, by decide⟩ rfl (Nat.le_of_ble_eq_true rfl) (kl_f hcs (by decide) (by decide)) dL_law_242 rfl ⟨by decide, by decide⟩ ?_
  refine k_aload_n (n := 246) F dL_law_245 rfl 1 rfl rfl ?_
  refine k_aload_n (n := 247) F dL_law_246 rfl 3 rfl rfl ?_
  refine k_iload_n (n := 248) F dL_law_247 rfl 0 rfl rfl ?_
  refine k_iconst (n := 249) (v := 1) F dL_law_248 rfl rfl ?_
  refine k_iadd (n := 250) F dL_law_249 rfl ?_
  refine k_sld (n := 251) F hX hbl hbA hy1 dL_law_250 rfl ?_
  refine k_aload_n (n := 252) F dL_law_251 rfl 3 rfl rfl ?_
  refine k_iload_n (n := 253) F dL_law_252 rfl 0 rfl rfl ?_
  refine k_iconst (n := 254) (v := 2) F dL_law_253 rfl rfl ?_
  refine k_iadd (n := 255) F dL_law_254 rfl ?_
  refine k_sld (n := 256) F hX hbl hbA hy2 dL_law_255 rfl ?_
  refine kl_Ri (n := 259) (k := 2) (As := [.int y1, .int y2]) (rest := [.int ((f_cold (i, l_, a, h) y1 y2).1)]) (u := (i, l_, a, h)) (v := (f_cold (i, l_, a, h) y1 y2).2) (r0 := (f_cold (i, l_, a, h) y1 y2).1) (ad := adR) F (r_cold l g h0 adR i l_ a h y1 y2 hI.1.1 hI.1.2.1) rfl mw_697 mw_694 mw_695 mw_696 mw_9 (by decide) ⟨by decide, by decide⟩ rfl (Nat.le_of_ble_eq_true rfl) (kl_g hcs rfl rfl) dL_law_256 rfl ⟨rfl, rfl⟩ ?_
  exact k_icmp_eq (n := 262) (tgt := 820) F dL_law_259 (by decide) rfl (fun _ => nx ca cb _ (Inv_mono (Inv_cold hI) (Nat.le_add_right B 60) hB)) (fun h9 => absurd rfl h9)
set_option maxRecDepth 100000 in
set_option maxHeartbeats 4000000 in
theorem lc_cells {p : Program} (l : Launch) {e : Env} {s : State} {m : MethodId} {args : Array Value} {below : List Frame} {meth : Method} {c : Code} {Q : State → Prop} {g : kG} {A : Nat → Prop} {ret0 : Option FieldType} {nm : String} {b h0 B cells slots : Nat} {L : Nat} {xs : Nat → Int32} {x : Int32} {y1 y2 : Int32} {adC ca cb adR : Nat → Nat} {i : Nat → Int32} {l_ : Nat → Int64} {a : Nat → Nat → Int32} {h : Nat → Int64} (F : kF p s m args meth c g A 4 cL_law "ColdWorksLaw" ret0 nm) (hX : va_X b L xs s s.heap) (hbl : b < s.heap.size) (hbA : ¬ A b) (hy1 : vp_in (x + 1) L ∧ xs (x + 1).toNatClampNeg = y1) (hy2 : vp_in (x + 2) L ∧ xs (x + 2).toNatClampNeg = y2) (hI : Inv B (i, l_, a, h)) (hB : B + 60 < 1000000) (hcs : cells + 2 ≤ room_1.cells ∧ slots + 7 ≤ room_1.slots) (nx : ∀ (ca cb : Nat → Nat) (u : kS), Inv (B + 60) u → KW p l e room_1 s m args below meth c Q g A 4 (wK g adC ca cb u ++ wR g h0 adR u) (cells + 2) (slots + 7) 820 [(3, .int x), (2, .ref h0), (1, .ref (adC 0)), (0, .ref b)] []) : KW p l e room_1 s m args below meth c Q g A 4 (wK g adC ca cb (i, l_, a, h) ++ wR g h0 adR (i, l_, a, h)) cells slots 264 [(3, .int x), (2, .ref h0), (1, .ref (adC 0)), (0, .ref b)] [] := by
  refine k_aload_n (n := 265) F dL_law_264 rfl 2 rfl rfl ?_
  refine k_aload_n (n := 266) F dL_law_265 rfl 3 rfl rfl ?_
  refine k_iload_n (n := 267) F dL_law_266 rfl 0 rfl rfl ?_
  refine k_iconst (n := 268) (v := 1) F dL_law_267 rfl rfl ?_
  refine k_iadd (n := 269) F dL_law_268 rfl ?_
  refine k_sld (n := 270) F hX hbl hbA hy1 dL_law_269 rfl ?_
  refine k_aload_n (n := 271) F dL_law_270 rfl 3 rfl rfl ?_
  refine k_iload_n (n := 272) F dL_law_271 rfl 0 rfl rfl ?_
  refine k_iconst (n := 273) (v := 2) F dL_law_272 rfl rfl ?_
  refine k_iadd (n := 274) F dL_law_273 rfl ?_
  refine k_sld (n := 275) F hX hbl hbA hy2 dL_law_274 rfl ?_
  refine kl_Ci (n := 278) (k := 2) (As := [.int y1, .int y2]) (rest := []) (u := (i, l_, a, h)) (v := (f_cells (i, l_, a, h) y1 y2).2) (r0 := (f_cells (i, l_, a, h) y1 y2).1) (ad := adC) (ca := ca) (cb := cb) F (c_cells l g adC (cfU ca (i, l_, a, h)) i l_ a h y1 y2) cq_cells rfl mw_333 mw_330 mw_331 mw_332 mw_1 (by decide) ⟨by decide, by decide⟩ rfl (Nat.le_of_ble_eq_true rfl) (kl_f hcs (by decide) (by decide)) dL_law_275 rfl ⟨by decide, by decide⟩ ?_
  refine k_aload_n (n := 279) F dL_law_278 rfl 1 rfl rfl ?_
  refine k_aload_n (n := 280) F dL_law_279 rfl 3 rfl rfl ?_
  refine k_iload_n (n := 281) F dL_law_280 rfl 0 rfl rfl ?_
  refine k_iconst (n := 282) (v := 1) F dL_law_281 rfl rfl ?_
  refine k_iadd (n := 283) F dL_law_282 rfl ?_
  refine k_sld (n := 284) F hX hbl hbA hy1 dL_law_283 rfl ?_
  refine k_aload_n (n := 285) F dL_law_284 rfl 3 rfl rfl ?_
  refine k_iload_n (n := 286) F dL_law_285 rfl 0 rfl rfl ?_
  refine k_iconst (n := 287) (v := 2) F dL_law_286 rfl rfl ?_
  refine k_iadd (n := 288) F dL_law_287 rfl ?_
  refine k_sld (n := 289) F hX hbl hbA hy2 dL_law_288 rfl ?_
  refine kl_Ri (n := 292) (k := 2) (As := [.int y1, .int y2]) (rest := [.int ((f_cells (i, l_, a, h) y1 y2).1)]) (u := (i, l_, a, h)) (v := (f_cells (i, l_, a, h) y1 y2).2) (r0 := (f_cells (i, l_, a, h) y1 y2).1) (ad := adR) F (r_cells l g h0 adR i l_ a h y1 y2) rfl mw_711 mw_708 mw_709 mw_710 mw_9 (by decide) ⟨by decide, by decide⟩ rfl (Nat.le_of_ble_eq_true rfl) (kl_g hcs rfl rfl) dL_law_289 rfl ⟨rfl, rfl⟩ ?_
  exact k_icmp_eq (n := 295) (tgt := 820) F dL_law_292 (by decide) rfl (fun _ => nx ca cb _ (Inv_mono (Inv_cells hI) (Nat.le_add_right B 60) hB)) (fun h9 => absurd rfl h9)
set_option maxRecDepth 100000 in
set_option maxHeartbeats 4000000 in
theorem lc_set {p : Program} (l : Launch) {e : Env} {s : State} {m : MethodId} {args : Array Value} {below : List Frame} {meth : Method} {c : Code} {Q : State → Prop} {g : kG} {A : Nat → Prop} {ret0 : Option FieldType} {nm : String} {b h0 B cells slots : Nat} {L : Nat} {xs : Nat → Int32} {x : Int32} {y1 y2 : Int32} {adC ca cb adR : Nat → Nat} {i : Nat → Int32} {l_ : Nat → Int64} {a : Nat → Nat → Int32} {h : Nat → Int64} (F : kF p s m args meth c g A 4 cL_law "ColdWorksLaw" ret0 nm) (hX : va_X b L xs s s.heap) (hbl : b < s.heap.size) (hbA : ¬ A b) (hy1 : vp_in (x + 1) L ∧ xs (x + 1).toNatClampNeg = y1) (hy2 : vp_in (x + 2) L ∧ xs (x + 2).toNatClampNeg = y2) (hI : Inv B (i, l_, a, h)) (hB : B + 60 < 1000000) (hcs : cells + 2 ≤ room_1.cells ∧ slots + 7 ≤ room_1.slots) (nx : ∀ (ca cb : Nat → Nat) (u : kS), Inv (B + 60) u → KW p l e room_1 s m args below meth c Q g A 4 (wK g adC ca cb u ++ wR g h0 adR u) (cells + 2) (slots + 7) 820 [(3, .int x), (2, .ref h0), (1, .ref (adC 0)), (0, .ref b)] []) : KW p l e room_1 s m args below meth c Q g A 4 (wK g adC ca cb (i, l_, a, h) ++ wR g h0 adR (i, l_, a, h)) cells slots 297 [(3, .int x), (2, .ref h0), (1, .ref (adC 0)), (0, .ref b)] [] := by
  refine k_aload_n (n := 298) F dL_law_297 rfl 2 rfl rfl ?_
  refine k_aload_n (n := 299) F dL_law_298 rfl 3 rfl rfl ?_
  refine k_iload_n (n := 300) F dL_law_299 rfl 0 rfl rfl ?_
  refine k_iconst (n := 301) (v := 1) F dL_law_300 rfl rfl ?_
  refine k_iadd (n := 302) F dL_law_301 rfl ?_
  refine k_sld (n := 303) F hX hbl hbA hy1 dL_law_302 rfl ?_
  refine k_aload_n (n := 304) F dL_law_303 rfl 3 rfl rfl ?_
  refine k_iload_n (n := 305) F dL_law_304 rfl 0 rfl rfl ?_
  refine k_iconst (n := 306) (v := 2) F dL_law_305 rfl rfl ?_
  refine k_iadd (n := 307) F dL_law_306 rfl ?_
  refine k_sld (n := 308) F hX hbl hbA hy2 dL_law_307 rfl ?_
  refine kl_Ci (n := 311) (k := 2) (As := [.int y1, .int y2]) (rest := []) (u := (i, l_, a, h)) (v := (f_set (i, l_, a, h) y1 y2).2) (r0 := (f_set (i, l_, a, h) y1 y2).1) (ad := adC) (ca := ca) (cb := cb) F (c_set l g adC (cfU ca (i, l_, a, h)) i l_ a h y1 y2) cq_set rfl mw_338 mw_335 mw_336 mw_337 mw_1 (by decide) ⟨by decide, by decide⟩ rfl (Nat.le_of_ble_eq_true rfl) (kl_f hcs (by decide) (by decide)) dL_law_308 rfl ⟨by decide, by decide⟩ ?_
  refine k_aload_n (n := 312) F dL_law_311 rfl 1 rfl rfl ?_
  refine k_aload_n (n := 313) F dL_law_312 rfl 3 rfl rfl ?_
  refine k_iload_n (n := 314) F dL_law_313 rfl 0 rfl rfl ?_
  refine k_iconst (n := 315) (v := 1) F dL_law_314 rfl rfl ?_
  refine k_iadd (n := 316) F dL_law_315 rfl ?_
  refine k_sld (n := 317) F hX hbl hbA hy1 dL_law_316 rfl ?_
  refine k_aload_n (n := 318) F dL_law_317 rfl 3 rfl rfl ?_
  refine k_iload_n (n := 319) F dL_law_318 rfl 0 rfl rfl ?_
  refine k_iconst (n := 320) (v := 2) F dL_law_319 rfl rfl ?_
  refine k_iadd (n := 321) F dL_law_320 rfl ?_
  refine k_sld (n := 322) F hX hbl hbA hy2 dL_law_321 rfl ?_
  refine kl_Ri (n := 325) (k := 2) (As := [.int y1, .int y2]) (rest := [.int ((f_set (i, l_, a, h) y1 y2).1)]) (u := (i, l_, a, h)) (v := (f_set (i, l_, a, h) y1 y2).2) (r0 := (f_set (i, l_, a, h) y1 y2).1) (ad := adR) F (r_set l g h0 adR i l_ a h y1 y2) rfl mw_715 mw_712 mw_713 mw_714 mw_9 (by decide) ⟨by decide, by decide⟩ rfl (Nat.le_of_ble_eq_true rfl) (kl_g hcs rfl rfl) dL_law_322 rfl ⟨rfl, rfl⟩ ?_
  exact k_icmp_eq (n := 328) (tgt := 820) F dL_law_325 (by decide) rfl (fun _ => nx ca cb _ (Inv_mono (Inv_set hI) (Nat.le_add_right B 60) hB)) (fun h9 => absurd rfl h9)
set_option maxRecDepth 100000 in
set_option maxHeartbeats 4000000 in
theorem lc_side {p : Program} (l : Launch) {e : Env} {s : State} {m : MethodId} {args : Array Value} {below : List Frame} {meth : Method} {c : Code} {Q : State → Prop} {g : kG} {A : Nat → Prop} {ret0 : Option FieldType} {nm : String} {b h0 B cells slots : Nat} {L : Nat} {xs : Nat → Int32} {x : Int32} {y1 y2 : Int32} {adC ca cb adR : Nat → Nat} {i : Nat → Int32} {l_ : Nat → Int64} {a : Nat → Nat → Int32} {h : Nat → Int64} (F : kF p s m args meth c g A 4 cL_law "ColdWorksLaw" ret0 nm) (hX : va_X b L xs s s.heap) (hbl : b < s.heap.size) (hbA : ¬ A b) (hy1 : vp_in (x + 1) L ∧ xs (x + 1).toNatClampNeg = y1) (hy2 : vp_in (x + 2) L ∧ xs (x + 2).toNatClampNeg = y2) (hI : Inv B (i, l_, a, h)) (hB : B + 60 < 1000000) (hcs : cells + 2 ≤ room_1.cells ∧ slots + 7 ≤ room_1.slots) (nx : ∀ (ca cb : Nat → Nat) (u : kS), Inv (B + 60) u → KW p l e room_1 s m args below meth c Q g A 4 (wK g adC ca cb u ++ wR g h0 adR u) (cells + 2) (slots + 7) 820 [(3, .int x), (2, .ref h0), (1, .ref (adC 0)), (0, .ref b)] []) : KW p l e room_1 s m args below meth c Q g A 4 (wK g adC ca cb (i, l_, a, h) ++ wR g h0 adR (i, l_, a, h)) cells slots 330 [(3, .int x), (2, .ref h0), (1, .ref (adC 0)), (0, .ref b)] [] := by
  refine k_aload_n (n := 331) F dL_law_330 rfl 2 rfl rfl ?_
  refine k_aload_n (n := 332) F dL_law_331 rfl 3 rfl rfl ?_
  refine k_iload_n (n := 333) F dL_law_332 rfl 0 rfl rfl ?_
  refine k_iconst (n := 334) (v := 1) F dL_law_333 rfl rfl ?_
  refine k_iadd (n := 335) F dL_law_334 rfl ?_
  refine k_sld (n := 336) F hX hbl hbA hy1 dL_law_335 rfl ?_
  refine k_aload_n (n := 337) F dL_law_336 rfl 3 rfl rfl ?_
  refine k_iload_n (n := 338) F dL_law_337 rfl 0 rfl rfl ?_
  refine k_iconst (n := 339) (v := 2) F dL_law_338 rfl rfl ?_
  refine k_iadd (n := 340) F dL_law_339 rfl ?_
  refine k_sld (n := 341) F hX hbl hbA hy2 dL_law_340 rfl ?_
  refine kl_Ci (n := 344) (k := 2) (As := [.int y1, .int y2]) (rest := []) (u := (i, l_, a, h)) (v := (i, l_, a, h)) (r0 := f_side (i, l_, a, h) y1 y2) (ad := adC) (ca := ca) (cb := cb) F (c_side l g adC (cfU ca (i, l_, a, h)) i l_ a h y1 y2 hI.1.2.2.1) cq_r rfl mw_354 mw_351 mw_352 mw_353 mw_1 (by decide) ⟨by decide, by decide⟩ rfl (Nat.le_of_ble_eq_true rfl) (kl_f hcs (by decide) (by decide)) dL_law_341 rfl ⟨by decide, by decide⟩ ?_
  refine k_aload_n (n := 345) F dL_law_344 rfl 1 rfl rfl ?_
  refine k_aload_n (n := 346) F dL_law_345 rfl 3 rfl rfl ?_
  refine k_iload_n (n := 347) F dL_law_346 rfl 0 rfl rfl ?_
  refine k_iconst (n := 348) (v := 1) F dL_law_347 rfl rfl ?_
  refine k_iadd (n := 349) F dL_law_348 rfl ?_
  refine k_sld (n := 350) F hX hbl hbA hy1 dL_law_349 rfl ?_
  refine k_aload_n (n := 351) F dL_law_350 rfl 3 rfl rfl ?_
  refine k_iload_n (n := 352) F dL_law_351 rfl 0 rfl rfl ?_
  refine k_iconst (n := 353) (v := 2) F dL_law_352 rfl rfl ?_
  refine k_iadd (n := 354) F dL_law_353 rfl ?_
  refine k_sld (n := 355) F hX hbl hbA hy2 dL_law_354 rfl ?_
  refine kl_Ri (n := 358) (k := 2) (As := [.int y1, .int y2]) (rest := [.int (f_side (i, l_, a, h) y1 y2)]) (u := (i, l_, a, h)) (v := (i, l_, a, h)) (r0 := f_side (i, l_, a, h) y1 y2) (ad := adR) F (r_side l g h0 adR i l_ a h y1 y2 hI.1.2.2.1) rfl mw_719 mw_716 mw_717 mw_718 mw_9 (by decide) ⟨by decide, by decide⟩ rfl (Nat.le_of_ble_eq_true rfl) (kl_g hcs rfl rfl) dL_law_355 rfl ⟨rfl, rfl⟩ ?_
  exact k_icmp_eq (n := 361) (tgt := 820) F dL_law_358 (by decide) rfl (fun _ => nx ca cb _ (Inv_mono hI (Nat.le_add_right B 60) hB)) (fun h9 => absurd rfl h9)
set_option maxRecDepth 100000 in
set_option maxHeartbeats 4000000 in
theorem lc_heat {p : Program} (l : Launch) {e : Env} {s : State} {m : MethodId} {args : Array Value} {below : List Frame} {meth : Method} {c : Code} {Q : State → Prop} {g : kG} {A : Nat → Prop} {ret0 : Option FieldType} {nm : String} {b h0 B cells slots : Nat} {L : Nat} {xs : Nat → Int32} {x : Int32} {y1 : Int32} {adC ca cb adR : Nat → Nat} {i : Nat → Int32} {l_ : Nat → Int64} {a : Nat → Nat → Int32} {h : Nat → Int64} (F : kF p s m args meth c g A 4 cL_law "ColdWorksLaw" ret0 nm) (hX : va_X b L xs s s.heap) (hbl : b < s.heap.size) (hbA : ¬ A b) (hy1 : vp_in (x + 1) L ∧ xs (x + 1).toNatClampNeg = y1) (hI : Inv B (i, l_, a, h)) (hB : B + 60 < 1000000) (hcs : cells + 2 ≤ room_1.cells ∧ slots + 7 ≤ room_1.slots) (nx : ∀ (ca cb : Nat → Nat) (u : kS), Inv (B + 60) u → KW p l e room_1 s m args below meth c Q g A 4 (wK g adC ca cb u ++ wR g h0 adR u) (cells + 2) (slots + 7) 820 [(3, .int x), (2, .ref h0), (1, .ref (adC 0)), (0, .ref b)] []) : KW p l e room_1 s m args below meth c Q g A 4 (wK g adC ca cb (i, l_, a, h) ++ wR g h0 adR (i, l_, a, h)) cells slots 363 [(3, .int x), (2, .ref h0), (1, .ref (adC 0)), (0, .ref b)] [] := by
  refine k_aload_n (n := 364) F dL_law_363 rfl 2 rfl rfl ?_
  refine k_aload_n (n := 365) F dL_law_364 rfl 3 rfl rfl ?_
  refine k_iload_n (n := 366) F dL_law_365 rfl 0 rfl rfl ?_
  refine k_iconst (n := 367) (v := 1) F dL_law_366 rfl rfl ?_
  refine k_iadd (n := 368) F dL_law_367 rfl ?_
  refine k_sld (n := 369) F hX hbl hbA hy1 dL_law_368 rfl ?_
  refine kl_Cl (n := 372) (k := 1) (As := [.int y1]) (rest := []) (u := (i, l_, a, h)) (v := (i, l_, a, h)) (r0 := f_heat (i, l_, a, h) y1) (ad := adC) (ca := ca) (cb := cb) F (c_heat l g adC (cfU ca (i, l_, a, h)) i l_ a h y1) cq_r rfl mw_358 mw_355 mw_356 mw_357 mw_1 (by decide) ⟨by decide, by decide⟩ rfl (Nat.le_of_ble_eq_true rfl) (kl_f hcs (by decide) (by decide)) dL_law_369 rfl ⟨by decide, by decide⟩ ?_
  refine k_aload_n (n := 373) F dL_law_372 rfl 1 rfl rfl ?_
  refine k_aload_n (n := 374) F dL_law_373 rfl 3 rfl rfl ?_
  refine k_iload_n (n := 375) F dL_law_374 rfl 0 rfl rfl ?_
  refine k_iconst (n := 376) (v := 1) F dL_law_375 rfl rfl ?_
  refine k_iadd (n := 377) F dL_law_376 rfl ?_
  refine k_sld (n := 378) F hX hbl hbA hy1 dL_law_377 rfl ?_
  refine kl_Rl (n := 381) (k := 1) (As := [.int y1]) (rest := [.long (f_heat (i, l_, a, h) y1)]) (u := (i, l_, a, h)) (v := (i, l_, a, h)) (r0 := f_heat (i, l_, a, h) y1) (ad := adR) F (r_heat l g h0 adR i l_ a h y1) rfl mw_723 mw_720 mw_721 mw_722 mw_9 (by decide) ⟨by decide, by decide⟩ rfl (Nat.le_of_ble_eq_true rfl) (kl_g hcs rfl rfl) dL_law_378 rfl ⟨rfl, rfl⟩ ?_
  refine k_lcmp (n := 382) F dL_law_381 rfl ?_
  exact k_if_eq (n := 385) (tgt := 820) F dL_law_382 (by decide) rfl (fun _ => nx ca cb _ (Inv_mono hI (Nat.le_add_right B 60) hB)) (fun h9 => absurd ((lg_cmp_eq _ _).mpr rfl) h9)
set_option maxRecDepth 100000 in
set_option maxHeartbeats 4000000 in
theorem lc_start {p : Program} (l : Launch) {e : Env} {s : State} {m : MethodId} {args : Array Value} {below : List Frame} {meth : Method} {c : Code} {Q : State → Prop} {g : kG} {A : Nat → Prop} {ret0 : Option FieldType} {nm : String} {b h0 B cells slots : Nat} {x : Int32} {adC ca cb adR : Nat → Nat} {i : Nat → Int32} {l_ : Nat → Int64} {a : Nat → Nat → Int32} {h : Nat → Int64} (F : kF p s m args meth c g A 4 cL_law "ColdWorksLaw" ret0 nm)  (hI : Inv B (i, l_, a, h)) (hB : B + 60 < 1000000) (hcs : cells + 2 ≤ room_1.cells ∧ slots + 7 ≤ room_1.slots) (nx : ∀ (ca cb : Nat → Nat) (u : kS), Inv (B + 60) u → KW p l e room_1 s m args below meth c Q g A 4 (wK g adC ca cb u ++ wR g h0 adR u) (cells + 2) (slots + 7) 820 [(3, .int x), (2, .ref h0), (1, .ref (adC 0)), (0, .ref b)] []) : KW p l e room_1 s m args below meth c Q g A 4 (wK g adC ca cb (i, l_, a, h) ++ wR g h0 adR (i, l_, a, h)) cells slots 387 [(3, .int x), (2, .ref h0), (1, .ref (adC 0)), (0, .ref b)] [] := by
  refine k_aload_n (n := 388) F dL_law_387 rfl 2 rfl rfl ?_
  refine kl_Ci (n := 391) (k := 0) (As := []) (rest := []) (u := (i, l_, a, h)) (v := (f_start (i, l_, a, h)).2) (r0 := (f_start (i, l_, a, h)).1) (ad := adC) (ca := ca) (cb := cb) F (c_start l g adC (cfU ca (i, l_, a, h)) i l_ a h) cq_start rfl mw_363 mw_360 mw_361 mw_362 mw_1 (by decide) ⟨by decide, by decide⟩ rfl (Nat.le_of_ble_eq_true rfl) (kl_f hcs (by decide) (by decide)) dL_law_388 rfl ⟨by decide, by decide⟩ ?_
  refine k_aload_n (n := 392) F dL_law_391 rfl 1 rfl rfl ?_
  refine kl_Ri (n := 395) (k := 0) (As := []) (rest := [.int ((f_start (i, l_, a, h)).1)]) (u := (i, l_, a, h)) (v := (f_start (i, l_, a, h)).2) (r0 := (f_start (i, l_, a, h)).1) (ad := adR) F (r_start l g h0 adR i l_ a h) rfl mw_728 mw_725 mw_726 mw_727 mw_9 (by decide) ⟨by decide, by decide⟩ rfl (Nat.le_of_ble_eq_true rfl) (kl_g hcs rfl rfl) dL_law_392 rfl ⟨rfl, rfl⟩ ?_
  exact k_icmp_eq (n := 398) (tgt := 820) F dL_law_395 (by decide) rfl (fun _ => nx ca cb _ (Inv_mono (Inv_start hI) (Nat.le_add_right B 60) hB)) (fun h9 => absurd rfl h9)
set_option maxRecDepth 100000 in
set_option maxHeartbeats 4000000 in
theorem lc_low {p : Program} (l : Launch) {e : Env} {s : State} {m : MethodId} {args : Array Value} {below : List Frame} {meth : Method} {c : Code} {Q : State → Prop} {g : kG} {A : Nat → Prop} {ret0 : Option FieldType} {nm : String} {b h0 B cells slots : Nat} {x : Int32} {adC ca cb adR : Nat → Nat} {i : Nat → Int32} {l_ : Nat → Int64} {a : Nat → Nat → Int32} {h : Nat → Int64} (F : kF p s m args meth c g A 4 cL_law "ColdWorksLaw" ret0 nm)  (hI : Inv B (i, l_, a, h)) (hB : B + 60 < 1000000) (hcs : cells + 2 ≤ room_1.cells ∧ slots + 7 ≤ room_1.slots) (nx : ∀ (ca cb : Nat → Nat) (u : kS), Inv (B + 60) u → KW p l e room_1 s m args below meth c Q g A 4 (wK g adC ca cb u ++ wR g h0 adR u) (cells + 2) (slots + 7) 820 [(3, .int x), (2, .ref h0), (1, .ref (adC 0)), (0, .ref b)] []) : KW p l e room_1 s m args below meth c Q g A 4 (wK g adC ca cb (i, l_, a, h) ++ wR g h0 adR (i, l_, a, h)) cells slots 400 [(3, .int x), (2, .ref h0), (1, .ref (adC 0)), (0, .ref b)] [] := by
  refine k_aload_n (n := 401) F dL_law_400 rfl 2 rfl rfl ?_
  refine kl_Ci (n := 404) (k := 0) (As := []) (rest := []) (u := (i, l_, a, h)) (v := (f_low (i, l_, a, h)).2) (r0 := (f_low (i, l_, a, h)).1) (ad := adC) (ca := ca) (cb := cb) F (c_low l g adC (cfU ca (i, l_, a, h)) i l_ a h) cq_low rfl mw_383 mw_380 mw_381 mw_382 mw_1 (by decide) ⟨by decide, by decide⟩ rfl (Nat.le_of_ble_eq_true rfl) (kl_f hcs (by decide) (by decide)) dL_law_401 rfl ⟨by decide, by decide⟩ ?_
  refine k_aload_n (n := 405) F dL_law_404 rfl 1 rfl rfl ?_
  refine kl_Ri (n := 408) (k := 0) (As := []) (rest := [.int ((f_low (i, l_, a, h)).1)]) (u := (i, l_, a, h)) (v := (f_low (i, l_, a, h)).2) (r0 := (f_low (i, l_, a, h)).1) (ad := adR) F (r_low l g h0 adR i l_ a h) rfl mw_732 mw_729 mw_730 mw_731 mw_9 (by decide) ⟨by decide, by decide⟩ rfl (Nat.le_of_ble_eq_true rfl) (kl_g hcs rfl rfl) dL_law_405 rfl ⟨rfl, rfl⟩ ?_
  exact k_icmp_eq (n := 411) (tgt := 820) F dL_law_408 (by decide) rfl (fun _ => nx ca cb _ (Inv_mono (Inv_low hI) (Nat.le_add_right B 60) hB)) (fun h9 => absurd rfl h9)
set_option maxRecDepth 100000 in
set_option maxHeartbeats 4000000 in
theorem lc_high {p : Program} (l : Launch) {e : Env} {s : State} {m : MethodId} {args : Array Value} {below : List Frame} {meth : Method} {c : Code} {Q : State → Prop} {g : kG} {A : Nat → Prop} {ret0 : Option FieldType} {nm : String} {b h0 B cells slots : Nat} {x : Int32} {adC ca cb adR : Nat → Nat} {i : Nat → Int32} {l_ : Nat → Int64} {a : Nat → Nat → Int32} {h : Nat → Int64} (F : kF p s m args meth c g A 4 cL_law "ColdWorksLaw" ret0 nm)  (hI : Inv B (i, l_, a, h)) (hB : B + 60 < 1000000) (hcs : cells + 2 ≤ room_1.cells ∧ slots + 7 ≤ room_1.slots) (nx : ∀ (ca cb : Nat → Nat) (u : kS), Inv (B + 60) u → KW p l e room_1 s m args below meth c Q g A 4 (wK g adC ca cb u ++ wR g h0 adR u) (cells + 2) (slots + 7) 820 [(3, .int x), (2, .ref h0), (1, .ref (adC 0)), (0, .ref b)] []) : KW p l e room_1 s m args below meth c Q g A 4 (wK g adC ca cb (i, l_, a, h) ++ wR g h0 adR (i, l_, a, h)) cells slots 413 [(3, .int x), (2, .ref h0), (1, .ref (adC 0)), (0, .ref b)] [] := by
  refine k_aload_n (n := 414) F dL_law_413 rfl 2 rfl rfl ?_
  refine kl_Ci (n := 417) (k := 0) (As := []) (rest := []) (u := (i, l_, a, h)) (v := (f_high (i, l_, a, h)).2) (r0 := (f_high (i, l_, a, h)).1) (ad := adC) (ca := ca) (cb := cb) F (c_high l g adC (cfU ca (i, l_, a, h)) i l_ a h) cq_high rfl mw_388 mw_385 mw_386 mw_387 mw_1 (by decide) ⟨by decide, by decide⟩ rfl (Nat.le_of_ble_eq_true rfl) (kl_f hcs (by decide) (by decide)) dL_law_414 rfl ⟨by decide, by decide⟩ ?_
  refine k_aload_n (n := 418) F dL_law_417 rfl 1 rfl rfl ?_
  refine kl_Ri (n := 421) (k := 0) (As := []) (rest := [.int ((f_high (i, l_, a, h)).1)]) (u := (i, l_, a, h)) (v := (f_high (i, l_, a, h)).2) (r0 := (f_high (i, l_, a, h)).1) (ad := adR) F (r_high l g h0 adR i l_ a h) rfl mw_736 mw_733 mw_734 mw_735 mw_9 (by decide) ⟨by decide, by decide⟩ rfl (Nat.le_of_ble_eq_true rfl) (kl_g hcs rfl rfl) dL_law_418 rfl ⟨rfl, rfl⟩ ?_
  exact k_icmp_eq (n := 424) (tgt := 820) F dL_law_421 (by decide) rfl (fun _ => nx ca cb _ (Inv_mono (Inv_high hI) (Nat.le_add_right B 60) hB)) (fun h9 => absurd rfl h9)
set_option maxRecDepth 100000 in
set_option maxHeartbeats 4000000 in
theorem lc_trip {p : Program} (l : Launch) {e : Env} {s : State} {m : MethodId} {args : Array Value} {below : List Frame} {meth : Method} {c : Code} {Q : State → Prop} {g : kG} {A : Nat → Prop} {ret0 : Option FieldType} {nm : String} {b h0 B cells slots : Nat} {x : Int32} {adC ca cb adR : Nat → Nat} {i : Nat → Int32} {l_ : Nat → Int64} {a : Nat → Nat → Int32} {h : Nat → Int64} (F : kF p s m args meth c g A 4 cL_law "ColdWorksLaw" ret0 nm)  (hI : Inv B (i, l_, a, h)) (hB : B + 60 < 1000000) (hcs : cells + 2 ≤ room_1.cells ∧ slots + 7 ≤ room_1.slots) (nx : ∀ (ca cb : Nat → Nat) (u : kS), Inv (B + 60) u → KW p l e room_1 s m args below meth c Q g A 4 (wK g adC ca cb u ++ wR g h0 adR u) (cells + 2) (slots + 7) 820 [(3, .int x), (2, .ref h0), (1, .ref (adC 0)), (0, .ref b)] []) : KW p l e room_1 s m args below meth c Q g A 4 (wK g adC ca cb (i, l_, a, h) ++ wR g h0 adR (i, l_, a, h)) cells slots 426 [(3, .int x), (2, .ref h0), (1, .ref (adC 0)), (0, .ref b)] [] := by
  refine k_aload_n (n := 427) F dL_law_426 rfl 2 rfl rfl ?_
  refine kl_Ci (n := 430) (k := 0) (As := []) (rest := []) (u := (i, l_, a, h)) (v := (f_trip (i, l_, a, h)).2) (r0 := (f_trip (i, l_, a, h)).1) (ad := adC) (ca := ca) (cb := cb) F (c_trip l g adC (cfU ca (i, l_, a, h)) i l_ a h) cq_trip rfl mw_392 mw_389 mw_390 mw_391 mw_1 (by decide) ⟨by decide, by decide⟩ rfl (Nat.le_of_ble_eq_true rfl) (kl_f hcs (by decide) (by decide)) dL_law_427 rfl ⟨by decide, by decide⟩ ?_
  refine k_aload_n (n := 431) F dL_law_430 rfl 1 rfl rfl ?_
  refine kl_Ri (n := 434) (k := 0) (As := []) (rest := [.int ((f_trip (i, l_, a, h)).1)]) (u := (i, l_, a, h)) (v := (f_trip (i, l_, a, h)).2) (r0 := (f_trip (i, l_, a, h)).1) (ad := adR) F (r_trip l g h0 adR i l_ a h) rfl mw_740 mw_737 mw_738 mw_739 mw_9 (by decide) ⟨by decide, by decide⟩ rfl (Nat.le_of_ble_eq_true rfl) (kl_g hcs rfl rfl) dL_law_431 rfl ⟨rfl, rfl⟩ ?_
  exact k_icmp_eq (n := 437) (tgt := 820) F dL_law_434 (by decide) rfl (fun _ => nx ca cb _ (Inv_mono (Inv_trip hI) (Nat.le_add_right B 60) hB)) (fun h9 => absurd rfl h9)
set_option maxRecDepth 100000 in
set_option maxHeartbeats 4000000 in
theorem lc_reset {p : Program} (l : Launch) {e : Env} {s : State} {m : MethodId} {args : Array Value} {below : List Frame} {meth : Method} {c : Code} {Q : State → Prop} {g : kG} {A : Nat → Prop} {ret0 : Option FieldType} {nm : String} {b h0 B cells slots : Nat} {x : Int32} {adC ca cb adR : Nat → Nat} {i : Nat → Int32} {l_ : Nat → Int64} {a : Nat → Nat → Int32} {h : Nat → Int64} (F : kF p s m args meth c g A 4 cL_law "ColdWorksLaw" ret0 nm)  (hI : Inv B (i, l_, a, h)) (hB : B + 60 < 1000000) (hcs : cells + 2 ≤ room_1.cells ∧ slots + 7 ≤ room_1.slots) (nx : ∀ (ca cb : Nat → Nat) (u : kS), Inv (B + 60) u → KW p l e room_1 s m args below meth c Q g A 4 (wK g adC ca cb u ++ wR g h0 adR u) (cells + 2) (slots + 7) 820 [(3, .int x), (2, .ref h0), (1, .ref (adC 0)), (0, .ref b)] []) : KW p l e room_1 s m args below meth c Q g A 4 (wK g adC ca cb (i, l_, a, h) ++ wR g h0 adR (i, l_, a, h)) cells slots 439 [(3, .int x), (2, .ref h0), (1, .ref (adC 0)), (0, .ref b)] [] := by
  refine k_aload_n (n := 440) F dL_law_439 rfl 2 rfl rfl ?_
  refine kl_Ci (n := 443) (k := 0) (As := []) (rest := []) (u := (i, l_, a, h)) (v := (f_reset (i, l_, a, h)).2) (r0 := (f_reset (i, l_, a, h)).1) (ad := adC) (ca := ca) (cb := cb) F (c_reset l g adC (cfU ca (i, l_, a, h)) i l_ a h) cq_reset rfl mw_400 mw_397 mw_398 mw_399 mw_1 (by decide) ⟨by decide, by decide⟩ rfl (Nat.le_of_ble_eq_true rfl) (kl_f hcs (by decide) (by decide)) dL_law_440 rfl ⟨by decide, by decide⟩ ?_
  refine k_aload_n (n := 444) F dL_law_443 rfl 1 rfl rfl ?_
  refine kl_Ri (n := 447) (k := 0) (As := []) (rest := [.int ((f_reset (i, l_, a, h)).1)]) (u := (i, l_, a, h)) (v := (f_reset (i, l_, a, h)).2) (r0 := (f_reset (i, l_, a, h)).1) (ad := adR) F (r_reset l g h0 adR i l_ a h) rfl mw_748 mw_745 mw_746 mw_747 mw_9 (by decide) ⟨by decide, by decide⟩ rfl (Nat.le_of_ble_eq_true rfl) (kl_g hcs rfl rfl) dL_law_444 rfl ⟨rfl, rfl⟩ ?_
  exact k_icmp_eq (n := 450) (tgt := 820) F dL_law_447 (by decide) rfl (fun _ => nx ca cb _ (Inv_mono (Inv_reset hI) (Nat.le_add_right B 60) hB)) (fun h9 => absurd rfl h9)
set_option maxRecDepth 100000 in
set_option maxHeartbeats 4000000 in
theorem lc_tick {p : Program} (l : Launch) {e : Env} {s : State} {m : MethodId} {args : Array Value} {below : List Frame} {meth : Method} {c : Code} {Q : State → Prop} {g : kG} {A : Nat → Prop} {ret0 : Option FieldType} {nm : String} {b h0 B cells slots : Nat} {L : Nat} {xs : Nat → Int32} {x : Int32} {y1 : Int32} {adC ca cb adR : Nat → Nat} {i : Nat → Int32} {l_ : Nat → Int64} {a : Nat → Nat → Int32} {h : Nat → Int64} (F : kF p s m args meth c g A 4 cL_law "ColdWorksLaw" ret0 nm) (hX : va_X b L xs s s.heap) (hbl : b < s.heap.size) (hbA : ¬ A b) (hy1 : vp_in (x + 1) L ∧ xs (x + 1).toNatClampNeg = y1) (hI : Inv B (i, l_, a, h)) (hB : B + 60 < 1000000) (hcs : cells + 2 ≤ room_1.cells ∧ slots + 7 ≤ room_1.slots) (nx : ∀ (ca cb : Nat → Nat) (u : kS), Inv (B + 60) u → KW p l e room_1 s m args below meth c Q g A 4 (wK g adC ca cb u ++ wR g h0 adR u) (cells + 2) (slots + 7) 820 [(3, .int x), (2, .ref h0), (1, .ref (adC 0)), (0, .ref b)] []) : KW p l e room_1 s m args below meth c Q g A 4 (wK g adC ca cb (i, l_, a, h) ++ wR g h0 adR (i, l_, a, h)) cells slots 452 [(3, .int x), (2, .ref h0), (1, .ref (adC 0)), (0, .ref b)] [] := by
  refine k_aload_n (n := 453) F dL_law_452 rfl 2 rfl rfl ?_
  refine k_aload_n (n := 454) F dL_law_453 rfl 3 rfl rfl ?_
  refine k_iload_n (n := 455) F dL_law_454 rfl 0 rfl rfl ?_
  refine k_iconst (n := 456) (v := 1) F dL_law_455 rfl rfl ?_
  refine k_iadd (n := 457) F dL_law_456 rfl ?_
  refine k_sld (n := 458) F hX hbl hbA hy1 dL_law_457 rfl ?_
  refine kl_Kd (n := 461) (k := 1) (As := [.int y1]) (rest := []) (u := (i, l_, a, h)) (v := (f_tick (i, l_, a, h) y1).2) (r0 := (f_tick (i, l_, a, h) y1).1) (ad := adC) (ca := ca) (cb := cb) F (c_tick l g adC ca cb i l_ a h y1 hI.1.1 hI.1.2.2.1) rfl mw_408 mw_405 mw_406 mw_407 mw_1 (by decide) ⟨by decide, by decide⟩ rfl (Nat.le_of_ble_eq_true rfl) (kl_f hcs (by decide) (by decide)) dL_law_458 rfl ⟨by decide, by decide⟩ ?_
  refine k_aload_n (n := 462) F dL_law_461 rfl 1 rfl rfl ?_
  refine k_aload_n (n := 463) F dL_law_462 rfl 3 rfl rfl ?_
  refine k_iload_n (n := 464) F dL_law_463 rfl 0 rfl rfl ?_
  refine k_iconst (n := 465) (v := 1) F dL_law_464 rfl rfl ?_
  refine k_iadd (n := 466) F dL_law_465 rfl ?_
  refine k_sld (n := 467) F hX hbl hbA hy1 dL_law_466 rfl ?_
  refine kl_Ri (n := 470) (k := 1) (As := [.int y1]) (rest := [.int ((f_tick (i, l_, a, h) y1).1)]) (u := (i, l_, a, h)) (v := (f_tick (i, l_, a, h) y1).2) (r0 := (f_tick (i, l_, a, h) y1).1) (ad := adR) F (r_tick l g h0 adR i l_ a h y1 hI.1 hB) rfl mw_752 mw_749 mw_750 mw_751 mw_9 (by decide) ⟨by decide, by decide⟩ rfl (Nat.le_of_ble_eq_true rfl) (kl_g hcs rfl rfl) dL_law_467 rfl ⟨rfl, rfl⟩ ?_
  exact k_icmp_eq (n := 473) (tgt := 820) F dL_law_470 (by decide) rfl (fun _ => nx ca cb _ (Inv_tick hI hB)) (fun h9 => absurd rfl h9)
set_option maxRecDepth 100000 in
set_option maxHeartbeats 4000000 in
theorem lc_adsorber {p : Program} (l : Launch) {e : Env} {s : State} {m : MethodId} {args : Array Value} {below : List Frame} {meth : Method} {c : Code} {Q : State → Prop} {g : kG} {A : Nat → Prop} {ret0 : Option FieldType} {nm : String} {b h0 B cells slots : Nat} {L : Nat} {xs : Nat → Int32} {x : Int32} {y1 y2 : Int32} {adC ca cb adR : Nat → Nat} {i : Nat → Int32} {l_ : Nat → Int64} {a : Nat → Nat → Int32} {h : Nat → Int64} (F : kF p s m args meth c g A 4 cL_law "ColdWorksLaw" ret0 nm) (hX : va_X b L xs s s.heap) (hbl : b < s.heap.size) (hbA : ¬ A b) (hy1 : vp_in (x + 1) L ∧ xs (x + 1).toNatClampNeg = y1) (hy2 : vp_in (x + 2) L ∧ xs (x + 2).toNatClampNeg = y2) (hI : Inv B (i, l_, a, h)) (hB : B + 60 < 1000000) (hcs : cells + 2 ≤ room_1.cells ∧ slots + 7 ≤ room_1.slots) (nx : ∀ (ca cb : Nat → Nat) (u : kS), Inv (B + 60) u → KW p l e room_1 s m args below meth c Q g A 4 (wK g adC ca cb u ++ wR g h0 adR u) (cells + 2) (slots + 7) 820 [(3, .int x), (2, .ref h0), (1, .ref (adC 0)), (0, .ref b)] []) : KW p l e room_1 s m args below meth c Q g A 4 (wK g adC ca cb (i, l_, a, h) ++ wR g h0 adR (i, l_, a, h)) cells slots 475 [(3, .int x), (2, .ref h0), (1, .ref (adC 0)), (0, .ref b)] [] := by
  refine k_aload_n (n := 476) F dL_law_475 rfl 2 rfl rfl ?_
  refine k_aload_n (n := 477) F dL_law_476 rfl 3 rfl rfl ?_
  refine k_iload_n (n := 478) F dL_law_477 rfl 0 rfl rfl ?_
  refine k_iconst (n := 479) (v := 1) F dL_law_478 rfl rfl ?_
  refine k_iadd (n := 480) F dL_law_479 rfl ?_
  refine k_sld (n := 481) F hX hbl hbA hy1 dL_law_480 rfl ?_
  refine k_aload_n (n := 482) F dL_law_481 rfl 3 rfl rfl ?_
  refine k_iload_n (n := 483) F dL_law_482 rfl 0 rfl rfl ?_
  refine k_iconst (n := 484) (v := 2) F dL_law_483 rfl rfl ?_
  refine k_iadd (n := 485) F dL_law_484 rfl ?_
  refine k_sld (n := 486) F hX hbl hbA hy2 dL_law_485 rfl ?_
  refine kl_Ci (n := 489) (k := 2) (As := [.int y1, .int y2]) (rest := []) (u := (i, l_, a, h)) (v := (i, l_, a, h)) (r0 := f_adsorber (i, l_, a, h) y1 y2) (ad := adC) (ca := ca) (cb := cb) F (c_adsorber l g adC (cfU ca (i, l_, a, h)) i l_ a h y1 y2) cq_r rfl mw_478 mw_475 mw_476 mw_477 mw_1 (by decide) ⟨by decide, by decide⟩ rfl (Nat.le_of_ble_eq_true rfl) (kl_f hcs (by decide) (by decide)) dL_law_486 rfl ⟨by decide, by decide⟩ ?_
  refine k_aload_n (n := 490) F dL_law_489 rfl 1 rfl rfl ?_
  refine k_aload_n (n := 491) F dL_law_490 rfl 3 rfl rfl ?_
  refine k_iload_n (n := 492) F dL_law_491 rfl 0 rfl rfl ?_
  refine k_iconst (n := 493) (v := 1) F dL_law_492 rfl rfl ?_
  refine k_iadd (n := 494) F dL_law_493 rfl ?_
  refine k_sld (n := 495) F hX hbl hbA hy1 dL_law_494 rfl ?_
  refine k_aload_n (n := 496) F dL_law_495 rfl 3 rfl rfl ?_
  refine k_iload_n (n := 497) F dL_law_496 rfl 0 rfl rfl ?_
  refine k_iconst (n := 498) (v := 2) F dL_law_497 rfl rfl ?_
  refine k_iadd (n := 499) F dL_law_498 rfl ?_
  refine k_sld (n := 500) F hX hbl hbA hy2 dL_law_499 rfl ?_
  refine kl_Ri (n := 503) (k := 2) (As := [.int y1, .int y2]) (rest := [.int (f_adsorber (i, l_, a, h) y1 y2)]) (u := (i, l_, a, h)) (v := (i, l_, a, h)) (r0 := f_adsorber (i, l_, a, h) y1 y2) (ad := adR) F (r_adsorber l g h0 adR i l_ a h y1 y2) rfl mw_776 mw_773 mw_774 mw_775 mw_9 (by decide) ⟨by decide, by decide⟩ rfl (Nat.le_of_ble_eq_true rfl) (kl_g hcs rfl rfl) dL_law_500 rfl ⟨rfl, rfl⟩ ?_
  exact k_icmp_eq (n := 506) (tgt := 820) F dL_law_503 (by decide) rfl (fun _ => nx ca cb _ (Inv_mono hI (Nat.le_add_right B 60) hB)) (fun h9 => absurd rfl h9)
set_option maxRecDepth 100000 in
set_option maxHeartbeats 4000000 in
theorem lc_valve {p : Program} (l : Launch) {e : Env} {s : State} {m : MethodId} {args : Array Value} {below : List Frame} {meth : Method} {c : Code} {Q : State → Prop} {g : kG} {A : Nat → Prop} {ret0 : Option FieldType} {nm : String} {b h0 B cells slots : Nat} {L : Nat} {xs : Nat → Int32} {x : Int32} {y1 : Int32} {adC ca cb adR : Nat → Nat} {i : Nat → Int32} {l_ : Nat → Int64} {a : Nat → Nat → Int32} {h : Nat → Int64} (F : kF p s m args meth c g A 4 cL_law "ColdWorksLaw" ret0 nm) (hX : va_X b L xs s s.heap) (hbl : b < s.heap.size) (hbA : ¬ A b) (hy1 : vp_in (x + 1) L ∧ xs (x + 1).toNatClampNeg = y1) (hI : Inv B (i, l_, a, h)) (hB : B + 60 < 1000000) (hcs : cells + 2 ≤ room_1.cells ∧ slots + 7 ≤ room_1.slots) (nx : ∀ (ca cb : Nat → Nat) (u : kS), Inv (B + 60) u → KW p l e room_1 s m args below meth c Q g A 4 (wK g adC ca cb u ++ wR g h0 adR u) (cells + 2) (slots + 7) 820 [(3, .int x), (2, .ref h0), (1, .ref (adC 0)), (0, .ref b)] []) : KW p l e room_1 s m args below meth c Q g A 4 (wK g adC ca cb (i, l_, a, h) ++ wR g h0 adR (i, l_, a, h)) cells slots 508 [(3, .int x), (2, .ref h0), (1, .ref (adC 0)), (0, .ref b)] [] := by
  refine k_aload_n (n := 509) F dL_law_508 rfl 2 rfl rfl ?_
  refine k_aload_n (n := 510) F dL_law_509 rfl 3 rfl rfl ?_
  refine k_iload_n (n := 511) F dL_law_510 rfl 0 rfl rfl ?_
  refine k_iconst (n := 512) (v := 1) F dL_law_511 rfl rfl ?_
  refine k_iadd (n := 513) F dL_law_512 rfl ?_
  refine k_sld (n := 514) F hX hbl hbA hy1 dL_law_513 rfl ?_
  refine kl_Ci (n := 517) (k := 1) (As := [.int y1]) (rest := []) (u := (i, l_, a, h)) (v := (i, l_, a, h)) (r0 := f_valve (i, l_, a, h) y1) (ad := adC) (ca := ca) (cb := cb) F (c_valve l g adC (cfU ca (i, l_, a, h)) i l_ a h y1) cq_r rfl mw_490 mw_487 mw_488 mw_489 mw_1 (by decide) ⟨by decide, by decide⟩ rfl (Nat.le_of_ble_eq_true rfl) (kl_f hcs (by decide) (by decide)) dL_law_514 rfl ⟨by decide, by decide⟩ ?_
  refine k_aload_n (n := 518) F dL_law_517 rfl 1 rfl rfl ?_
  refine k_aload_n (n := 519) F dL_law_518 rfl 3 rfl rfl ?_
  refine k_iload_n (n := 520) F dL_law_519 rfl 0 rfl rfl ?_
  refine k_iconst (n := 521) (v := 1) F dL_law_520 rfl rfl ?_
  refine k_iadd (n := 522) F dL_law_521 rfl ?_
  refine k_sld (n := 523) F hX hbl hbA hy1 dL_law_522 rfl ?_
  refine kl_Ri (n := 526) (k := 1) (As := [.int y1]) (rest := [.int (f_valve (i, l_, a, h) y1)]) (u := (i, l_, a, h)) (v := (i, l_, a, h)) (r0 := f_valve (i, l_, a, h) y1) (ad := adR) F (r_valve l g h0 adR i l_ a h y1) rfl mw_780 mw_777 mw_778 mw_779 mw_9 (by decide) ⟨by decide, by decide⟩ rfl (Nat.le_of_ble_eq_true rfl) (kl_g hcs rfl rfl) dL_law_523 rfl ⟨rfl, rfl⟩ ?_
  exact k_icmp_eq (n := 529) (tgt := 820) F dL_law_526 (by decide) rfl (fun _ => nx ca cb _ (Inv_mono hI (Nat.le_add_right B 60) hB)) (fun h9 => absurd rfl h9)
set_option maxRecDepth 100000 in
set_option maxHeartbeats 4000000 in
theorem lc_order {p : Program} (l : Launch) {e : Env} {s : State} {m : MethodId} {args : Array Value} {below : List Frame} {meth : Method} {c : Code} {Q : State → Prop} {g : kG} {A : Nat → Prop} {ret0 : Option FieldType} {nm : String} {b h0 B cells slots : Nat} {L : Nat} {xs : Nat → Int32} {x : Int32} {y1 y2 : Int32} {adC ca cb adR : Nat → Nat} {i : Nat → Int32} {l_ : Nat → Int64} {a : Nat → Nat → Int32} {h : Nat → Int64} (F : kF p s m args meth c g A 4 cL_law "ColdWorksLaw" ret0 nm) (hX : va_X b L xs s s.heap) (hbl : b < s.heap.size) (hbA : ¬ A b) (hy1 : vp_in (x + 1) L ∧ xs (x + 1).toNatClampNeg = y1) (hy2 : vp_in (x + 2) L ∧ xs (x + 2).toNatClampNeg = y2) (hI : Inv B (i, l_, a, h)) (hB : B + 60 < 1000000) (hcs : cells + 2 ≤ room_1.cells ∧ slots + 7 ≤ room_1.slots) (nx : ∀ (ca cb : Nat → Nat) (u : kS), Inv (B + 60) u → KW p l e room_1 s m args below meth c Q g A 4 (wK g adC ca cb u ++ wR g h0 adR u) (cells + 2) (slots + 7) 820 [(3, .int x), (2, .ref h0), (1, .ref (adC 0)), (0, .ref b)] []) : KW p l e room_1 s m args below meth c Q g A 4 (wK g adC ca cb (i, l_, a, h) ++ wR g h0 adR (i, l_, a, h)) cells slots 531 [(3, .int x), (2, .ref h0), (1, .ref (adC 0)), (0, .ref b)] [] := by
  refine k_aload_n (n := 532) F dL_law_531 rfl 2 rfl rfl ?_
  refine k_aload_n (n := 533) F dL_law_532 rfl 3 rfl rfl ?_
  refine k_iload_n (n := 534) F dL_law_533 rfl 0 rfl rfl ?_
  refine k_iconst (n := 535) (v := 1) F dL_law_534 rfl rfl ?_
  refine k_iadd (n := 536) F dL_law_535 rfl ?_
  refine k_sld (n := 537) F hX hbl hbA hy1 dL_law_536 rfl ?_
  refine k_aload_n (n := 538) F dL_law_537 rfl 3 rfl rfl ?_
  refine k_iload_n (n := 539) F dL_law_538 rfl 0 rfl rfl ?_
  refine k_iconst (n := 540) (v := 2) F dL_law_539 rfl rfl ?_
  refine k_iadd (n := 541) F dL_law_540 rfl ?_
  refine k_sld (n := 542) F hX hbl hbA hy2 dL_law_541 rfl ?_
  refine kl_Ci (n := 545) (k := 2) (As := [.int y1, .int y2]) (rest := []) (u := (i, l_, a, h)) (v := (f_order (i, l_, a, h) y1 y2).2) (r0 := (f_order (i, l_, a, h) y1 y2).1) (ad := adC) (ca := ca) (cb := cb) F (c_order l g adC (cfU ca (i, l_, a, h)) i l_ a h y1 y2 hI.2.2.2.1.1) cq_order rfl mw_497 mw_494 mw_495 mw_496 mw_1 (by decide) ⟨by decide, by decide⟩ rfl (Nat.le_of_ble_eq_true rfl) (kl_f hcs (by decide) (by decide)) dL_law_542 rfl ⟨by decide, by decide⟩ ?_
  refine k_aload_n (n := 546) F dL_law_545 rfl 1 rfl rfl ?_
  refine k_aload_n (n := 547) F dL_law_546 rfl 3 rfl rfl ?_
  refine k_iload_n (n := 548) F dL_law_547 rfl 0 rfl rfl ?_
  refine k_iconst (n := 549) (v := 1) F dL_law_548 rfl rfl ?_
  refine k_iadd (n := 550) F dL_law_549 rfl ?_
  refine k_sld (n := 551) F hX hbl hbA hy1 dL_law_550 rfl ?_
  refine k_aload_n (n := 552) F dL_law_551 rfl 3 rfl rfl ?_
  refine k_iload_n (n := 553) F dL_law_552 rfl 0 rfl rfl ?_
  refine k_iconst (n := 554) (v := 2) F dL_law_553 rfl rfl ?_
  refine k_iadd (n := 555) F dL_law_554 rfl ?_
  refine k_sld (n := 556) F hX hbl hbA hy2 dL_law_555 rfl ?_
  refine kl_Ri (n := 559) (k := 2) (As := [.int y1, .int y2]) (rest := [.int ((f_order (i, l_, a, h) y1 y2).1)]) (u := (i, l_, a, h)) (v := (f_order (i, l_, a, h) y1 y2).2) (r0 := (f_order (i, l_, a, h) y1 y2).1) (ad := adR) F (r_order l g h0 adR i l_ a h y1 y2 hI.2.2.2.1) rfl mw_784 mw_781 mw_782 mw_783 mw_9 (by decide) ⟨by decide, by decide⟩ rfl (Nat.le_of_ble_eq_true rfl) (kl_g hcs rfl rfl) dL_law_556 rfl ⟨rfl, rfl⟩ ?_
  exact k_icmp_eq (n := 562) (tgt := 820) F dL_law_559 (by decide) rfl (fun _ => nx ca cb _ (Inv_mono (Inv_order hI) (Nat.le_add_right B 60) hB)) (fun h9 => absurd rfl h9)
set_option maxRecDepth 100000 in
set_option maxHeartbeats 4000000 in
theorem lc_deliver {p : Program} (l : Launch) {e : Env} {s : State} {m : MethodId} {args : Array Value} {below : List Frame} {meth : Method} {c : Code} {Q : State → Prop} {g : kG} {A : Nat → Prop} {ret0 : Option FieldType} {nm : String} {b h0 B cells slots : Nat} {x : Int32} {adC ca cb adR : Nat → Nat} {i : Nat → Int32} {l_ : Nat → Int64} {a : Nat → Nat → Int32} {h : Nat → Int64} (F : kF p s m args meth c g A 4 cL_law "ColdWorksLaw" ret0 nm)  (hI : Inv B (i, l_, a, h)) (hB : B + 60 < 1000000) (hcs : cells + 2 ≤ room_1.cells ∧ slots + 7 ≤ room_1.slots) (nx : ∀ (ca cb : Nat → Nat) (u : kS), Inv (B + 60) u → KW p l e room_1 s m args below meth c Q g A 4 (wK g adC ca cb u ++ wR g h0 adR u) (cells + 2) (slots + 7) 820 [(3, .int x), (2, .ref h0), (1, .ref (adC 0)), (0, .ref b)] []) : KW p l e room_1 s m args below meth c Q g A 4 (wK g adC ca cb (i, l_, a, h) ++ wR g h0 adR (i, l_, a, h)) cells slots 564 [(3, .int x), (2, .ref h0), (1, .ref (adC 0)), (0, .ref b)] [] := by
  obtain ⟨no, ho, hn8, hd10, hb⟩ := Inv_del hI
  refine k_aload_n (n := 565) F dL_law_564 rfl 2 rfl rfl ?_
  refine kl_Ci (n := 568) (k := 0) (As := []) (rest := []) (u := (i, l_, a, h)) (v := (f_deliver (i, l_, a, h)).2) (r0 := (f_deliver (i, l_, a, h)).1) (ad := adC) (ca := ca) (cb := cb) F (c_deliver l g adC (cfU ca (i, l_, a, h)) i l_ a h  hI.2.2.2.1) cq_deliver rfl mw_505 mw_502 mw_503 mw_504 mw_1 (by decide) ⟨by decide, by decide⟩ rfl (Nat.le_of_ble_eq_true rfl) (kl_f hcs (by decide) (by decide)) dL_law_565 rfl ⟨by decide, by decide⟩ ?_
  refine k_aload_n (n := 569) F dL_law_568 rfl 1 rfl rfl ?_
  refine kl_Ri (n := 572) (k := 0) (As := []) (rest := [.int ((f_deliver (i, l_, a, h)).1)]) (u := (i, l_, a, h)) (v := (f_deliver (i, l_, a, h)).2) (r0 := (f_deliver (i, l_, a, h)).1) (ad := adR) F (r_deliver l g h0 adR i l_ a h  no ho hn8 hd10 hb) rfl mw_788 mw_785 mw_786 mw_787 mw_9 (by decide) ⟨by decide, by decide⟩ rfl (Nat.le_of_ble_eq_true rfl) (kl_g hcs rfl rfl) dL_law_569 rfl ⟨rfl, rfl⟩ ?_
  exact k_icmp_eq (n := 575) (tgt := 820) F dL_law_572 (by decide) rfl (fun _ => nx ca cb _ (Inv_mono (Inv_deliver hI) (Nat.le_add_right B 60) hB)) (fun h9 => absurd rfl h9)
set_option maxRecDepth 100000 in
set_option maxHeartbeats 4000000 in
theorem lc_about {p : Program} (l : Launch) {e : Env} {s : State} {m : MethodId} {args : Array Value} {below : List Frame} {meth : Method} {c : Code} {Q : State → Prop} {g : kG} {A : Nat → Prop} {ret0 : Option FieldType} {nm : String} {b h0 B cells slots : Nat} {L : Nat} {xs : Nat → Int32} {x : Int32} {y1 y2 : Int32} {adC ca cb adR : Nat → Nat} {i : Nat → Int32} {l_ : Nat → Int64} {a : Nat → Nat → Int32} {h : Nat → Int64} (F : kF p s m args meth c g A 4 cL_law "ColdWorksLaw" ret0 nm) (hX : va_X b L xs s s.heap) (hbl : b < s.heap.size) (hbA : ¬ A b) (hy1 : vp_in (x + 1) L ∧ xs (x + 1).toNatClampNeg = y1) (hy2 : vp_in (x + 2) L ∧ xs (x + 2).toNatClampNeg = y2) (hI : Inv B (i, l_, a, h)) (hB : B + 60 < 1000000) (hcs : cells + 2 ≤ room_1.cells ∧ slots + 7 ≤ room_1.slots) (nx : ∀ (ca cb : Nat → Nat) (u : kS), Inv (B + 60) u → KW p l e room_1 s m args below meth c Q g A 4 (wK g adC ca cb u ++ wR g h0 adR u) (cells + 2) (slots + 7) 820 [(3, .int x), (2, .ref h0), (1, .ref (adC 0)), (0, .ref b)] []) : KW p l e room_1 s m args below meth c Q g A 4 (wK g adC ca cb (i, l_, a, h) ++ wR g h0 adR (i, l_, a, h)) cells slots 577 [(3, .int x), (2, .ref h0), (1, .ref (adC 0)), (0, .ref b)] [] := by
  refine k_aload_n (n := 578) F dL_law_577 rfl 2 rfl rfl ?_
  refine k_aload_n (n := 579) F dL_law_578 rfl 3 rfl rfl ?_
  refine k_iload_n (n := 580) F dL_law_579 rfl 0 rfl rfl ?_
  refine k_iconst (n := 581) (v := 1) F dL_law_580 rfl rfl ?_
  refine k_iadd (n := 582) F dL_law_581 rfl ?_
  refine k_sld (n := 583) F hX hbl hbA hy1 dL_law_582 rfl ?_
  refine k_aload_n (n := 584) F dL_law_583 rfl 3 rfl rfl ?_
  refine k_iload_n (n := 585) F dL_law_584 rfl 0 rfl rfl ?_
  refine k_iconst (n := 586) (v := 2) F dL_law_585 rfl rfl ?_
  refine k_iadd (n := 587) F dL_law_586 rfl ?_
  refine k_sld (n := 588) F hX hbl hbA hy2 dL_law_587 rfl ?_
  refine kl_Ci (n := 591) (k := 2) (As := [.int y1, .int y2]) (rest := []) (u := (i, l_, a, h)) (v := (i, l_, a, h)) (r0 := f_about (i, l_, a, h) y1 y2) (ad := adC) (ca := ca) (cb := cb) F (c_about l g adC (cfU ca (i, l_, a, h)) i l_ a h y1 y2 hI.2.2.2.1.2) cq_r rfl mw_521 mw_518 mw_519 mw_520 mw_1 (by decide) ⟨by decide, by decide⟩ rfl (Nat.le_of_ble_eq_true rfl) (kl_f hcs (by decide) (by decide)) dL_law_588 rfl ⟨by decide, by decide⟩ ?_
  refine k_aload_n (n := 592) F dL_law_591 rfl 1 rfl rfl ?_
  refine k_aload_n (n := 593) F dL_law_592 rfl 3 rfl rfl ?_
  refine k_iload_n (n := 594) F dL_law_593 rfl 0 rfl rfl ?_
  refine k_iconst (n := 595) (v := 1) F dL_law_594 rfl rfl ?_
  refine k_iadd (n := 596) F dL_law_595 rfl ?_
  refine k_sld (n := 597) F hX hbl hbA hy1 dL_law_596 rfl ?_
  refine k_aload_n (n := 598) F dL_law_597 rfl 3 rfl rfl ?_
  refine k_iload_n (n := 599) F dL_law_598 rfl 0 rfl rfl ?_
  refine k_iconst (n := 600) (v := 2) F dL_law_599 rfl rfl ?_
  refine k_iadd (n := 601) F dL_law_600 rfl ?_
  refine k_sld (n := 602) F hX hbl hbA hy2 dL_law_601 rfl ?_
  refine kl_Ri (n := 605) (k := 2) (As := [.int y1, .int y2]) (rest := [.int (f_about (i, l_, a, h) y1 y2)]) (u := (i, l_, a, h)) (v := (i, l_, a, h)) (r0 := f_about (i, l_, a, h) y1 y2) (ad := adR) F (r_about l g h0 adR i l_ a h y1 y2 hI.2.2.2.1) rfl mw_792 mw_789 mw_790 mw_791 mw_9 (by decide) ⟨by decide, by decide⟩ rfl (Nat.le_of_ble_eq_true rfl) (kl_g hcs rfl rfl) dL_law_602 rfl ⟨rfl, rfl⟩ ?_
  exact k_icmp_eq (n := 608) (tgt := 820) F dL_law_605 (by decide) rfl (fun _ => nx ca cb _ (Inv_mono hI (Nat.le_add_right B 60) hB)) (fun h9 => absurd rfl h9)
set_option maxRecDepth 100000 in
set_option maxHeartbeats 4000000 in
theorem lc_back {p : Program} (l : Launch) {e : Env} {s : State} {m : MethodId} {args : Array Value} {below : List Frame} {meth : Method} {c : Code} {Q : State → Prop} {g : kG} {A : Nat → Prop} {ret0 : Option FieldType} {nm : String} {b h0 B cells slots : Nat} {L : Nat} {xs : Nat → Int32} {x : Int32} {y1 : Int32} {adC ca cb adR : Nat → Nat} {i : Nat → Int32} {l_ : Nat → Int64} {a : Nat → Nat → Int32} {h : Nat → Int64} (F : kF p s m args meth c g A 4 cL_law "ColdWorksLaw" ret0 nm) (hX : va_X b L xs s s.heap) (hbl : b < s.heap.size) (hbA : ¬ A b) (hy1 : vp_in (x + 1) L ∧ xs (x + 1).toNatClampNeg = y1) (hI : Inv B (i, l_, a, h)) (hB : B + 60 < 1000000) (hcs : cells + 2 ≤ room_1.cells ∧ slots + 7 ≤ room_1.slots) (nx : ∀ (ca cb : Nat → Nat) (u : kS), Inv (B + 60) u → KW p l e room_1 s m args below meth c Q g A 4 (wK g adC ca cb u ++ wR g h0 adR u) (cells + 2) (slots + 7) 820 [(3, .int x), (2, .ref h0), (1, .ref (adC 0)), (0, .ref b)] []) : KW p l e room_1 s m args below meth c Q g A 4 (wK g adC ca cb (i, l_, a, h) ++ wR g h0 adR (i, l_, a, h)) cells slots 610 [(3, .int x), (2, .ref h0), (1, .ref (adC 0)), (0, .ref b)] [] := by
  refine k_aload_n (n := 611) F dL_law_610 rfl 2 rfl rfl ?_
  refine k_aload_n (n := 612) F dL_law_611 rfl 3 rfl rfl ?_
  refine k_iload_n (n := 613) F dL_law_612 rfl 0 rfl rfl ?_
  refine k_iconst (n := 614) (v := 1) F dL_law_613 rfl rfl ?_
  refine k_iadd (n := 615) F dL_law_614 rfl ?_
  refine k_sld (n := 616) F hX hbl hbA hy1 dL_law_615 rfl ?_
  refine kl_Ci (n := 619) (k := 1) (As := [.int y1]) (rest := []) (u := (i, l_, a, h)) (v := (f_back (i, l_, a, h) y1).2) (r0 := (f_back (i, l_, a, h) y1).1) (ad := adC) (ca := ca) (cb := cb) F (c_back l g adC (cfU ca (i, l_, a, h)) i l_ a h y1) cq_back rfl mw_529 mw_526 mw_527 mw_528 mw_1 (by decide) ⟨by decide, by decide⟩ rfl (Nat.le_of_ble_eq_true rfl) (kl_f hcs (by decide) (by decide)) dL_law_616 rfl ⟨by decide, by decide⟩ ?_
  refine k_aload_n (n := 620) F dL_law_619 rfl 1 rfl rfl ?_
  refine k_aload_n (n := 621) F dL_law_620 rfl 3 rfl rfl ?_
  refine k_iload_n (n := 622) F dL_law_621 rfl 0 rfl rfl ?_
  refine k_iconst (n := 623) (v := 1) F dL_law_622 rfl rfl ?_
  refine k_iadd (n := 624) F dL_law_623 rfl ?_
  refine k_sld (n := 625) F hX hbl hbA hy1 dL_law_624 rfl ?_
  refine kl_Ri (n := 628) (k := 1) (As := [.int y1]) (rest := [.int ((f_back (i, l_, a, h) y1).1)]) (u := (i, l_, a, h)) (v := (f_back (i, l_, a, h) y1).2) (r0 := (f_back (i, l_, a, h) y1).1) (ad := adR) F (r_back l g h0 adR i l_ a h y1) rfl mw_796 mw_793 mw_794 mw_795 mw_9 (by decide) ⟨by decide, by decide⟩ rfl (Nat.le_of_ble_eq_true rfl) (kl_g hcs rfl rfl) dL_law_625 rfl ⟨rfl, rfl⟩ ?_
  exact k_icmp_eq (n := 631) (tgt := 820) F dL_law_628 (by decide) rfl (fun _ => nx ca cb _ (Inv_mono (Inv_back hI) (Nat.le_add_right B 60) hB)) (fun h9 => absurd rfl h9)
set_option maxRecDepth 100000 in
set_option maxHeartbeats 4000000 in
theorem lc_lose {p : Program} (l : Launch) {e : Env} {s : State} {m : MethodId} {args : Array Value} {below : List Frame} {meth : Method} {c : Code} {Q : State → Prop} {g : kG} {A : Nat → Prop} {ret0 : Option FieldType} {nm : String} {b h0 B cells slots : Nat} {L : Nat} {xs : Nat → Int32} {x : Int32} {y1 y2 : Int32} {adC ca cb adR : Nat → Nat} {i : Nat → Int32} {l_ : Nat → Int64} {a : Nat → Nat → Int32} {h : Nat → Int64} (F : kF p s m args meth c g A 4 cL_law "ColdWorksLaw" ret0 nm) (hX : va_X b L xs s s.heap) (hbl : b < s.heap.size) (hbA : ¬ A b) (hy1 : vp_in (x + 1) L ∧ xs (x + 1).toNatClampNeg = y1) (hy2 : vp_in (x + 2) L ∧ xs (x + 2).toNatClampNeg = y2) (hI : Inv B (i, l_, a, h)) (hB : B + 60 < 1000000) (hcs : cells + 2 ≤ room_1.cells ∧ slots + 7 ≤ room_1.slots) (nx : ∀ (ca cb : Nat → Nat) (u : kS), Inv (B + 60) u → KW p l e room_1 s m args below meth c Q g A 4 (wK g adC ca cb u ++ wR g h0 adR u) (cells + 2) (slots + 7) 820 [(3, .int x), (2, .ref h0), (1, .ref (adC 0)), (0, .ref b)] []) : KW p l e room_1 s m args below meth c Q g A 4 (wK g adC ca cb (i, l_, a, h) ++ wR g h0 adR (i, l_, a, h)) cells slots 633 [(3, .int x), (2, .ref h0), (1, .ref (adC 0)), (0, .ref b)] [] := by
  by_cases hz : y2 = 0
  · have hv : (0 : Int32) = 0 ∨ (0 : Int32) = 1 := Or.inl rfl
    refine k_aload_n (n := 634) F dL_law_633 rfl 2 rfl rfl ?_
    refine k_aload_n (n := 635) F dL_law_634 rfl 3 rfl rfl ?_
    refine k_iload_n (n := 636) F dL_law_635 rfl 0 rfl rfl ?_
    refine k_iconst (n := 637) (v := 1) F dL_law_636 rfl rfl ?_
    refine k_iadd (n := 638) F dL_law_637 rfl ?_
    refine k_sld (n := 639) F hX hbl hbA hy1 dL_law_638 rfl ?_
    refine k_aload_n (n := 640) F dL_law_639 rfl 3 rfl rfl ?_
    refine k_iload_n (n := 641) F dL_law_640 rfl 0 rfl rfl ?_
    refine k_iconst (n := 642) (v := 2) F dL_law_641 rfl rfl ?_
    refine k_iadd (n := 643) F dL_law_642 rfl ?_
    refine k_sld (n := 644) F hX hbl hbA hy2 dL_law_643 rfl ?_
    refine k_if_eq (n := 647) (tgt := 651) F dL_law_644 (by decide) rfl (fun _ => ?_) (fun h9 => absurd hz h9)
    refine k_iconst (n := 652) (v := 0) F dL_law_651 rfl rfl ?_
    refine kl_Ci (n := 655) (k := 2) (As := [.int y1, .int 0]) (rest := []) (u := (i, l_, a, h)) (v := (f_lose (i, l_, a, h) y1 0).2) (r0 := (f_lose (i, l_, a, h) y1 0).1) (ad := adC) (ca := ca) (cb := cb) F (c_lose l g adC (cfU ca (i, l_, a, h)) i l_ a h y1 0 hv) cq_lose rfl mw_533 mw_530 mw_531 mw_532 mw_1 (by decide) ⟨by decide, by decide⟩ rfl (Nat.le_of_ble_eq_true rfl) (kl_f hcs (by decide) (by decide)) dL_law_652 rfl ⟨by decide, by decide⟩ ?_
    refine k_aload_n (n := 656) F dL_law_655 rfl 1 rfl rfl ?_
    refine k_aload_n (n := 657) F dL_law_656 rfl 3 rfl rfl ?_
    refine k_iload_n (n := 658) F dL_law_657 rfl 0 rfl rfl ?_
    refine k_iconst (n := 659) (v := 1) F dL_law_658 rfl rfl ?_
    refine k_iadd (n := 660) F dL_law_659 rfl ?_
    refine k_sld (n := 661) F hX hbl hbA hy1 dL_law_660 rfl ?_
    refine k_aload_n (n := 662) F dL_law_661 rfl 3 rfl rfl ?_
    refine k_iload_n (n := 663) F dL_law_662 rfl 0 rfl rfl ?_
    refine k_iconst (n := 664) (v := 2) F dL_law_663 rfl rfl ?_
    refine k_iadd (n := 665) F dL_law_664 rfl ?_
    refine k_sld (n := 666) F hX hbl hbA hy2 dL_law_665 rfl ?_
    refine k_if_eq (n := 669) (tgt := 673) F dL_law_666 (by decide) rfl (fun _ => ?_) (fun h9 => absurd hz h9)
    refine k_iconst (n := 674) (v := 0) F dL_law_673 rfl rfl ?_
    refine kl_Ri (n := 677) (k := 2) (As := [.int y1, .int 0]) (rest := [.int ((f_lose (i, l_, a, h) y1 0).1)]) (u := (i, l_, a, h)) (v := (f_lose (i, l_, a, h) y1 0).2) (r0 := (f_lose (i, l_, a, h) y1 0).1) (ad := adR) F (r_lose l g h0 adR i l_ a h y1 0 hv) rfl mw_800 mw_797 mw_798 mw_799 mw_9 (by decide) ⟨by decide, by decide⟩ rfl (Nat.le_of_ble_eq_true rfl) (kl_g hcs rfl rfl) dL_law_674 rfl ⟨rfl, rfl⟩ ?_
    exact k_icmp_eq (n := 680) (tgt := 820) F dL_law_677 (by decide) rfl (fun _ => nx ca cb _ (Inv_mono (Inv_lose hI) (Nat.le_add_right B 60) hB)) (fun h9 => absurd rfl h9)
  · have hv : (1 : Int32) = 0 ∨ (1 : Int32) = 1 := Or.inr rfl
    refine k_aload_n (n := 634) F dL_law_633 rfl 2 rfl rfl ?_
    refine k_aload_n (n := 635) F dL_law_634 rfl 3 rfl rfl ?_
    refine k_iload_n (n := 636) F dL_law_635 rfl 0 rfl rfl ?_
    refine k_iconst (n := 637) (v := 1) F dL_law_636 rfl rfl ?_
    refine k_iadd (n := 638) F dL_law_637 rfl ?_
    refine k_sld (n := 639) F hX hbl hbA hy1 dL_law_638 rfl ?_
    refine k_aload_n (n := 640) F dL_law_639 rfl 3 rfl rfl ?_
    refine k_iload_n (n := 641) F dL_law_640 rfl 0 rfl rfl ?_
    refine k_iconst (n := 642) (v := 2) F dL_law_641 rfl rfl ?_
    refine k_iadd (n := 643) F dL_law_642 rfl ?_
    refine k_sld (n := 644) F hX hbl hbA hy2 dL_law_643 rfl ?_
    refine k_if_eq (n := 647) (tgt := 651) F dL_law_644 (by decide) rfl (fun h9 => absurd h9 hz) (fun _ => ?_)
    refine k_iconst (n := 648) (v := 1) F dL_law_647 rfl rfl ?_
    refine k_goto (tgt := 652) F dL_law_648 (by decide) ?_
    refine kl_Ci (n := 655) (k := 2) (As := [.int y1, .int 1]) (rest := []) (u := (i, l_, a, h)) (v := (f_lose (i, l_, a, h) y1 1).2) (r0 := (f_lose (i, l_, a, h) y1 1).1) (ad := adC) (ca := ca) (cb := cb) F (c_lose l g adC (cfU ca (i, l_, a, h)) i l_ a h y1 1 hv) cq_lose rfl mw_533 mw_530 mw_531 mw_532 mw_1 (by decide) ⟨by decide, by decide⟩ rfl (Nat.le_of_ble_eq_true rfl) (kl_f hcs (by decide) (by decide)) dL_law_652 rfl ⟨by decide, by decide⟩ ?_
    refine k_aload_n (n := 656) F dL_law_655 rfl 1 rfl rfl ?_
    refine k_aload_n (n := 657) F dL_law_656 rfl 3 rfl rfl ?_
    refine k_iload_n (n := 658) F dL_law_657 rfl 0 rfl rfl ?_
    refine k_iconst (n := 659) (v := 1) F dL_law_658 rfl rfl ?_
    refine k_iadd (n := 660) F dL_law_659 rfl ?_
    refine k_sld (n := 661) F hX hbl hbA hy1 dL_law_660 rfl ?_
    refine k_aload_n (n := 662) F dL_law_661 rfl 3 rfl rfl ?_
    refine k_iload_n (n := 663) F dL_law_662 rfl 0 rfl rfl ?_
    refine k_iconst (n := 664) (v := 2) F dL_law_663 rfl rfl ?_
    refine k_iadd (n := 665) F dL_law_664 rfl ?_
    refine k_sld (n := 666) F hX hbl hbA hy2 dL_law_665 rfl ?_
    refine k_if_eq (n := 669) (tgt := 673) F dL_law_666 (by decide) rfl (fun h9 => absurd h9 hz) (fun _ => ?_)
    refine k_iconst (n := 670) (v := 1) F dL_law_669 rfl rfl ?_
    refine k_goto (tgt := 674) F dL_law_670 (by decide) ?_
    refine kl_Ri (n := 677) (k := 2) (As := [.int y1, .int 1]) (rest := [.int ((f_lose (i, l_, a, h) y1 1).1)]) (u := (i, l_, a, h)) (v := (f_lose (i, l_, a, h) y1 1).2) (r0 := (f_lose (i, l_, a, h) y1 1).1) (ad := adR) F (r_lose l g h0 adR i l_ a h y1 1 hv) rfl mw_800 mw_797 mw_798 mw_799 mw_9 (by decide) ⟨by decide, by decide⟩ rfl (Nat.le_of_ble_eq_true rfl) (kl_g hcs rfl rfl) dL_law_674 rfl ⟨rfl, rfl⟩ ?_
    exact k_icmp_eq (n := 680) (tgt := 820) F dL_law_677 (by decide) rfl (fun _ => nx ca cb _ (Inv_mono (Inv_lose hI) (Nat.le_add_right B 60) hB)) (fun h9 => absurd rfl h9)
set_option maxRecDepth 100000 in
set_option maxHeartbeats 4000000 in
theorem lc_meter {p : Program} (l : Launch) {e : Env} {s : State} {m : MethodId} {args : Array Value} {below : List Frame} {meth : Method} {c : Code} {Q : State → Prop} {g : kG} {A : Nat → Prop} {ret0 : Option FieldType} {nm : String} {b h0 B cells slots : Nat} {L : Nat} {xs : Nat → Int32} {x : Int32} {y1 : Int32} {adC ca cb adR : Nat → Nat} {i : Nat → Int32} {l_ : Nat → Int64} {a : Nat → Nat → Int32} {h : Nat → Int64} (F : kF p s m args meth c g A 4 cL_law "ColdWorksLaw" ret0 nm) (hX : va_X b L xs s s.heap) (hbl : b < s.heap.size) (hbA : ¬ A b) (hy1 : vp_in (x + 1) L ∧ xs (x + 1).toNatClampNeg = y1) (hI : Inv B (i, l_, a, h)) (hB : B + 60 < 1000000) (hcs : cells + 2 ≤ room_1.cells ∧ slots + 7 ≤ room_1.slots) (nx : ∀ (ca cb : Nat → Nat) (u : kS), Inv (B + 60) u → KW p l e room_1 s m args below meth c Q g A 4 (wK g adC ca cb u ++ wR g h0 adR u) (cells + 2) (slots + 7) 820 [(3, .int x), (2, .ref h0), (1, .ref (adC 0)), (0, .ref b)] []) : KW p l e room_1 s m args below meth c Q g A 4 (wK g adC ca cb (i, l_, a, h) ++ wR g h0 adR (i, l_, a, h)) cells slots 682 [(3, .int x), (2, .ref h0), (1, .ref (adC 0)), (0, .ref b)] [] := by
  have h17 : (i 17 + i 18).toInt64 = (i 17).toInt64 + (i 18).toInt64 := Inv_17 (u := (i, l_, a, h)) hI
  refine k_aload_n (n := 683) F dL_law_682 rfl 2 rfl rfl ?_
  refine k_aload_n (n := 684) F dL_law_683 rfl 3 rfl rfl ?_
  refine k_iload_n (n := 685) F dL_law_684 rfl 0 rfl rfl ?_
  refine k_iconst (n := 686) (v := 1) F dL_law_685 rfl rfl ?_
  refine k_iadd (n := 687) F dL_law_686 rfl ?_
  refine k_sld (n := 688) F hX hbl hbA hy1 dL_law_687 rfl ?_
  refine kl_Cl (n := 691) (k := 1) (As := [.int y1]) (rest := []) (u := (i, l_, a, h)) (v := (i, l_, a, h)) (r0 := f_meter (i, l_, a, h) y1) (ad := adC) (ca := ca) (cb := cb) F (c_meter l g adC (cfU ca (i, l_, a, h)) i l_ a h y1) cq_r rfl mw_540 mw_537 mw_538 mw_539 mw_1 (by decide) ⟨by decide, by decide⟩ rfl (Nat.le_of_ble_eq_true rfl) (kl_f hcs (by decide) (by decide)) dL_law_688 rfl ⟨by decide, by decide⟩ ?_
  refine k_aload_n (n := 692) F dL_law_691 rfl 1 rfl rfl ?_
  refine k_aload_n (n := 693) F dL_law_692 rfl 3 rfl rfl ?_
  refine k_iload_n (n := 694) F dL_law_693 rfl 0 rfl rfl ?_
  refine k_iconst (n := 695) (v := 1) F dL_law_694 rfl rfl ?_
  refine k_iadd (n := 696) F dL_law_695 rfl ?_
  refine k_sld (n := 697) F hX hbl hbA hy1 dL_law_696 rfl ?_
  refine kl_Rl (n := 700) (k := 1) (As := [.int y1]) (rest := [.long (f_meter (i, l_, a, h) y1)]) (u := (i, l_, a, h)) (v := (i, l_, a, h)) (r0 := f_meter (i, l_, a, h) y1) (ad := adR) F (r_meter l g h0 adR i l_ a h y1 h17) rfl mw_804 mw_801 mw_802 mw_803 mw_9 (by decide) ⟨by decide, by decide⟩ rfl (Nat.le_of_ble_eq_true rfl) (kl_g hcs rfl rfl) dL_law_697 rfl ⟨rfl, rfl⟩ ?_
  refine k_lcmp (n := 701) F dL_law_700 rfl ?_
  exact k_if_eq (n := 704) (tgt := 820) F dL_law_701 (by decide) rfl (fun _ => nx ca cb _ (Inv_mono hI (Nat.le_add_right B 60) hB)) (fun h9 => absurd ((lg_cmp_eq _ _).mpr rfl) h9)
set_option maxRecDepth 100000 in
set_option maxHeartbeats 4000000 in
theorem lc_balance {p : Program} (l : Launch) {e : Env} {s : State} {m : MethodId} {args : Array Value} {below : List Frame} {meth : Method} {c : Code} {Q : State → Prop} {g : kG} {A : Nat → Prop} {ret0 : Option FieldType} {nm : String} {b h0 B cells slots : Nat} {L : Nat} {xs : Nat → Int32} {x : Int32} {y1 : Int32} {adC ca cb adR : Nat → Nat} {i : Nat → Int32} {l_ : Nat → Int64} {a : Nat → Nat → Int32} {h : Nat → Int64} (F : kF p s m args meth c g A 4 cL_law "ColdWorksLaw" ret0 nm) (hX : va_X b L xs s s.heap) (hbl : b < s.heap.size) (hbA : ¬ A b) (hy1 : vp_in (x + 1) L ∧ xs (x + 1).toNatClampNeg = y1) (hI : Inv B (i, l_, a, h)) (hB : B + 60 < 1000000) (hcs : cells + 2 ≤ room_1.cells ∧ slots + 7 ≤ room_1.slots) (nx : ∀ (ca cb : Nat → Nat) (u : kS), Inv (B + 60) u → KW p l e room_1 s m args below meth c Q g A 4 (wK g adC ca cb u ++ wR g h0 adR u) (cells + 2) (slots + 7) 820 [(3, .int x), (2, .ref h0), (1, .ref (adC 0)), (0, .ref b)] []) : KW p l e room_1 s m args below meth c Q g A 4 (wK g adC ca cb (i, l_, a, h) ++ wR g h0 adR (i, l_, a, h)) cells slots 706 [(3, .int x), (2, .ref h0), (1, .ref (adC 0)), (0, .ref b)] [] := by
  have h17 : (i 17 + i 18).toInt64 = (i 17).toInt64 + (i 18).toInt64 := Inv_17 (u := (i, l_, a, h)) hI
  refine k_aload_n (n := 707) F dL_law_706 rfl 2 rfl rfl ?_
  refine k_aload_n (n := 708) F dL_law_707 rfl 3 rfl rfl ?_
  refine k_iload_n (n := 709) F dL_law_708 rfl 0 rfl rfl ?_
  refine k_iconst (n := 710) (v := 1) F dL_law_709 rfl rfl ?_
  refine k_iadd (n := 711) F dL_law_710 rfl ?_
  refine k_sld (n := 712) F hX hbl hbA hy1 dL_law_711 rfl ?_
  refine kl_Cl (n := 715) (k := 1) (As := [.int y1]) (rest := []) (u := (i, l_, a, h)) (v := (i, l_, a, h)) (r0 := f_balance (i, l_, a, h) y1) (ad := adC) (ca := ca) (cb := cb) F (c_balance l g adC (cfU ca (i, l_, a, h)) i l_ a h y1) cq_r rfl mw_549 mw_546 mw_547 mw_548 mw_1 (by decide) ⟨by decide, by decide⟩ rfl (Nat.le_of_ble_eq_true rfl) (kl_f hcs (by decide) (by decide)) dL_law_712 rfl ⟨by decide, by decide⟩ ?_
  refine k_aload_n (n := 716) F dL_law_715 rfl 1 rfl rfl ?_
  refine k_aload_n (n := 717) F dL_law_716 rfl 3 rfl rfl ?_
  refine k_iload_n (n := 718) F dL_law_717 rfl 0 rfl rfl ?_
  refine k_iconst (n := 719) (v := 1) F dL_law_718 rfl rfl ?_
  refine k_iadd (n := 720) F dL_law_719 rfl ?_
  refine k_sld (n := 721) F hX hbl hbA hy1 dL_law_720 rfl ?_
  refine kl_Rl (n := 724) (k := 1) (As := [.int y1]) (rest := [.long (f_balance (i, l_, a, h) y1)]) (u := (i, l_, a, h)) (v := (i, l_, a, h)) (r0 := f_balance (i, l_, a, h) y1) (ad := adR) F (r_balance l g h0 adR i l_ a h y1 h17) rfl mw_813 mw_810 mw_811 mw_812 mw_9 (by decide) ⟨by decide, by decide⟩ rfl (Nat.le_of_ble_eq_true rfl) (kl_g hcs rfl rfl) dL_law_721 rfl ⟨rfl, rfl⟩ ?_
  refine k_lcmp (n := 725) F dL_law_724 rfl ?_
  exact k_if_eq (n := 728) (tgt := 820) F dL_law_725 (by decide) rfl (fun _ => nx ca cb _ (Inv_mono hI (Nat.le_add_right B 60) hB)) (fun h9 => absurd ((lg_cmp_eq _ _).mpr rfl) h9)
set_option maxRecDepth 100000 in
set_option maxHeartbeats 4000000 in
theorem lc_split {p : Program} (l : Launch) {e : Env} {s : State} {m : MethodId} {args : Array Value} {below : List Frame} {meth : Method} {c : Code} {Q : State → Prop} {g : kG} {A : Nat → Prop} {ret0 : Option FieldType} {nm : String} {b h0 B cells slots : Nat} {L : Nat} {xs : Nat → Int32} {x : Int32} {y1 y2 y3 y4 : Int32} {adC ca cb adR : Nat → Nat} {i : Nat → Int32} {l_ : Nat → Int64} {a : Nat → Nat → Int32} {h : Nat → Int64} (F : kF p s m args meth c g A 4 cL_law "ColdWorksLaw" ret0 nm) (hX : va_X b L xs s s.heap) (hbl : b < s.heap.size) (hbA : ¬ A b) (hy1 : vp_in (x + 1) L ∧ xs (x + 1).toNatClampNeg = y1) (hy2 : vp_in (x + 2) L ∧ xs (x + 2).toNatClampNeg = y2) (hy3 : vp_in (x + 3) L ∧ xs (x + 3).toNatClampNeg = y3) (hy4 : vp_in (x + 4) L ∧ xs (x + 4).toNatClampNeg = y4) (hI : Inv B (i, l_, a, h)) (hB : B + 60 < 1000000) (hcs : cells + 2 ≤ room_1.cells ∧ slots + 7 ≤ room_1.slots) (nx : ∀ (ca cb : Nat → Nat) (u : kS), Inv (B + 60) u → KW p l e room_1 s m args below meth c Q g A 4 (wK g adC ca cb u ++ wR g h0 adR u) (cells + 2) (slots + 7) 820 [(3, .int x), (2, .ref h0), (1, .ref (adC 0)), (0, .ref b)] []) : KW p l e room_1 s m args below meth c Q g A 4 (wK g adC ca cb (i, l_, a, h) ++ wR g h0 adR (i, l_, a, h)) cells slots 730 [(3, .int x), (2, .ref h0), (1, .ref (adC 0)), (0, .ref b)] [] := by
  refine k_aload_n (n := 731) F dL_law_730 rfl 2 rfl rfl ?_
  refine k_aload_n (n := 732) F dL_law_731 rfl 3 rfl rfl ?_
  refine k_iload_n (n := 733) F dL_law_732 rfl 0 rfl rfl ?_
  refine k_iconst (n := 734) (v := 1) F dL_law_733 rfl rfl ?_
  refine k_iadd (n := 735) F dL_law_734 rfl ?_
  refine k_sld (n := 736) F hX hbl hbA hy1 dL_law_735 rfl ?_
  refine k_aload_n (n := 737) F dL_law_736 rfl 3 rfl rfl ?_
  refine k_iload_n (n := 738) F dL_law_737 rfl 0 rfl rfl ?_
  refine k_iconst (n := 739) (v := 2) F dL_law_738 rfl rfl ?_
  refine k_iadd (n := 740) F dL_law_739 rfl ?_
  refine k_sld (n := 741) F hX hbl hbA hy2 dL_law_740 rfl ?_
  refine k_aload_n (n := 742) F dL_law_741 rfl 3 rfl rfl ?_
  refine k_iload_n (n := 743) F dL_law_742 rfl 0 rfl rfl ?_
  refine k_iconst (n := 744) (v := 3) F dL_law_743 rfl rfl ?_
  refine k_iadd (n := 745) F dL_law_744 rfl ?_
  refine k_sld (n := 746) F hX hbl hbA hy3 dL_law_745 rfl ?_
  refine k_aload_n (n := 747) F dL_law_746 rfl 3 rfl rfl ?_
  refine k_iload_n (n := 748) F dL_law_747 rfl 0 rfl rfl ?_
  refine k_iconst (n := 749) (v := 4) F dL_law_748 rfl rfl ?_
  refine k_iadd (n := 750) F dL_law_749 rfl ?_
  refine k_sld (n := 751) F hX hbl hbA hy4 dL_law_750 rfl ?_
  refine kl_Kd (n := 754) (k := 4) (As := [.int y1, .int y2, .int y3, .int y4]) (rest := []) (u := (i, l_, a, h)) (v := (i, l_, a, h)) (r0 := f_split (i, l_, a, h) y1 y2 y3 y4) (ad := adC) (ca := ca) (cb := cb) F (c_split l g adC ca cb i l_ a h y1 y2 y3 y4 hI.1.1) rfl mw_561 mw_558 mw_559 mw_560 mw_1 (by decide) ⟨by decide, by decide⟩ rfl (Nat.le_of_ble_eq_true rfl) (kl_f hcs (by decide) (by decide)) dL_law_751 rfl ⟨by decide, by decide⟩ ?_
  refine k_aload_n (n := 755) F dL_law_754 rfl 1 rfl rfl ?_
  refine k_aload_n (n := 756) F dL_law_755 rfl 3 rfl rfl ?_
  refine k_iload_n (n := 757) F dL_law_756 rfl 0 rfl rfl ?_
  refine k_iconst (n := 758) (v := 1) F dL_law_757 rfl rfl ?_
  refine k_iadd (n := 759) F dL_law_758 rfl ?_
  refine k_sld (n := 760) F hX hbl hbA hy1 dL_law_759 rfl ?_
  refine k_aload_n (n := 761) F dL_law_760 rfl 3 rfl rfl ?_
  refine k_iload_n (n := 762) F dL_law_761 rfl 0 rfl rfl ?_
  refine k_iconst (n := 763) (v := 2) F dL_law_762 rfl rfl ?_
  refine k_iadd (n := 764) F dL_law_763 rfl ?_
  refine k_sld (n := 765) F hX hbl hbA hy2 dL_law_764 rfl ?_
  refine k_aload_n (n := 766) F dL_law_765 rfl 3 rfl rfl ?_
  refine k_iload_n (n := 767) F dL_law_766 rfl 0 rfl rfl ?_
  refine k_iconst (n := 768) (v := 3) F dL_law_767 rfl rfl ?_
  refine k_iadd (n := 769) F dL_law_768 rfl ?_
  refine k_sld (n := 770) F hX hbl hbA hy3 dL_law_769 rfl ?_
  refine k_aload_n (n := 771) F dL_law_770 rfl 3 rfl rfl ?_
  refine k_iload_n (n := 772) F dL_law_771 rfl 0 rfl rfl ?_
  refine k_iconst (n := 773) (v := 4) F dL_law_772 rfl rfl ?_
  refine k_iadd (n := 774) F dL_law_773 rfl ?_
  refine k_sld (n := 775) F hX hbl hbA hy4 dL_law_774 rfl ?_
  refine kl_Ri (n := 778) (k := 4) (As := [.int y1, .int y2, .int y3, .int y4]) (rest := [.int (f_split (i, l_, a, h) y1 y2 y3 y4)]) (u := (i, l_, a, h)) (v := (i, l_, a, h)) (r0 := f_split (i, l_, a, h) y1 y2 y3 y4) (ad := adR) F (r_split l g h0 adR i l_ a h y1 y2 y3 y4 hI.1.1 hI.1.2.1) rfl mw_817 mw_814 mw_815 mw_816 mw_9 (by decide) ⟨by decide, by decide⟩ rfl (Nat.le_of_ble_eq_true rfl) (kl_g hcs rfl rfl) dL_law_775 rfl ⟨rfl, rfl⟩ ?_
  exact k_icmp_eq (n := 781) (tgt := 820) F dL_law_778 (by decide) rfl (fun _ => nx ca cb _ (Inv_mono hI (Nat.le_add_right B 60) hB)) (fun h9 => absurd rfl h9)
set_option maxRecDepth 100000 in
set_option maxHeartbeats 4000000 in
theorem lc_count {p : Program} (l : Launch) {e : Env} {s : State} {m : MethodId} {args : Array Value} {below : List Frame} {meth : Method} {c : Code} {Q : State → Prop} {g : kG} {A : Nat → Prop} {ret0 : Option FieldType} {nm : String} {b h0 B cells slots : Nat} {L : Nat} {xs : Nat → Int32} {x : Int32} {y1 : Int32} {adC ca cb adR : Nat → Nat} {i : Nat → Int32} {l_ : Nat → Int64} {a : Nat → Nat → Int32} {h : Nat → Int64} (F : kF p s m args meth c g A 4 cL_law "ColdWorksLaw" ret0 nm) (hX : va_X b L xs s s.heap) (hbl : b < s.heap.size) (hbA : ¬ A b) (hy1 : vp_in (x + 1) L ∧ xs (x + 1).toNatClampNeg = y1) (hI : Inv B (i, l_, a, h)) (hB : B + 60 < 1000000) (hcs : cells + 2 ≤ room_1.cells ∧ slots + 7 ≤ room_1.slots) (nx : ∀ (ca cb : Nat → Nat) (u : kS), Inv (B + 60) u → KW p l e room_1 s m args below meth c Q g A 4 (wK g adC ca cb u ++ wR g h0 adR u) (cells + 2) (slots + 7) 820 [(3, .int x), (2, .ref h0), (1, .ref (adC 0)), (0, .ref b)] []) : KW p l e room_1 s m args below meth c Q g A 4 (wK g adC ca cb (i, l_, a, h) ++ wR g h0 adR (i, l_, a, h)) cells slots 783 [(3, .int x), (2, .ref h0), (1, .ref (adC 0)), (0, .ref b)] [] := by
  refine k_aload_n (n := 784) F dL_law_783 rfl 2 rfl rfl ?_
  refine k_aload_n (n := 785) F dL_law_784 rfl 3 rfl rfl ?_
  refine k_iload_n (n := 786) F dL_law_785 rfl 0 rfl rfl ?_
  refine k_iconst (n := 787) (v := 1) F dL_law_786 rfl rfl ?_
  refine k_iadd (n := 788) F dL_law_787 rfl ?_
  refine k_sld (n := 789) F hX hbl hbA hy1 dL_law_788 rfl ?_
  refine kl_Ci (n := 792) (k := 1) (As := [.int y1]) (rest := []) (u := (i, l_, a, h)) (v := (i, l_, a, h)) (r0 := f_count (i, l_, a, h) y1) (ad := adC) (ca := ca) (cb := cb) F (c_count l g adC (cfU ca (i, l_, a, h)) i l_ a h y1) cq_r rfl mw_568 mw_565 mw_566 mw_567 mw_1 (by decide) ⟨by decide, by decide⟩ rfl (Nat.le_of_ble_eq_true rfl) (kl_f hcs (by decide) (by decide)) dL_law_789 rfl ⟨by decide, by decide⟩ ?_
  refine k_aload_n (n := 793) F dL_law_792 rfl 1 rfl rfl ?_
  refine k_aload_n (n := 794) F dL_law_793 rfl 3 rfl rfl ?_
  refine k_iload_n (n := 795) F dL_law_794 rfl 0 rfl rfl ?_
  refine k_iconst (n := 796) (v := 1) F dL_law_795 rfl rfl ?_
  refine k_iadd (n := 797) F dL_law_796 rfl ?_
  refine k_sld (n := 798) F hX hbl hbA hy1 dL_law_797 rfl ?_
  refine kl_Ri (n := 801) (k := 1) (As := [.int y1]) (rest := [.int (f_count (i, l_, a, h) y1)]) (u := (i, l_, a, h)) (v := (i, l_, a, h)) (r0 := f_count (i, l_, a, h) y1) (ad := adR) F (r_count l g h0 adR i l_ a h y1) rfl mw_821 mw_818 mw_819 mw_820 mw_9 (by decide) ⟨by decide, by decide⟩ rfl (Nat.le_of_ble_eq_true rfl) (kl_g hcs rfl rfl) dL_law_798 rfl ⟨rfl, rfl⟩ ?_
  exact k_icmp_eq (n := 804) (tgt := 820) F dL_law_801 (by decide) rfl (fun _ => nx ca cb _ (Inv_mono hI (Nat.le_add_right B 60) hB)) (fun h9 => absurd rfl h9)
set_option maxRecDepth 100000 in
set_option maxHeartbeats 4000000 in
theorem lc_trace {p : Program} (l : Launch) {e : Env} {s : State} {m : MethodId} {args : Array Value} {below : List Frame} {meth : Method} {c : Code} {Q : State → Prop} {g : kG} {A : Nat → Prop} {ret0 : Option FieldType} {nm : String} {b h0 B cells slots : Nat} {x : Int32} {adC ca cb adR : Nat → Nat} {i : Nat → Int32} {l_ : Nat → Int64} {a : Nat → Nat → Int32} {h : Nat → Int64} (F : kF p s m args meth c g A 4 cL_law "ColdWorksLaw" ret0 nm)  (hI : Inv B (i, l_, a, h)) (hB : B + 60 < 1000000) (hcs : cells + 2 ≤ room_1.cells ∧ slots + 7 ≤ room_1.slots) (nx : ∀ (ca cb : Nat → Nat) (u : kS), Inv (B + 60) u → KW p l e room_1 s m args below meth c Q g A 4 (wK g adC ca cb u ++ wR g h0 adR u) (cells + 2) (slots + 7) 820 [(3, .int x), (2, .ref h0), (1, .ref (adC 0)), (0, .ref b)] []) : KW p l e room_1 s m args below meth c Q g A 4 (wK g adC ca cb (i, l_, a, h) ++ wR g h0 adR (i, l_, a, h)) cells slots 806 [(3, .int x), (2, .ref h0), (1, .ref (adC 0)), (0, .ref b)] [] := by
  refine k_aload_n (n := 807) F dL_law_806 rfl 2 rfl rfl ?_
  refine kl_Cl (n := 810) (k := 0) (As := []) (rest := []) (u := (i, l_, a, h)) (v := (i, l_, a, h)) (r0 := l_ 1) (ad := adC) (ca := ca) (cb := cb) F (c_trace l g adC (cfU ca (i, l_, a, h)) i l_ a h) cq_r rfl mw_572 mw_569 mw_570 mw_571 mw_1 (by decide) ⟨by decide, by decide⟩ rfl (Nat.le_of_ble_eq_true rfl) (kl_f hcs (by decide) (by decide)) dL_law_807 rfl ⟨by decide, by decide⟩ ?_
  refine k_aload_n (n := 811) F dL_law_810 rfl 1 rfl rfl ?_
  refine kl_Rl (n := 814) (k := 0) (As := []) (rest := [.long (l_ 1)]) (u := (i, l_, a, h)) (v := (i, l_, a, h)) (r0 := l_ 1) (ad := adR) F (r_trace l g h0 adR i l_ a h) rfl mw_825 mw_822 mw_823 mw_824 mw_9 (by decide) ⟨by decide, by decide⟩ rfl (Nat.le_of_ble_eq_true rfl) (kl_g hcs rfl rfl) dL_law_811 rfl ⟨rfl, rfl⟩ ?_
  refine k_lcmp (n := 815) F dL_law_814 rfl ?_
  exact k_if_eq (n := 818) (tgt := 820) F dL_law_815 (by decide) rfl (fun _ => nx ca cb _ (Inv_mono hI (Nat.le_add_right B 60) hB)) (fun h9 => absurd ((lg_cmp_eq _ _).mpr rfl) h9)
