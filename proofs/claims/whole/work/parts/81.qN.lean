theorem Pr.two {o : Int32 × Me} {μ : Me} {q : Me → Int32 × Me} {n d : Nat} (h : Rel μ μ n d) (hp : ∀ ν, Rel μ ν n d → Pr o μ (q ν) ν) : Rel μ o.2 n d ∧ (∀ a, 136 ≤ a → o.2 a = μ a) ∧ o.1 = (q o.2).1 ∧ ∃ n' d' : Nat, Rel (q o.2).2 (q o.2).2 n' d' := by
  have f := (hp μ h).2.2.1
  have h' : Rel μ o.2 n d := h.cong (fun _ _ => rfl) f
  obtain ⟨p1, ⟨n', d', r⟩, -, p4⟩ := hp o.2 h'
  exact ⟨h', f, p1, n', d', r.cong p4 (fun _ _ => rfl)⟩
theorem Rel.ok {μ ν : Me} {n d : Nat} (h : Rel μ ν n d) : sOk μ 10 n d ∧ μ 10 3 = nI n ∧ n ≤ 7 ∧ ν 136 8 = nI n := ⟨⟨h.1.2.1.1, h.1.1.2.1, h.1.2.1.2.1, h.1.1.2.2.2.1⟩, h.1.2.1.1, h.1.1.2.1, h.1.1.1⟩
abbrev lL (i : Nat) : List (Option Value) := [some (.retAddr 0), some (.ref 0), some (.ref 136), some (.int (nI i))]
abbrev lP : Option Value → aS → Prop := fun r _ => r = some (.int 1)
def lK (q : Nat × (Nat → Int32)) (mc ms c0 s0 i : Nat) : Prop := ∀ (c' s' : Nat) (μ' : Me) (e' : Nat × (Nat → aC)), c' ≤ c0 + 1 → s' ≤ s0 + 8 → (∃ n d : Nat, Rel μ' μ' n d) → AW (some q) 20 mc ms mL_law c' s' 987 (lL i) [] (wS μ' e') lP
theorem v_k {q : Nat × (Nat → Int32)} {i : Nat} (k : Nat) (hq : q.1 ≤ 320) (h : i + k < q.1) : vp_in (nI i + nI k) q.1 := by rw [nI_add]; exact vp_in_nI h (by omega)
set_option maxHeartbeats 4000000 in
set_option maxRecDepth 100000 in
theorem law_feed {q : Nat × (Nat → Int32)} {mc ms c0 s0 i n d : Nat} {μ : Me} {e : Nat × (Nat → aC)} (hR : Rel μ μ n d) (hc : c0 + 1 ≤ mc) (hs : s0 + 8 ≤ ms) (hq : q.1 ≤ 320) (hi : i + 5 ≤ q.1) (K : lK q mc ms c0 s0 i) : AW (some q) 20 mc ms mL_law c0 s0 164 (lL i) [] (wS μ e) lP := by
  obtain ⟨ho, hn, h7, e8⟩ := hR.ok
  have v1 : vp_in (nI i + 1) q.1 := v_k 1 hq (by omega)
  obtain ⟨l, l9, l1, l2, -⟩ := hR.2.2.1
  obtain ⟨h1, f, ee, n', d', h2⟩ := Pr.two (o := oFeed μ l (q.2 (nI i + 1).toNatClampNeg)) (q := fun ν => qFeed ν l (q.2 (nI i + 1).toNatClampNeg)) hR (fun ν h => p_feed h l1 l9)
  refine AW.aload_n (n := 165) dL_law_164 rfl rfl ?_
  refine AW.sload_n (n := 166) dL_law_165 rfl rfl ?_
  refine AW.iload_n (n := 167) dL_law_166 rfl rfl ?_
  refine AW.iconst (n := 168) (v := 1) dL_law_167 rfl rfl ?_
  refine AW.iadd (n := 169) dL_law_168 rfl ?_
  refine AW.sald (n := 170) dL_law_169 rfl v1 rfl ?_
  refine AW.ev1i (Mc := mX9_feed) (n := 173) dL_law_170 lk_L_13 k_mX9_feed s_0 rfl rfl (c_X9_feed l1 l9) (Nat.le_of_ble_eq_true rfl) (by decide) (by omega) (by omega) rfl ?_
  refine AW.aload_n (n := 174) dL_law_173 rfl rfl ?_
  refine AW.sload_n (n := 175) dL_law_174 rfl rfl ?_
  refine AW.iload_n (n := 176) dL_law_175 rfl rfl ?_
  refine AW.iconst (n := 177) (v := 1) dL_law_176 rfl rfl ?_
  refine AW.iadd (n := 178) dL_law_177 rfl ?_
  refine AW.sald (n := 179) dL_law_178 rfl v1 rfl ?_
  refine AW.ev1i (Mc := mX10_feed) (n := 182) dL_law_179 lk_L_17 k_mX10_feed s_136 rfl rfl (c_X10_feed (by rw [f 136 (by omega)]; exact l2) l9) (Nat.le_of_ble_eq_true rfl) (by decide) (by omega) (by omega) rfl ?_
  refine AW.icmp_eq (n := 185) (t := 987) dL_law_182 rfl rfl (fun _ => K _ _ _ _ (by omega) (by omega) ⟨n', d', h2⟩) (fun h => absurd ee h)
set_option maxHeartbeats 4000000 in
set_option maxRecDepth 100000 in
theorem law_street {q : Nat × (Nat → Int32)} {mc ms c0 s0 i n d : Nat} {μ : Me} {e : Nat × (Nat → aC)} (hR : Rel μ μ n d) (hc : c0 + 1 ≤ mc) (hs : s0 + 8 ≤ ms) (hq : q.1 ≤ 320) (hi : i + 5 ≤ q.1) (K : lK q mc ms c0 s0 i) : AW (some q) 20 mc ms mL_law c0 s0 187 (lL i) [] (wS μ e) lP := by
  obtain ⟨ho, hn, h7, e8⟩ := hR.ok
  obtain ⟨l, l9, l1, l2, -⟩ := hR.2.2.1
  obtain ⟨h1, f, ee, n', d', h2⟩ := Pr.two (o := oStreet μ) (q := fun ν => qStreet ν) hR (fun ν h => p_street h)
  refine AW.aload_n (n := 188) dL_law_187 rfl rfl ?_
  refine AW.ev0i (Mc := mX9_street) (n := 191) dL_law_188 lk_L_18 k_mX9_street s_0 rfl rfl (c_X9_street l1 l9) (Nat.le_of_ble_eq_true rfl) (by decide) (by omega) (by omega) rfl ?_
  refine AW.aload_n (n := 192) dL_law_191 rfl rfl ?_
  refine AW.ev0i (Mc := mX10_street) (n := 195) dL_law_192 lk_L_22 k_mX10_street s_136 rfl rfl (c_X10_street (by rw [f 136 (by omega)]; exact l2) l9) (Nat.le_of_ble_eq_true rfl) (by decide) (by omega) (by omega) rfl ?_
  refine AW.icmp_eq (n := 198) (t := 987) dL_law_195 rfl rfl (fun _ => K _ _ _ _ (by omega) (by omega) ⟨n', d', h2⟩) (fun h => absurd ee h)
set_option maxHeartbeats 4000000 in
set_option maxRecDepth 100000 in
theorem law_fault {q : Nat × (Nat → Int32)} {mc ms c0 s0 i n d : Nat} {μ : Me} {e : Nat × (Nat → aC)} (hR : Rel μ μ n d) (hc : c0 + 1 ≤ mc) (hs : s0 + 8 ≤ ms) (hq : q.1 ≤ 320) (hi : i + 5 ≤ q.1) (K : lK q mc ms c0 s0 i) : AW (some q) 20 mc ms mL_law c0 s0 200 (lL i) [] (wS μ e) lP := by
  obtain ⟨ho, hn, h7, e8⟩ := hR.ok
  refine AW.aload_n (n := 201) dL_law_200 rfl rfl ?_
  refine AW.ev0i (Mc := mX9_fault) (n := 204) dL_law_201 lk_L_23 k_mX9_fault s_0 rfl rfl (c_X9_fault) (Nat.le_of_ble_eq_true rfl) (by decide) (by omega) (by omega) rfl ?_
  refine AW.aload_n (n := 205) dL_law_204 rfl rfl ?_
  refine AW.ev0i (Mc := mX10_fault) (n := 208) dL_law_205 lk_L_26 k_mX10_fault s_136 rfl rfl (c_X10_fault) (Nat.le_of_ble_eq_true rfl) (by decide) (by omega) (by omega) rfl ?_
  refine AW.icmp_eq (n := 211) (t := 987) dL_law_208 rfl rfl (fun _ => K _ _ _ _ (by omega) (by omega) ⟨n, d, hR⟩) (fun h => absurd (hR.2.1) h)
set_option maxHeartbeats 4000000 in
set_option maxRecDepth 100000 in
theorem law_told {q : Nat × (Nat → Int32)} {mc ms c0 s0 i n d : Nat} {μ : Me} {e : Nat × (Nat → aC)} (hR : Rel μ μ n d) (hc : c0 + 1 ≤ mc) (hs : s0 + 8 ≤ ms) (hq : q.1 ≤ 320) (hi : i + 5 ≤ q.1) (K : lK q mc ms c0 s0 i) : AW (some q) 20 mc ms mL_law c0 s0 213 (lL i) [] (wS μ e) lP := by
  obtain ⟨ho, hn, h7, e8⟩ := hR.ok
  have v1 : vp_in (nI i + 1) q.1 := v_k 1 hq (by omega)
  refine AW.aload_n (n := 214) dL_law_213 rfl rfl ?_
  refine AW.sload_n (n := 215) dL_law_214 rfl rfl ?_
  refine AW.iload_n (n := 216) dL_law_215 rfl rfl ?_
  refine AW.iconst (n := 217) (v := 1) dL_law_216 rfl rfl ?_
  refine AW.iadd (n := 218) dL_law_217 rfl ?_
  refine AW.sald (n := 219) dL_law_218 rfl v1 rfl ?_
  refine AW.ev1i (Mc := mX9_told) (n := 222) dL_law_219 lk_L_27 k_mX9_told s_0 rfl rfl (c_X9_told hn h7) (Nat.le_of_ble_eq_true rfl) (by decide) (by omega) (by omega) rfl ?_
  refine AW.aload_n (n := 223) dL_law_222 rfl rfl ?_
  refine AW.sload_n (n := 224) dL_law_223 rfl rfl ?_
  refine AW.iload_n (n := 225) dL_law_224 rfl rfl ?_
  refine AW.iconst (n := 226) (v := 1) dL_law_225 rfl rfl ?_
  refine AW.iadd (n := 227) dL_law_226 rfl ?_
  refine AW.sald (n := 228) dL_law_227 rfl v1 rfl ?_
  refine AW.ev1i (Mc := mX10_told) (n := 231) dL_law_228 lk_L_30 k_mX10_told s_136 rfl rfl (c_X10_told e8 h7) (Nat.le_of_ble_eq_true rfl) (by decide) (by omega) (by omega) rfl ?_
  refine AW.icmp_eq (n := 234) (t := 987) dL_law_231 rfl rfl (fun _ => K _ _ _ _ (by omega) (by omega) ⟨n, d, hR⟩) (fun h => absurd (p_told hR) h)
set_option maxHeartbeats 4000000 in
set_option maxRecDepth 100000 in
theorem law_stop {q : Nat × (Nat → Int32)} {mc ms c0 s0 i n d : Nat} {μ : Me} {e : Nat × (Nat → aC)} (hR : Rel μ μ n d) (hc : c0 + 1 ≤ mc) (hs : s0 + 8 ≤ ms) (hq : q.1 ≤ 320) (hi : i + 5 ≤ q.1) (K : lK q mc ms c0 s0 i) : AW (some q) 20 mc ms mL_law c0 s0 236 (lL i) [] (wS μ e) lP := by
  obtain ⟨ho, hn, h7, e8⟩ := hR.ok
  have v1 : vp_in (nI i + 1) q.1 := v_k 1 hq (by omega)
  have v2 : vp_in (nI i + 2) q.1 := v_k 2 hq (by omega)
  refine AW.aload_n (n := 237) dL_law_236 rfl rfl ?_
  refine AW.sload_n (n := 238) dL_law_237 rfl rfl ?_
  refine AW.iload_n (n := 239) dL_law_238 rfl rfl ?_
  refine AW.iconst (n := 240) (v := 1) dL_law_239 rfl rfl ?_
  refine AW.iadd (n := 241) dL_law_240 rfl ?_
  refine AW.sald (n := 242) dL_law_241 rfl v1 rfl ?_
  refine AW.sload_n (n := 243) dL_law_242 rfl rfl ?_
  refine AW.iload_n (n := 244) dL_law_243 rfl rfl ?_
  refine AW.iconst (n := 245) (v := 2) dL_law_244 rfl rfl ?_
  refine AW.iadd (n := 246) dL_law_245 rfl ?_
  refine AW.sald (n := 247) dL_law_246 rfl v2 rfl ?_
  refine AW.ev2i (Mc := mX9_stop) (n := 250) dL_law_247 lk_L_31 k_mX9_stop s_0 rfl rfl (c_X9_stop hn h7) (Nat.le_of_ble_eq_true rfl) (by decide) (by omega) (by omega) rfl ?_
  refine AW.aload_n (n := 251) dL_law_250 rfl rfl ?_
  refine AW.sload_n (n := 252) dL_law_251 rfl rfl ?_
  refine AW.iload_n (n := 253) dL_law_252 rfl rfl ?_
  refine AW.iconst (n := 254) (v := 1) dL_law_253 rfl rfl ?_
  refine AW.iadd (n := 255) dL_law_254 rfl ?_
  refine AW.sald (n := 256) dL_law_255 rfl v1 rfl ?_
  refine AW.sload_n (n := 257) dL_law_256 rfl rfl ?_
  refine AW.iload_n (n := 258) dL_law_257 rfl rfl ?_
  refine AW.iconst (n := 259) (v := 2) dL_law_258 rfl rfl ?_
  refine AW.iadd (n := 260) dL_law_259 rfl ?_
  refine AW.sald (n := 261) dL_law_260 rfl v2 rfl ?_
  refine AW.ev2i (Mc := mX10_stop) (n := 264) dL_law_261 lk_L_35 k_mX10_stop s_136 rfl rfl (c_X10_stop e8 h7) (Nat.le_of_ble_eq_true rfl) (by decide) (by omega) (by omega) rfl ?_
  refine AW.icmp_eq (n := 267) (t := 987) dL_law_264 rfl rfl (fun _ => K _ _ _ _ (by omega) (by omega) ⟨n, d, hR⟩) (fun h => absurd (p_stop hR) h)
set_option maxHeartbeats 4000000 in
set_option maxRecDepth 100000 in
theorem law_din {q : Nat × (Nat → Int32)} {mc ms c0 s0 i n d : Nat} {μ : Me} {e : Nat × (Nat → aC)} (hR : Rel μ μ n d) (hc : c0 + 1 ≤ mc) (hs : s0 + 8 ≤ ms) (hq : q.1 ≤ 320) (hi : i + 5 ≤ q.1) (K : lK q mc ms c0 s0 i) : AW (some q) 20 mc ms mL_law c0 s0 269 (lL i) [] (wS μ e) lP := by
  obtain ⟨ho, hn, h7, e8⟩ := hR.ok
  have v1 : vp_in (nI i + 1) q.1 := v_k 1 hq (by omega)
  refine AW.aload_n (n := 270) dL_law_269 rfl rfl ?_
  refine AW.sload_n (n := 271) dL_law_270 rfl rfl ?_
  refine AW.iload_n (n := 272) dL_law_271 rfl rfl ?_
  refine AW.iconst (n := 273) (v := 1) dL_law_272 rfl rfl ?_
  refine AW.iadd (n := 274) dL_law_273 rfl ?_
  refine AW.sald (n := 275) dL_law_274 rfl v1 rfl ?_
  refine AW.ev1i (Mc := mX9_din) (n := 278) dL_law_275 lk_L_36 k_mX9_din s_0 rfl rfl (c_X9_din ho.2.2.1 ho.2.2.2) (Nat.le_of_ble_eq_true rfl) (by decide) (by omega) (by omega) rfl ?_
  refine AW.aload_n (n := 279) dL_law_278 rfl rfl ?_
  refine AW.sload_n (n := 280) dL_law_279 rfl rfl ?_
  refine AW.iload_n (n := 281) dL_law_280 rfl rfl ?_
  refine AW.iconst (n := 282) (v := 1) dL_law_281 rfl rfl ?_
  refine AW.iadd (n := 283) dL_law_282 rfl ?_
  refine AW.sald (n := 284) dL_law_283 rfl v1 rfl ?_
  refine AW.ev1i (Mc := mX10_din) (n := 287) dL_law_284 lk_L_39 k_mX10_din s_136 rfl rfl (c_X10_din hR.1.1.2.2.1 hR.1.1.2.2.2.1) (Nat.le_of_ble_eq_true rfl) (by decide) (by omega) (by omega) rfl ?_
  refine AW.icmp_eq (n := 290) (t := 987) dL_law_287 rfl rfl (fun _ => K _ _ _ _ (by omega) (by omega) ⟨n, d, hR⟩) (fun h => absurd (p_din hR) h)
set_option maxHeartbeats 4000000 in
set_option maxRecDepth 100000 in
theorem law_round {q : Nat × (Nat → Int32)} {mc ms c0 s0 i n d : Nat} {μ : Me} {e : Nat × (Nat → aC)} (hR : Rel μ μ n d) (hc : c0 + 1 ≤ mc) (hs : s0 + 8 ≤ ms) (hq : q.1 ≤ 320) (hi : i + 5 ≤ q.1) (K : lK q mc ms c0 s0 i) : AW (some q) 20 mc ms mL_law c0 s0 292 (lL i) [] (wS μ e) lP := by
  obtain ⟨ho, hn, h7, e8⟩ := hR.ok
  have v1 : vp_in (nI i + 1) q.1 := v_k 1 hq (by omega)
  have v2 : vp_in (nI i + 2) q.1 := v_k 2 hq (by omega)
  obtain ⟨x, y, x9, y9, x1, y1, y2, -⟩ := hR.2.2.2.2.1
  obtain ⟨h1, f, ee, n', d', h2⟩ := Pr.two (o := oRound μ x y (q.2 (nI i + 1).toNatClampNeg) (q.2 (nI i + 2).toNatClampNeg)) (q := fun ν => qRound ν y (q.2 (nI i + 1).toNatClampNeg) (q.2 (nI i + 2).toNatClampNeg)) hR (fun ν h => p_round h x1 x9 y1 y9)
  refine AW.aload_n (n := 293) dL_law_292 rfl rfl ?_
  refine AW.sload_n (n := 294) dL_law_293 rfl rfl ?_
  refine AW.iload_n (n := 295) dL_law_294 rfl rfl ?_
  refine AW.iconst (n := 296) (v := 1) dL_law_295 rfl rfl ?_
  refine AW.iadd (n := 297) dL_law_296 rfl ?_
  refine AW.sald (n := 298) dL_law_297 rfl v1 rfl ?_
  refine AW.sload_n (n := 299) dL_law_298 rfl rfl ?_
  refine AW.iload_n (n := 300) dL_law_299 rfl rfl ?_
  refine AW.iconst (n := 301) (v := 2) dL_law_300 rfl rfl ?_
  refine AW.iadd (n := 302) dL_law_301 rfl ?_
  refine AW.sald (n := 303) dL_law_302 rfl v2 rfl ?_
  refine AW.ev2i (Mc := mX9_round) (n := 306) dL_law_303 lk_L_40 k_mX9_round s_0 rfl rfl (c_X9_round ho x1 x9 y1 y9) (Nat.le_of_ble_eq_true rfl) (by decide) (by omega) (by omega) rfl ?_
  refine AW.aload_n (n := 307) dL_law_306 rfl rfl ?_
  refine AW.sload_n (n := 308) dL_law_307 rfl rfl ?_
  refine AW.iload_n (n := 309) dL_law_308 rfl rfl ?_
  refine AW.iconst (n := 310) (v := 1) dL_law_309 rfl rfl ?_
  refine AW.iadd (n := 311) dL_law_310 rfl ?_
  refine AW.sald (n := 312) dL_law_311 rfl v1 rfl ?_
  refine AW.sload_n (n := 313) dL_law_312 rfl rfl ?_
  refine AW.iload_n (n := 314) dL_law_313 rfl rfl ?_
  refine AW.iconst (n := 315) (v := 2) dL_law_314 rfl rfl ?_
  refine AW.iadd (n := 316) dL_law_315 rfl ?_
  refine AW.sald (n := 317) dL_law_316 rfl v2 rfl ?_
  refine AW.ev2i (Mc := mX10_round) (n := 320) dL_law_317 lk_L_43 k_mX10_round s_136 rfl rfl (c_X10_round h1.1.1 (by rw [f 136 (by omega)]; exact y2) y9) (Nat.le_of_ble_eq_true rfl) (by decide) (by omega) (by omega) rfl ?_
  refine AW.icmp_eq (n := 323) (t := 987) dL_law_320 rfl rfl (fun _ => K _ _ _ _ (by omega) (by omega) ⟨n', d', h2⟩) (fun h => absurd ee h)
set_option maxHeartbeats 4000000 in
set_option maxRecDepth 100000 in
theorem law_fetch {q : Nat × (Nat → Int32)} {mc ms c0 s0 i n d : Nat} {μ : Me} {e : Nat × (Nat → aC)} (hR : Rel μ μ n d) (hc : c0 + 1 ≤ mc) (hs : s0 + 8 ≤ ms) (hq : q.1 ≤ 320) (hi : i + 5 ≤ q.1) (K : lK q mc ms c0 s0 i) : AW (some q) 20 mc ms mL_law c0 s0 325 (lL i) [] (wS μ e) lP := by
  obtain ⟨ho, hn, h7, e8⟩ := hR.ok
  have v1 : vp_in (nI i + 1) q.1 := v_k 1 hq (by omega)
  obtain ⟨x, y, x9, y9, x1, y1, y2, -⟩ := hR.2.2.2.2.1
  obtain ⟨h1, f, ee, n', d', h2⟩ := Pr.two (o := oFetch μ x y (q.2 (nI i + 1).toNatClampNeg)) (q := fun ν => qFetch ν y (q.2 (nI i + 1).toNatClampNeg)) hR (fun ν h => p_fetch h x1 x9 y1 y9)
  refine AW.aload_n (n := 326) dL_law_325 rfl rfl ?_
  refine AW.sload_n (n := 327) dL_law_326 rfl rfl ?_
  refine AW.iload_n (n := 328) dL_law_327 rfl rfl ?_
  refine AW.iconst (n := 329) (v := 1) dL_law_328 rfl rfl ?_
  refine AW.iadd (n := 330) dL_law_329 rfl ?_
  refine AW.sald (n := 331) dL_law_330 rfl v1 rfl ?_
  refine AW.ev1i (Mc := mX9_fetch) (n := 334) dL_law_331 lk_L_44 k_mX9_fetch s_0 rfl rfl (c_X9_fetch hn h7 x1 x9 y1 y9) (Nat.le_of_ble_eq_true rfl) (by decide) (by omega) (by omega) rfl ?_
  refine AW.aload_n (n := 335) dL_law_334 rfl rfl ?_
  refine AW.sload_n (n := 336) dL_law_335 rfl rfl ?_
  refine AW.iload_n (n := 337) dL_law_336 rfl rfl ?_
  refine AW.iconst (n := 338) (v := 1) dL_law_337 rfl rfl ?_
  refine AW.iadd (n := 339) dL_law_338 rfl ?_
  refine AW.sald (n := 340) dL_law_339 rfl v1 rfl ?_
  refine AW.ev1i (Mc := mX10_fetch) (n := 343) dL_law_340 lk_L_47 k_mX10_fetch s_136 rfl rfl (c_X10_fetch h1.1.1 (by rw [f 136 (by omega)]; exact y2) y9) (Nat.le_of_ble_eq_true rfl) (by decide) (by omega) (by omega) rfl ?_
  refine AW.icmp_eq (n := 346) (t := 987) dL_law_343 rfl rfl (fun _ => K _ _ _ _ (by omega) (by omega) ⟨n', d', h2⟩) (fun h => absurd ee h)
set_option maxHeartbeats 4000000 in
set_option maxRecDepth 100000 in
theorem law_order {q : Nat × (Nat → Int32)} {mc ms c0 s0 i n d : Nat} {μ : Me} {e : Nat × (Nat → aC)} (hR : Rel μ μ n d) (hc : c0 + 1 ≤ mc) (hs : s0 + 8 ≤ ms) (hq : q.1 ≤ 320) (hi : i + 5 ≤ q.1) (K : lK q mc ms c0 s0 i) : AW (some q) 20 mc ms mL_law c0 s0 348 (lL i) [] (wS μ e) lP := by
  obtain ⟨ho, hn, h7, e8⟩ := hR.ok
  have v1 : vp_in (nI i + 1) q.1 := v_k 1 hq (by omega)
  obtain ⟨x, y, x9, y9, x1, y1, y2, -⟩ := hR.2.2.2.2.1
  obtain ⟨h1, f, ee, n', d', h2⟩ := Pr.two (o := oOrder μ x y (q.2 (nI i + 1).toNatClampNeg)) (q := fun ν => qOrder ν y (q.2 (nI i + 1).toNatClampNeg)) hR (fun ν h => p_order h x1 x9 y1 y9)
  refine AW.aload_n (n := 349) dL_law_348 rfl rfl ?_
  refine AW.sload_n (n := 350) dL_law_349 rfl rfl ?_
  refine AW.iload_n (n := 351) dL_law_350 rfl rfl ?_
  refine AW.iconst (n := 352) (v := 1) dL_law_351 rfl rfl ?_
  refine AW.iadd (n := 353) dL_law_352 rfl ?_
  refine AW.sald (n := 354) dL_law_353 rfl v1 rfl ?_
  refine AW.ev1i (Mc := mX9_order) (n := 357) dL_law_354 lk_L_48 k_mX9_order s_0 rfl rfl (c_X9_order hn h7 x1 x9 y1 y9) (Nat.le_of_ble_eq_true rfl) (by decide) (by omega) (by omega) rfl ?_
  refine AW.aload_n (n := 358) dL_law_357 rfl rfl ?_
  refine AW.sload_n (n := 359) dL_law_358 rfl rfl ?_
  refine AW.iload_n (n := 360) dL_law_359 rfl rfl ?_
  refine AW.iconst (n := 361) (v := 1) dL_law_360 rfl rfl ?_
  refine AW.iadd (n := 362) dL_law_361 rfl ?_
  refine AW.sald (n := 363) dL_law_362 rfl v1 rfl ?_
  refine AW.ev1i (Mc := mX10_order) (n := 366) dL_law_363 lk_L_51 k_mX10_order s_136 rfl rfl (c_X10_order h1.1.1 (by rw [f 136 (by omega)]; exact y2) y9) (Nat.le_of_ble_eq_true rfl) (by decide) (by omega) (by omega) rfl ?_
  refine AW.icmp_eq (n := 369) (t := 987) dL_law_366 rfl rfl (fun _ => K _ _ _ _ (by omega) (by omega) ⟨n', d', h2⟩) (fun h => absurd ee h)
set_option maxHeartbeats 4000000 in
set_option maxRecDepth 100000 in
theorem law_thank {q : Nat × (Nat → Int32)} {mc ms c0 s0 i n d : Nat} {μ : Me} {e : Nat × (Nat → aC)} (hR : Rel μ μ n d) (hc : c0 + 1 ≤ mc) (hs : s0 + 8 ≤ ms) (hq : q.1 ≤ 320) (hi : i + 5 ≤ q.1) (K : lK q mc ms c0 s0 i) : AW (some q) 20 mc ms mL_law c0 s0 371 (lL i) [] (wS μ e) lP := by
  obtain ⟨ho, hn, h7, e8⟩ := hR.ok
  have v1 : vp_in (nI i + 1) q.1 := v_k 1 hq (by omega)
  obtain ⟨x, y, x9, y9, x1, y1, y2, -⟩ := hR.2.2.2.2.1
  obtain ⟨h1, f, ee, n', d', h2⟩ := Pr.two (o := oThank μ x y (q.2 (nI i + 1).toNatClampNeg)) (q := fun ν => qThank ν y (q.2 (nI i + 1).toNatClampNeg)) hR (fun ν h => p_thank h x1 x9 y1 y9)
  refine AW.aload_n (n := 372) dL_law_371 rfl rfl ?_
  refine AW.sload_n (n := 373) dL_law_372 rfl rfl ?_
  refine AW.iload_n (n := 374) dL_law_373 rfl rfl ?_
  refine AW.iconst (n := 375) (v := 1) dL_law_374 rfl rfl ?_
  refine AW.iadd (n := 376) dL_law_375 rfl ?_
  refine AW.sald (n := 377) dL_law_376 rfl v1 rfl ?_
  refine AW.ev1i (Mc := mX9_thank) (n := 380) dL_law_377 lk_L_52 k_mX9_thank s_0 rfl rfl (c_X9_thank hn h7 x1 x9 y1 y9) (Nat.le_of_ble_eq_true rfl) (by decide) (by omega) (by omega) rfl ?_
  refine AW.aload_n (n := 381) dL_law_380 rfl rfl ?_
  refine AW.sload_n (n := 382) dL_law_381 rfl rfl ?_
  refine AW.iload_n (n := 383) dL_law_382 rfl rfl ?_
  refine AW.iconst (n := 384) (v := 1) dL_law_383 rfl rfl ?_
  refine AW.iadd (n := 385) dL_law_384 rfl ?_
  refine AW.sald (n := 386) dL_law_385 rfl v1 rfl ?_
  refine AW.ev1i (Mc := mX10_thank) (n := 389) dL_law_386 lk_L_55 k_mX10_thank s_136 rfl rfl (c_X10_thank h1.1.1 (by rw [f 136 (by omega)]; exact y2) y9) (Nat.le_of_ble_eq_true rfl) (by decide) (by omega) (by omega) rfl ?_
  refine AW.icmp_eq (n := 392) (t := 987) dL_law_389 rfl rfl (fun _ => K _ _ _ _ (by omega) (by omega) ⟨n', d', h2⟩) (fun h => absurd ee h)
set_option maxHeartbeats 4000000 in
set_option maxRecDepth 100000 in
theorem law_drift {q : Nat × (Nat → Int32)} {mc ms c0 s0 i n d : Nat} {μ : Me} {e : Nat × (Nat → aC)} (hR : Rel μ μ n d) (hc : c0 + 1 ≤ mc) (hs : s0 + 8 ≤ ms) (hq : q.1 ≤ 320) (hi : i + 5 ≤ q.1) (K : lK q mc ms c0 s0 i) : AW (some q) 20 mc ms mL_law c0 s0 394 (lL i) [] (wS μ e) lP := by
  obtain ⟨ho, hn, h7, e8⟩ := hR.ok
  have v1 : vp_in (nI i + 1) q.1 := v_k 1 hq (by omega)
  obtain ⟨x, y, x9, y9, x1, y1, y2, -⟩ := hR.2.2.2.2.1
  obtain ⟨-, -, ⟨dz, dz9, -, dz2⟩, -⟩ := hR.2.2.2.1
  obtain ⟨h1, f, ee, n', d', h2⟩ := Pr.two (o := oDrift μ n (q.2 (nI i + 1).toNatClampNeg)) (q := fun ν => qDrift ν n (q.2 (nI i + 1).toNatClampNeg)) hR (fun ν h => p_drift h)
  refine AW.aload_n (n := 395) dL_law_394 rfl rfl ?_
  refine AW.sload_n (n := 396) dL_law_395 rfl rfl ?_
  refine AW.iload_n (n := 397) dL_law_396 rfl rfl ?_
  refine AW.iconst (n := 398) (v := 1) dL_law_397 rfl rfl ?_
  refine AW.iadd (n := 399) dL_law_398 rfl ?_
  refine AW.sald (n := 400) dL_law_399 rfl v1 rfl ?_
  refine AW.ev1i (Mc := mX9_drift) (n := 403) dL_law_400 lk_L_56 k_mX9_drift s_0 rfl rfl (c_X9_drift ho ⟨x, y, x1, x9, y1, y9⟩) (Nat.le_of_ble_eq_true rfl) (by decide) (by omega) (by omega) rfl ?_
  refine AW.aload_n (n := 404) dL_law_403 rfl rfl ?_
  refine AW.sload_n (n := 405) dL_law_404 rfl rfl ?_
  refine AW.iload_n (n := 406) dL_law_405 rfl rfl ?_
  refine AW.iconst (n := 407) (v := 1) dL_law_406 rfl rfl ?_
  refine AW.iadd (n := 408) dL_law_407 rfl ?_
  refine AW.sald (n := 409) dL_law_408 rfl v1 rfl ?_
  refine AW.ev1i (Mc := mX10_drift) (n := 412) dL_law_409 lk_L_59 k_mX10_drift s_136 rfl rfl (c_X10_drift ⟨h1.1.1, ⟨y, (by rw [f 136 (by omega)]; exact y2), y9⟩, ⟨dz, (by rw [f 137 (by omega)]; exact dz2), dz9⟩⟩) (Nat.le_of_ble_eq_true rfl) (by decide) (by omega) (by omega) rfl ?_
  refine AW.icmp_eq (n := 415) (t := 987) dL_law_412 rfl rfl (fun _ => K _ _ _ _ (by omega) (by omega) ⟨n', d', h2⟩) (fun h => absurd ee h)
set_option maxHeartbeats 4000000 in
set_option maxRecDepth 100000 in
theorem law_undo {q : Nat × (Nat → Int32)} {mc ms c0 s0 i n d : Nat} {μ : Me} {e : Nat × (Nat → aC)} (hR : Rel μ μ n d) (hc : c0 + 1 ≤ mc) (hs : s0 + 8 ≤ ms) (hq : q.1 ≤ 320) (hi : i + 5 ≤ q.1) (K : lK q mc ms c0 s0 i) : AW (some q) 20 mc ms mL_law c0 s0 417 (lL i) [] (wS μ e) lP := by
  obtain ⟨ho, hn, h7, e8⟩ := hR.ok
  have v1 : vp_in (nI i + 1) q.1 := v_k 1 hq (by omega)
  obtain ⟨x, y, x9, y9, x1, y1, y2, -⟩ := hR.2.2.2.2.1
  obtain ⟨h1, f, ee, n', d', h2⟩ := Pr.two (o := oUndo μ x y (q.2 (nI i + 1).toNatClampNeg)) (q := fun ν => qUndo ν y (q.2 (nI i + 1).toNatClampNeg)) hR (fun ν h => p_undo h x1 x9 y1 y9)
  refine AW.aload_n (n := 418) dL_law_417 rfl rfl ?_
  refine AW.sload_n (n := 419) dL_law_418 rfl rfl ?_
  refine AW.iload_n (n := 420) dL_law_419 rfl rfl ?_
  refine AW.iconst (n := 421) (v := 1) dL_law_420 rfl rfl ?_
  refine AW.iadd (n := 422) dL_law_421 rfl ?_
  refine AW.sald (n := 423) dL_law_422 rfl v1 rfl ?_
  refine AW.ev1i (Mc := mX9_undo) (n := 426) dL_law_423 lk_L_60 k_mX9_undo s_0 rfl rfl (c_X9_undo x1 x9 y1 y9) (Nat.le_of_ble_eq_true rfl) (by decide) (by omega) (by omega) rfl ?_
  refine AW.aload_n (n := 427) dL_law_426 rfl rfl ?_
  refine AW.sload_n (n := 428) dL_law_427 rfl rfl ?_
  refine AW.iload_n (n := 429) dL_law_428 rfl rfl ?_
  refine AW.iconst (n := 430) (v := 1) dL_law_429 rfl rfl ?_
  refine AW.iadd (n := 431) dL_law_430 rfl ?_
  refine AW.sald (n := 432) dL_law_431 rfl v1 rfl ?_
  refine AW.ev1i (Mc := mX10_undo) (n := 435) dL_law_432 lk_L_63 k_mX10_undo s_136 rfl rfl (c_X10_undo (by rw [f 136 (by omega)]; exact y2) y9) (Nat.le_of_ble_eq_true rfl) (by decide) (by omega) (by omega) rfl ?_
  refine AW.icmp_eq (n := 438) (t := 987) dL_law_435 rfl rfl (fun _ => K _ _ _ _ (by omega) (by omega) ⟨n', d', h2⟩) (fun h => absurd ee h)
set_option maxHeartbeats 4000000 in
set_option maxRecDepth 100000 in
theorem law_comes {q : Nat × (Nat → Int32)} {mc ms c0 s0 i n d : Nat} {μ : Me} {e : Nat × (Nat → aC)} (hR : Rel μ μ n d) (hc : c0 + 1 ≤ mc) (hs : s0 + 8 ≤ ms) (hq : q.1 ≤ 320) (hi : i + 5 ≤ q.1) (K : lK q mc ms c0 s0 i) : AW (some q) 20 mc ms mL_law c0 s0 440 (lL i) [] (wS μ e) lP := by
  obtain ⟨ho, hn, h7, e8⟩ := hR.ok
  have v1 : vp_in (nI i + 1) q.1 := v_k 1 hq (by omega)
  have v2 : vp_in (nI i + 2) q.1 := v_k 2 hq (by omega)
  have v3 : vp_in (nI i + 3) q.1 := v_k 3 hq (by omega)
  obtain ⟨h1, f, ee, n', d', h2⟩ := Pr.two (o := oComes μ (q.2 (nI i + 1).toNatClampNeg) (q.2 (nI i + 2).toNatClampNeg) (q.2 (nI i + 3).toNatClampNeg)) (q := fun ν => qComes ν (q.2 (nI i + 1).toNatClampNeg) (q.2 (nI i + 2).toNatClampNeg) (q.2 (nI i + 3).toNatClampNeg)) hR (fun ν h => p_comes h)
  refine AW.aload_n (n := 441) dL_law_440 rfl rfl ?_
  refine AW.sload_n (n := 442) dL_law_441 rfl rfl ?_
  refine AW.iload_n (n := 443) dL_law_442 rfl rfl ?_
  refine AW.iconst (n := 444) (v := 1) dL_law_443 rfl rfl ?_
  refine AW.iadd (n := 445) dL_law_444 rfl ?_
  refine AW.sald (n := 446) dL_law_445 rfl v1 rfl ?_
  refine AW.sload_n (n := 447) dL_law_446 rfl rfl ?_
  refine AW.iload_n (n := 448) dL_law_447 rfl rfl ?_
  refine AW.iconst (n := 449) (v := 2) dL_law_448 rfl rfl ?_
  refine AW.iadd (n := 450) dL_law_449 rfl ?_
  refine AW.sald (n := 451) dL_law_450 rfl v2 rfl ?_
  refine AW.sload_n (n := 452) dL_law_451 rfl rfl ?_
  refine AW.iload_n (n := 453) dL_law_452 rfl rfl ?_
  refine AW.iconst (n := 454) (v := 3) dL_law_453 rfl rfl ?_
  refine AW.iadd (n := 455) dL_law_454 rfl ?_
  refine AW.sald (n := 456) dL_law_455 rfl v3 rfl ?_
  refine AW.ev3i (Mc := mX9_comes) (n := 459) dL_law_456 lk_L_64 k_mX9_comes s_0 rfl rfl (c_X9_comes ho) (Nat.le_of_ble_eq_true rfl) (by decide) (by omega) (by omega) rfl ?_
  refine AW.aload_n (n := 460) dL_law_459 rfl rfl ?_
  refine AW.sload_n (n := 461) dL_law_460 rfl rfl ?_
  refine AW.iload_n (n := 462) dL_law_461 rfl rfl ?_
  refine AW.iconst (n := 463) (v := 1) dL_law_462 rfl rfl ?_
  refine AW.iadd (n := 464) dL_law_463 rfl ?_
  refine AW.sald (n := 465) dL_law_464 rfl v1 rfl ?_
  refine AW.sload_n (n := 466) dL_law_465 rfl rfl ?_
  refine AW.iload_n (n := 467) dL_law_466 rfl rfl ?_
  refine AW.iconst (n := 468) (v := 2) dL_law_467 rfl rfl ?_
  refine AW.iadd (n := 469) dL_law_468 rfl ?_
  refine AW.sald (n := 470) dL_law_469 rfl v2 rfl ?_
  refine AW.sload_n (n := 471) dL_law_470 rfl rfl ?_
  refine AW.iload_n (n := 472) dL_law_471 rfl rfl ?_
  refine AW.iconst (n := 473) (v := 3) dL_law_472 rfl rfl ?_
  refine AW.iadd (n := 474) dL_law_473 rfl ?_
  refine AW.sald (n := 475) dL_law_474 rfl v3 rfl ?_
  refine AW.ev3i (Mc := mX10_comes) (n := 478) dL_law_475 lk_L_68 k_mX10_comes s_136 rfl rfl (c_X10_comes h1.1.1) (Nat.le_of_ble_eq_true rfl) (by decide) (by omega) (by omega) rfl ?_
  refine AW.icmp_eq (n := 481) (t := 987) dL_law_478 rfl rfl (fun _ => K _ _ _ _ (by omega) (by omega) ⟨n', d', h2⟩) (fun h => absurd ee h)
set_option maxHeartbeats 4000000 in
set_option maxRecDepth 100000 in
theorem law_home {q : Nat × (Nat → Int32)} {mc ms c0 s0 i n d : Nat} {μ : Me} {e : Nat × (Nat → aC)} (hR : Rel μ μ n d) (hc : c0 + 1 ≤ mc) (hs : s0 + 8 ≤ ms) (hq : q.1 ≤ 320) (hi : i + 5 ≤ q.1) (K : lK q mc ms c0 s0 i) : AW (some q) 20 mc ms mL_law c0 s0 483 (lL i) [] (wS μ e) lP := by
  obtain ⟨ho, hn, h7, e8⟩ := hR.ok
  have v1 : vp_in (nI i + 1) q.1 := v_k 1 hq (by omega)
  have v2 : vp_in (nI i + 2) q.1 := v_k 2 hq (by omega)
  obtain ⟨h1, f, ee, n', d', h2⟩ := Pr.two (o := oHome μ (q.2 (nI i + 1).toNatClampNeg) (q.2 (nI i + 2).toNatClampNeg)) (q := fun ν => qHome ν (q.2 (nI i + 1).toNatClampNeg) (q.2 (nI i + 2).toNatClampNeg)) hR (fun ν h => p_home h)
  refine AW.aload_n (n := 484) dL_law_483 rfl rfl ?_
  refine AW.sload_n (n := 485) dL_law_484 rfl rfl ?_
  refine AW.iload_n (n := 486) dL_law_485 rfl rfl ?_
  refine AW.iconst (n := 487) (v := 1) dL_law_486 rfl rfl ?_
  refine AW.iadd (n := 488) dL_law_487 rfl ?_
  refine AW.sald (n := 489) dL_law_488 rfl v1 rfl ?_
  refine AW.sload_n (n := 490) dL_law_489 rfl rfl ?_
  refine AW.iload_n (n := 491) dL_law_490 rfl rfl ?_
  refine AW.iconst (n := 492) (v := 2) dL_law_491 rfl rfl ?_
  refine AW.iadd (n := 493) dL_law_492 rfl ?_
  refine AW.sald (n := 494) dL_law_493 rfl v2 rfl ?_
  refine AW.ev2i (Mc := mX9_home) (n := 497) dL_law_494 lk_L_69 k_mX9_home s_0 rfl rfl (c_X9_home ho) (Nat.le_of_ble_eq_true rfl) (by decide) (by omega) (by omega) rfl ?_
  refine AW.aload_n (n := 498) dL_law_497 rfl rfl ?_
  refine AW.sload_n (n := 499) dL_law_498 rfl rfl ?_
  refine AW.iload_n (n := 500) dL_law_499 rfl rfl ?_
  refine AW.iconst (n := 501) (v := 1) dL_law_500 rfl rfl ?_
  refine AW.iadd (n := 502) dL_law_501 rfl ?_
  refine AW.sald (n := 503) dL_law_502 rfl v1 rfl ?_
  refine AW.sload_n (n := 504) dL_law_503 rfl rfl ?_
  refine AW.iload_n (n := 505) dL_law_504 rfl rfl ?_
  refine AW.iconst (n := 506) (v := 2) dL_law_505 rfl rfl ?_
  refine AW.iadd (n := 507) dL_law_506 rfl ?_
  refine AW.sald (n := 508) dL_law_507 rfl v2 rfl ?_
  refine AW.ev2i (Mc := mX10_home) (n := 511) dL_law_508 lk_L_72 k_mX10_home s_136 rfl rfl (c_X10_home h1.1.1) (Nat.le_of_ble_eq_true rfl) (by decide) (by omega) (by omega) rfl ?_
  refine AW.icmp_eq (n := 514) (t := 987) dL_law_511 rfl rfl (fun _ => K _ _ _ _ (by omega) (by omega) ⟨n', d', h2⟩) (fun h => absurd ee h)
set_option maxHeartbeats 4000000 in
set_option maxRecDepth 100000 in
theorem law_outcome {q : Nat × (Nat → Int32)} {mc ms c0 s0 i n d : Nat} {μ : Me} {e : Nat × (Nat → aC)} (hR : Rel μ μ n d) (hc : c0 + 1 ≤ mc) (hs : s0 + 8 ≤ ms) (hq : q.1 ≤ 320) (hi : i + 5 ≤ q.1) (K : lK q mc ms c0 s0 i) : AW (some q) 20 mc ms mL_law c0 s0 516 (lL i) [] (wS μ e) lP := by
  obtain ⟨ho, hn, h7, e8⟩ := hR.ok
  have v1 : vp_in (nI i + 1) q.1 := v_k 1 hq (by omega)
  have v2 : vp_in (nI i + 2) q.1 := v_k 2 hq (by omega)
  obtain ⟨h1, f, ee, n', d', h2⟩ := Pr.two (o := oOutcome μ n (q.2 (nI i + 1).toNatClampNeg) (q.2 (nI i + 2).toNatClampNeg)) (q := fun ν => qOutcome ν n (q.2 (nI i + 1).toNatClampNeg) (q.2 (nI i + 2).toNatClampNeg)) hR (fun ν h => p_outcome h)
  refine AW.aload_n (n := 517) dL_law_516 rfl rfl ?_
  refine AW.sload_n (n := 518) dL_law_517 rfl rfl ?_
  refine AW.iload_n (n := 519) dL_law_518 rfl rfl ?_
  refine AW.iconst (n := 520) (v := 1) dL_law_519 rfl rfl ?_
  refine AW.iadd (n := 521) dL_law_520 rfl ?_
  refine AW.sald (n := 522) dL_law_521 rfl v1 rfl ?_
  refine AW.sload_n (n := 523) dL_law_522 rfl rfl ?_
  refine AW.iload_n (n := 524) dL_law_523 rfl rfl ?_
  refine AW.iconst (n := 525) (v := 2) dL_law_524 rfl rfl ?_
  refine AW.iadd (n := 526) dL_law_525 rfl ?_
  refine AW.sald (n := 527) dL_law_526 rfl v2 rfl ?_
  refine AW.ev2i (Mc := mX9_outcome) (n := 530) dL_law_527 lk_L_73 k_mX9_outcome s_0 rfl rfl (c_X9_outcome ho) (Nat.le_of_ble_eq_true rfl) (by decide) (by omega) (by omega) rfl ?_
  refine AW.aload_n (n := 531) dL_law_530 rfl rfl ?_
  refine AW.sload_n (n := 532) dL_law_531 rfl rfl ?_
  refine AW.iload_n (n := 533) dL_law_532 rfl rfl ?_
  refine AW.iconst (n := 534) (v := 1) dL_law_533 rfl rfl ?_
  refine AW.iadd (n := 535) dL_law_534 rfl ?_
  refine AW.sald (n := 536) dL_law_535 rfl v1 rfl ?_
  refine AW.sload_n (n := 537) dL_law_536 rfl rfl ?_
  refine AW.iload_n (n := 538) dL_law_537 rfl rfl ?_
  refine AW.iconst (n := 539) (v := 2) dL_law_538 rfl rfl ?_
  refine AW.iadd (n := 540) dL_law_539 rfl ?_
  refine AW.sald (n := 541) dL_law_540 rfl v2 rfl ?_
  refine AW.ev2i (Mc := mX10_outcome) (n := 544) dL_law_541 lk_L_76 k_mX10_outcome s_136 rfl rfl (c_X10_outcome h1.1.1) (Nat.le_of_ble_eq_true rfl) (by decide) (by omega) (by omega) rfl ?_
  refine AW.icmp_eq (n := 547) (t := 987) dL_law_544 rfl rfl (fun _ => K _ _ _ _ (by omega) (by omega) ⟨n', d', h2⟩) (fun h => absurd ee h)
set_option maxHeartbeats 4000000 in
set_option maxRecDepth 100000 in
theorem law_bath {q : Nat × (Nat → Int32)} {mc ms c0 s0 i n d : Nat} {μ : Me} {e : Nat × (Nat → aC)} (hR : Rel μ μ n d) (hc : c0 + 1 ≤ mc) (hs : s0 + 8 ≤ ms) (hq : q.1 ≤ 320) (hi : i + 5 ≤ q.1) (K : lK q mc ms c0 s0 i) : AW (some q) 20 mc ms mL_law c0 s0 549 (lL i) [] (wS μ e) lP := by
  obtain ⟨ho, hn, h7, e8⟩ := hR.ok
  have v1 : vp_in (nI i + 1) q.1 := v_k 1 hq (by omega)
  have v2 : vp_in (nI i + 2) q.1 := v_k 2 hq (by omega)
  have v3 : vp_in (nI i + 3) q.1 := v_k 3 hq (by omega)
  have v4 : vp_in (nI i + 4) q.1 := v_k 4 hq (by omega)
  obtain ⟨h1, f, ee, n', d', h2⟩ := Pr.two (o := oBath μ (q.2 (nI i + 1).toNatClampNeg) (q.2 (nI i + 2).toNatClampNeg) (q.2 (nI i + 3).toNatClampNeg) (q.2 (nI i + 4).toNatClampNeg)) (q := fun ν => qBath ν (q.2 (nI i + 1).toNatClampNeg) (q.2 (nI i + 2).toNatClampNeg) (q.2 (nI i + 3).toNatClampNeg) (q.2 (nI i + 4).toNatClampNeg)) hR (fun ν h => p_bath h)
  refine AW.aload_n (n := 550) dL_law_549 rfl rfl ?_
  refine AW.sload_n (n := 551) dL_law_550 rfl rfl ?_
  refine AW.iload_n (n := 552) dL_law_551 rfl rfl ?_
  refine AW.iconst (n := 553) (v := 1) dL_law_552 rfl rfl ?_
  refine AW.iadd (n := 554) dL_law_553 rfl ?_
  refine AW.sald (n := 555) dL_law_554 rfl v1 rfl ?_
  refine AW.sload_n (n := 556) dL_law_555 rfl rfl ?_
  refine AW.iload_n (n := 557) dL_law_556 rfl rfl ?_
  refine AW.iconst (n := 558) (v := 2) dL_law_557 rfl rfl ?_
  refine AW.iadd (n := 559) dL_law_558 rfl ?_
  refine AW.sald (n := 560) dL_law_559 rfl v2 rfl ?_
  refine AW.sload_n (n := 561) dL_law_560 rfl rfl ?_
  refine AW.iload_n (n := 562) dL_law_561 rfl rfl ?_
  refine AW.iconst (n := 563) (v := 3) dL_law_562 rfl rfl ?_
  refine AW.iadd (n := 564) dL_law_563 rfl ?_
  refine AW.sald (n := 565) dL_law_564 rfl v3 rfl ?_
  refine AW.sload_n (n := 566) dL_law_565 rfl rfl ?_
  refine AW.iload_n (n := 567) dL_law_566 rfl rfl ?_
  refine AW.iconst (n := 568) (v := 4) dL_law_567 rfl rfl ?_
  refine AW.iadd (n := 569) dL_law_568 rfl ?_
  refine AW.sald (n := 570) dL_law_569 rfl v4 rfl ?_
  refine AW.ev4i (Mc := mX9_bath) (n := 573) dL_law_570 lk_L_77 k_mX9_bath s_0 rfl rfl (c_X9_bath ho) (Nat.le_of_ble_eq_true rfl) (by decide) (by omega) (by omega) rfl ?_
  refine AW.aload_n (n := 574) dL_law_573 rfl rfl ?_
  refine AW.sload_n (n := 575) dL_law_574 rfl rfl ?_
  refine AW.iload_n (n := 576) dL_law_575 rfl rfl ?_
  refine AW.iconst (n := 577) (v := 1) dL_law_576 rfl rfl ?_
  refine AW.iadd (n := 578) dL_law_577 rfl ?_
  refine AW.sald (n := 579) dL_law_578 rfl v1 rfl ?_
  refine AW.sload_n (n := 580) dL_law_579 rfl rfl ?_
  refine AW.iload_n (n := 581) dL_law_580 rfl rfl ?_
  refine AW.iconst (n := 582) (v := 2) dL_law_581 rfl rfl ?_
  refine AW.iadd (n := 583) dL_law_582 rfl ?_
  refine AW.sald (n := 584) dL_law_583 rfl v2 rfl ?_
  refine AW.sload_n (n := 585) dL_law_584 rfl rfl ?_
  refine AW.iload_n (n := 586) dL_law_585 rfl rfl ?_
  refine AW.iconst (n := 587) (v := 3) dL_law_586 rfl rfl ?_
  refine AW.iadd (n := 588) dL_law_587 rfl ?_
  refine AW.sald (n := 589) dL_law_588 rfl v3 rfl ?_
  refine AW.sload_n (n := 590) dL_law_589 rfl rfl ?_
  refine AW.iload_n (n := 591) dL_law_590 rfl rfl ?_
  refine AW.iconst (n := 592) (v := 4) dL_law_591 rfl rfl ?_
  refine AW.iadd (n := 593) dL_law_592 rfl ?_
  refine AW.sald (n := 594) dL_law_593 rfl v4 rfl ?_
  refine AW.ev4i (Mc := mX10_bath) (n := 597) dL_law_594 lk_L_81 k_mX10_bath s_136 rfl rfl (c_X10_bath h1.1.1) (Nat.le_of_ble_eq_true rfl) (by decide) (by omega) (by omega) rfl ?_
  refine AW.icmp_eq (n := 600) (t := 987) dL_law_597 rfl rfl (fun _ => K _ _ _ _ (by omega) (by omega) ⟨n', d', h2⟩) (fun h => absurd ee h)
set_option maxHeartbeats 4000000 in
set_option maxRecDepth 100000 in
theorem law_pretends {q : Nat × (Nat → Int32)} {mc ms c0 s0 i n d : Nat} {μ : Me} {e : Nat × (Nat → aC)} (hR : Rel μ μ n d) (hc : c0 + 1 ≤ mc) (hs : s0 + 8 ≤ ms) (hq : q.1 ≤ 320) (hi : i + 5 ≤ q.1) (K : lK q mc ms c0 s0 i) : AW (some q) 20 mc ms mL_law c0 s0 635 (lL i) [] (wS μ e) lP := by
  obtain ⟨ho, hn, h7, e8⟩ := hR.ok
  have v1 : vp_in (nI i + 1) q.1 := v_k 1 hq (by omega)
  have v2 : vp_in (nI i + 2) q.1 := v_k 2 hq (by omega)
  have v3 : vp_in (nI i + 3) q.1 := v_k 3 hq (by omega)
  obtain ⟨h1, f, ee, n', d', h2⟩ := Pr.two (o := oPretends μ (q.2 (nI i + 1).toNatClampNeg) (q.2 (nI i + 2).toNatClampNeg) (q.2 (nI i + 3).toNatClampNeg)) (q := fun ν => qPretends ν (q.2 (nI i + 1).toNatClampNeg) (q.2 (nI i + 2).toNatClampNeg) (q.2 (nI i + 3).toNatClampNeg)) hR (fun ν h => p_pretends h)
  refine AW.aload_n (n := 636) dL_law_635 rfl rfl ?_
  refine AW.sload_n (n := 637) dL_law_636 rfl rfl ?_
  refine AW.iload_n (n := 638) dL_law_637 rfl rfl ?_
  refine AW.iconst (n := 639) (v := 1) dL_law_638 rfl rfl ?_
  refine AW.iadd (n := 640) dL_law_639 rfl ?_
  refine AW.sald (n := 641) dL_law_640 rfl v1 rfl ?_
  refine AW.sload_n (n := 642) dL_law_641 rfl rfl ?_
  refine AW.iload_n (n := 643) dL_law_642 rfl rfl ?_
  refine AW.iconst (n := 644) (v := 2) dL_law_643 rfl rfl ?_
  refine AW.iadd (n := 645) dL_law_644 rfl ?_
  refine AW.sald (n := 646) dL_law_645 rfl v2 rfl ?_
  refine AW.sload_n (n := 647) dL_law_646 rfl rfl ?_
  refine AW.iload_n (n := 648) dL_law_647 rfl rfl ?_
  refine AW.iconst (n := 649) (v := 3) dL_law_648 rfl rfl ?_
  refine AW.iadd (n := 650) dL_law_649 rfl ?_
  refine AW.sald (n := 651) dL_law_650 rfl v3 rfl ?_
  refine AW.ev3i (Mc := mX9_pretends) (n := 654) dL_law_651 lk_L_86 k_mX9_pretends s_0 rfl rfl (c_X9_pretends ho) (Nat.le_of_ble_eq_true rfl) (by decide) (by omega) (by omega) rfl ?_
  refine AW.aload_n (n := 655) dL_law_654 rfl rfl ?_
  refine AW.sload_n (n := 656) dL_law_655 rfl rfl ?_
  refine AW.iload_n (n := 657) dL_law_656 rfl rfl ?_
  refine AW.iconst (n := 658) (v := 1) dL_law_657 rfl rfl ?_
  refine AW.iadd (n := 659) dL_law_658 rfl ?_
  refine AW.sald (n := 660) dL_law_659 rfl v1 rfl ?_
  refine AW.sload_n (n := 661) dL_law_660 rfl rfl ?_
  refine AW.iload_n (n := 662) dL_law_661 rfl rfl ?_
  refine AW.iconst (n := 663) (v := 2) dL_law_662 rfl rfl ?_
  refine AW.iadd (n := 664) dL_law_663 rfl ?_
  refine AW.sald (n := 665) dL_law_664 rfl v2 rfl ?_
  refine AW.sload_n (n := 666) dL_law_665 rfl rfl ?_
  refine AW.iload_n (n := 667) dL_law_666 rfl rfl ?_
  refine AW.iconst (n := 668) (v := 3) dL_law_667 rfl rfl ?_
  refine AW.iadd (n := 669) dL_law_668 rfl ?_
  refine AW.sald (n := 670) dL_law_669 rfl v3 rfl ?_
  refine AW.ev3i (Mc := mX10_pretends) (n := 673) dL_law_670 lk_L_89 k_mX10_pretends s_136 rfl rfl (c_X10_pretends h1.1.1) (Nat.le_of_ble_eq_true rfl) (by decide) (by omega) (by omega) rfl ?_
  refine AW.icmp_eq (n := 676) (t := 987) dL_law_673 rfl rfl (fun _ => K _ _ _ _ (by omega) (by omega) ⟨n', d', h2⟩) (fun h => absurd ee h)
set_option maxHeartbeats 4000000 in
set_option maxRecDepth 100000 in
theorem law_locker {q : Nat × (Nat → Int32)} {mc ms c0 s0 i n d : Nat} {μ : Me} {e : Nat × (Nat → aC)} (hR : Rel μ μ n d) (hc : c0 + 1 ≤ mc) (hs : s0 + 8 ≤ ms) (hq : q.1 ≤ 320) (hi : i + 5 ≤ q.1) (K : lK q mc ms c0 s0 i) : AW (some q) 20 mc ms mL_law c0 s0 678 (lL i) [] (wS μ e) lP := by
  obtain ⟨ho, hn, h7, e8⟩ := hR.ok
  have v1 : vp_in (nI i + 1) q.1 := v_k 1 hq (by omega)
  have v2 : vp_in (nI i + 2) q.1 := v_k 2 hq (by omega)
  have v3 : vp_in (nI i + 3) q.1 := v_k 3 hq (by omega)
  obtain ⟨h1, f, ee, n', d', h2⟩ := Pr.two (o := oLocker μ n (q.2 (nI i + 1).toNatClampNeg) (q.2 (nI i + 2).toNatClampNeg) (q.2 (nI i + 3).toNatClampNeg)) (q := fun ν => qLocker ν n (q.2 (nI i + 1).toNatClampNeg) (q.2 (nI i + 2).toNatClampNeg) (q.2 (nI i + 3).toNatClampNeg)) hR (fun ν h => p_locker h)
  refine AW.aload_n (n := 679) dL_law_678 rfl rfl ?_
  refine AW.sload_n (n := 680) dL_law_679 rfl rfl ?_
  refine AW.iload_n (n := 681) dL_law_680 rfl rfl ?_
  refine AW.iconst (n := 682) (v := 1) dL_law_681 rfl rfl ?_
  refine AW.iadd (n := 683) dL_law_682 rfl ?_
  refine AW.sald (n := 684) dL_law_683 rfl v1 rfl ?_
  refine AW.sload_n (n := 685) dL_law_684 rfl rfl ?_
  refine AW.iload_n (n := 686) dL_law_685 rfl rfl ?_
  refine AW.iconst (n := 687) (v := 2) dL_law_686 rfl rfl ?_
  refine AW.iadd (n := 688) dL_law_687 rfl ?_
  refine AW.sald (n := 689) dL_law_688 rfl v2 rfl ?_
  refine AW.sload_n (n := 690) dL_law_689 rfl rfl ?_
  refine AW.iload_n (n := 691) dL_law_690 rfl rfl ?_
  refine AW.iconst (n := 692) (v := 3) dL_law_691 rfl rfl ?_
  refine AW.iadd (n := 693) dL_law_692 rfl ?_
  refine AW.sald (n := 694) dL_law_693 rfl v3 rfl ?_
  refine AW.ev3i (Mc := mX9_locker) (n := 697) dL_law_694 lk_L_90 k_mX9_locker s_0 rfl rfl (c_X9_locker ho) (Nat.le_of_ble_eq_true rfl) (by decide) (by omega) (by omega) rfl ?_
  refine AW.aload_n (n := 698) dL_law_697 rfl rfl ?_
  refine AW.sload_n (n := 699) dL_law_698 rfl rfl ?_
  refine AW.iload_n (n := 700) dL_law_699 rfl rfl ?_
  refine AW.iconst (n := 701) (v := 1) dL_law_700 rfl rfl ?_
  refine AW.iadd (n := 702) dL_law_701 rfl ?_
  refine AW.sald (n := 703) dL_law_702 rfl v1 rfl ?_
  refine AW.sload_n (n := 704) dL_law_703 rfl rfl ?_
  refine AW.iload_n (n := 705) dL_law_704 rfl rfl ?_
  refine AW.iconst (n := 706) (v := 2) dL_law_705 rfl rfl ?_
  refine AW.iadd (n := 707) dL_law_706 rfl ?_
  refine AW.sald (n := 708) dL_law_707 rfl v2 rfl ?_
  refine AW.sload_n (n := 709) dL_law_708 rfl rfl ?_
  refine AW.iload_n (n := 710) dL_law_709 rfl rfl ?_
  refine AW.iconst (n := 711) (v := 3) dL_law_710 rfl rfl ?_
  refine AW.iadd (n := 712) dL_law_711 rfl ?_
  refine AW.sald (n := 713) dL_law_712 rfl v3 rfl ?_
  refine AW.ev3i (Mc := mX10_locker) (n := 716) dL_law_713 lk_L_93 k_mX10_locker s_136 rfl rfl (c_X10_locker h1.1.1) (Nat.le_of_ble_eq_true rfl) (by decide) (by omega) (by omega) rfl ?_
  refine AW.icmp_eq (n := 719) (t := 987) dL_law_716 rfl rfl (fun _ => K _ _ _ _ (by omega) (by omega) ⟨n', d', h2⟩) (fun h => absurd ee h)
set_option maxHeartbeats 4000000 in
set_option maxRecDepth 100000 in
theorem law_bears {q : Nat × (Nat → Int32)} {mc ms c0 s0 i n d : Nat} {μ : Me} {e : Nat × (Nat → aC)} (hR : Rel μ μ n d) (hc : c0 + 1 ≤ mc) (hs : s0 + 8 ≤ ms) (hq : q.1 ≤ 320) (hi : i + 5 ≤ q.1) (K : lK q mc ms c0 s0 i) : AW (some q) 20 mc ms mL_law c0 s0 721 (lL i) [] (wS μ e) lP := by
  obtain ⟨ho, hn, h7, e8⟩ := hR.ok
  have v1 : vp_in (nI i + 1) q.1 := v_k 1 hq (by omega)
  refine AW.aload_n (n := 722) dL_law_721 rfl rfl ?_
  refine AW.sload_n (n := 723) dL_law_722 rfl rfl ?_
  refine AW.iload_n (n := 724) dL_law_723 rfl rfl ?_
  refine AW.iconst (n := 725) (v := 1) dL_law_724 rfl rfl ?_
  refine AW.iadd (n := 726) dL_law_725 rfl ?_
  refine AW.sald (n := 727) dL_law_726 rfl v1 rfl ?_
  refine AW.ev1i (Mc := mX9_bears) (n := 730) dL_law_727 lk_L_94 k_mX9_bears s_0 rfl rfl (c_X9_bears hn h7) (Nat.le_of_ble_eq_true rfl) (by decide) (by omega) (by omega) rfl ?_
  refine AW.aload_n (n := 731) dL_law_730 rfl rfl ?_
  refine AW.sload_n (n := 732) dL_law_731 rfl rfl ?_
  refine AW.iload_n (n := 733) dL_law_732 rfl rfl ?_
  refine AW.iconst (n := 734) (v := 1) dL_law_733 rfl rfl ?_
  refine AW.iadd (n := 735) dL_law_734 rfl ?_
  refine AW.sald (n := 736) dL_law_735 rfl v1 rfl ?_
  refine AW.ev1i (Mc := mX10_bears) (n := 739) dL_law_736 lk_L_97 k_mX10_bears s_136 rfl rfl (c_X10_bears hR.1.1) (Nat.le_of_ble_eq_true rfl) (by decide) (by omega) (by omega) rfl ?_
  refine AW.icmp_eq (n := 742) (t := 987) dL_law_739 rfl rfl (fun _ => K _ _ _ _ (by omega) (by omega) ⟨n, d, hR⟩) (fun h => absurd (p_bears hR) h)
set_option maxHeartbeats 4000000 in
set_option maxRecDepth 100000 in
theorem law_heard {q : Nat × (Nat → Int32)} {mc ms c0 s0 i n d : Nat} {μ : Me} {e : Nat × (Nat → aC)} (hR : Rel μ μ n d) (hc : c0 + 1 ≤ mc) (hs : s0 + 8 ≤ ms) (hq : q.1 ≤ 320) (hi : i + 5 ≤ q.1) (K : lK q mc ms c0 s0 i) : AW (some q) 20 mc ms mL_law c0 s0 744 (lL i) [] (wS μ e) lP := by
  obtain ⟨ho, hn, h7, e8⟩ := hR.ok
  have v1 : vp_in (nI i + 1) q.1 := v_k 1 hq (by omega)
  have v2 : vp_in (nI i + 2) q.1 := v_k 2 hq (by omega)
  refine AW.aload_n (n := 745) dL_law_744 rfl rfl ?_
  refine AW.sload_n (n := 746) dL_law_745 rfl rfl ?_
  refine AW.iload_n (n := 747) dL_law_746 rfl rfl ?_
  refine AW.iconst (n := 748) (v := 1) dL_law_747 rfl rfl ?_
  refine AW.iadd (n := 749) dL_law_748 rfl ?_
  refine AW.sald (n := 750) dL_law_749 rfl v1 rfl ?_
  refine AW.sload_n (n := 751) dL_law_750 rfl rfl ?_
  refine AW.iload_n (n := 752) dL_law_751 rfl rfl ?_
  refine AW.iconst (n := 753) (v := 2) dL_law_752 rfl rfl ?_
  refine AW.iadd (n := 754) dL_law_753 rfl ?_
  refine AW.sald (n := 755) dL_law_754 rfl v2 rfl ?_
  refine AW.ev2i (Mc := mX9_heard) (n := 758) dL_law_755 lk_L_98 k_mX9_heard s_0 rfl rfl (c_X9_heard) (Nat.le_of_ble_eq_true rfl) (by decide) (by omega) (by omega) rfl ?_
  refine AW.aload_n (n := 759) dL_law_758 rfl rfl ?_
  refine AW.sload_n (n := 760) dL_law_759 rfl rfl ?_
  refine AW.iload_n (n := 761) dL_law_760 rfl rfl ?_
  refine AW.iconst (n := 762) (v := 1) dL_law_761 rfl rfl ?_
  refine AW.iadd (n := 763) dL_law_762 rfl ?_
  refine AW.sald (n := 764) dL_law_763 rfl v1 rfl ?_
  refine AW.sload_n (n := 765) dL_law_764 rfl rfl ?_
  refine AW.iload_n (n := 766) dL_law_765 rfl rfl ?_
  refine AW.iconst (n := 767) (v := 2) dL_law_766 rfl rfl ?_
  refine AW.iadd (n := 768) dL_law_767 rfl ?_
  refine AW.sald (n := 769) dL_law_768 rfl v2 rfl ?_
  refine AW.ev2i (Mc := mX10_heard) (n := 772) dL_law_769 lk_L_101 k_mX10_heard s_136 rfl rfl (c_X10_heard) (Nat.le_of_ble_eq_true rfl) (by decide) (by omega) (by omega) rfl ?_
  refine AW.icmp_eq (n := 775) (t := 987) dL_law_772 rfl rfl (fun _ => K _ _ _ _ (by omega) (by omega) ⟨n, d, hR⟩) (fun h => absurd (rfl) h)
set_option maxHeartbeats 4000000 in
set_option maxRecDepth 100000 in
theorem law_rang {q : Nat × (Nat → Int32)} {mc ms c0 s0 i n d : Nat} {μ : Me} {e : Nat × (Nat → aC)} (hR : Rel μ μ n d) (hc : c0 + 1 ≤ mc) (hs : s0 + 8 ≤ ms) (hq : q.1 ≤ 320) (hi : i + 5 ≤ q.1) (K : lK q mc ms c0 s0 i) : AW (some q) 20 mc ms mL_law c0 s0 826 (lL i) [] (wS μ e) lP := by
  obtain ⟨ho, hn, h7, e8⟩ := hR.ok
  have v1 : vp_in (nI i + 1) q.1 := v_k 1 hq (by omega)
  have v2 : vp_in (nI i + 2) q.1 := v_k 2 hq (by omega)
  obtain ⟨z, z9, z1, z2, -⟩ := hR.2.2.2.2.2.2.1
  obtain ⟨h1, f, ee, n', d', h2⟩ := Pr.two (o := oRang μ n z (q.2 (nI i + 1).toNatClampNeg) (q.2 (nI i + 2).toNatClampNeg)) (q := fun ν => qRang ν n z (q.2 (nI i + 1).toNatClampNeg) (q.2 (nI i + 2).toNatClampNeg)) hR (fun ν h => p_rang h z1 z9)
  refine AW.aload_n (n := 827) dL_law_826 rfl rfl ?_
  refine AW.sload_n (n := 828) dL_law_827 rfl rfl ?_
  refine AW.iload_n (n := 829) dL_law_828 rfl rfl ?_
  refine AW.iconst (n := 830) (v := 1) dL_law_829 rfl rfl ?_
  refine AW.iadd (n := 831) dL_law_830 rfl ?_
  refine AW.sald (n := 832) dL_law_831 rfl v1 rfl ?_
  refine AW.sload_n (n := 833) dL_law_832 rfl rfl ?_
  refine AW.iload_n (n := 834) dL_law_833 rfl rfl ?_
  refine AW.iconst (n := 835) (v := 2) dL_law_834 rfl rfl ?_
  refine AW.iadd (n := 836) dL_law_835 rfl ?_
  refine AW.sald (n := 837) dL_law_836 rfl v2 rfl ?_
  refine AW.ev2i (Mc := mX9_rang) (n := 840) dL_law_837 lk_L_107 k_mX9_rang s_0 rfl rfl (c_X9_rang ho z1 z9) (Nat.le_of_ble_eq_true rfl) (by decide) (by omega) (by omega) rfl ?_
  refine AW.aload_n (n := 841) dL_law_840 rfl rfl ?_
  refine AW.sload_n (n := 842) dL_law_841 rfl rfl ?_
  refine AW.iload_n (n := 843) dL_law_842 rfl rfl ?_
  refine AW.iconst (n := 844) (v := 1) dL_law_843 rfl rfl ?_
  refine AW.iadd (n := 845) dL_law_844 rfl ?_
  refine AW.sald (n := 846) dL_law_845 rfl v1 rfl ?_
  refine AW.sload_n (n := 847) dL_law_846 rfl rfl ?_
  refine AW.iload_n (n := 848) dL_law_847 rfl rfl ?_
  refine AW.iconst (n := 849) (v := 2) dL_law_848 rfl rfl ?_
  refine AW.iadd (n := 850) dL_law_849 rfl ?_
  refine AW.sald (n := 851) dL_law_850 rfl v2 rfl ?_
  refine AW.ev2i (Mc := mX10_rang) (n := 854) dL_law_851 lk_L_110 k_mX10_rang s_136 rfl rfl (c_X10_rang h1.1.1 (by rw [f 136 (by omega)]; exact z2) z9) (Nat.le_of_ble_eq_true rfl) (by decide) (by omega) (by omega) rfl ?_
  refine AW.icmp_eq (n := 857) (t := 987) dL_law_854 rfl rfl (fun _ => K _ _ _ _ (by omega) (by omega) ⟨n', d', h2⟩) (fun h => absurd ee h)
set_option maxHeartbeats 4000000 in
set_option maxRecDepth 100000 in
theorem law_write {q : Nat × (Nat → Int32)} {mc ms c0 s0 i n d : Nat} {μ : Me} {e : Nat × (Nat → aC)} (hR : Rel μ μ n d) (hc : c0 + 1 ≤ mc) (hs : s0 + 8 ≤ ms) (hq : q.1 ≤ 320) (hi : i + 5 ≤ q.1) (K : lK q mc ms c0 s0 i) : AW (some q) 20 mc ms mL_law c0 s0 859 (lL i) [] (wS μ e) lP := by
  obtain ⟨ho, hn, h7, e8⟩ := hR.ok
  have v1 : vp_in (nI i + 1) q.1 := v_k 1 hq (by omega)
  have v2 : vp_in (nI i + 2) q.1 := v_k 2 hq (by omega)
  obtain ⟨z, z9, z1, z2, z3⟩ := hR.2.2.2.2.2.2.2.1
  obtain ⟨h1, f, ee, n', d', h2⟩ := Pr.two (o := oWrite μ z (q.2 (nI i + 1).toNatClampNeg) (q.2 (nI i + 2).toNatClampNeg)) (q := fun ν => qWrite ν z (q.2 (nI i + 1).toNatClampNeg) (q.2 (nI i + 2).toNatClampNeg)) hR (fun ν h => p_write h z1 z9)
  refine AW.aload_n (n := 860) dL_law_859 rfl rfl ?_
  refine AW.sload_n (n := 861) dL_law_860 rfl rfl ?_
  refine AW.iload_n (n := 862) dL_law_861 rfl rfl ?_
  refine AW.iconst (n := 863) (v := 1) dL_law_862 rfl rfl ?_
  refine AW.iadd (n := 864) dL_law_863 rfl ?_
  refine AW.sald (n := 865) dL_law_864 rfl v1 rfl ?_
  refine AW.sload_n (n := 866) dL_law_865 rfl rfl ?_
  refine AW.iload_n (n := 867) dL_law_866 rfl rfl ?_
  refine AW.iconst (n := 868) (v := 2) dL_law_867 rfl rfl ?_
  refine AW.iadd (n := 869) dL_law_868 rfl ?_
  refine AW.sald (n := 870) dL_law_869 rfl v2 rfl ?_
  refine AW.ev2i (Mc := mX9_write) (n := 873) dL_law_870 lk_L_111 k_mX9_write s_0 rfl rfl (c_X9_write z1 z9) (Nat.le_of_ble_eq_true rfl) (by decide) (by omega) (by omega) rfl ?_
  refine AW.aload_n (n := 874) dL_law_873 rfl rfl ?_
  refine AW.sload_n (n := 875) dL_law_874 rfl rfl ?_
  refine AW.iload_n (n := 876) dL_law_875 rfl rfl ?_
  refine AW.iconst (n := 877) (v := 1) dL_law_876 rfl rfl ?_
  refine AW.iadd (n := 878) dL_law_877 rfl ?_
  refine AW.sald (n := 879) dL_law_878 rfl v1 rfl ?_
  refine AW.sload_n (n := 880) dL_law_879 rfl rfl ?_
  refine AW.iload_n (n := 881) dL_law_880 rfl rfl ?_
  refine AW.iconst (n := 882) (v := 2) dL_law_881 rfl rfl ?_
  refine AW.iadd (n := 883) dL_law_882 rfl ?_
  refine AW.sald (n := 884) dL_law_883 rfl v2 rfl ?_
  refine AW.ev2i (Mc := mX10_write) (n := 887) dL_law_884 lk_L_114 k_mX10_write s_136 rfl rfl (c_X10_write h1.1.1 (by rw [f 136 (by omega)]; exact z2) z9) (Nat.le_of_ble_eq_true rfl) (by decide) (by omega) (by omega) rfl ?_
  refine AW.icmp_eq (n := 890) (t := 987) dL_law_887 rfl rfl (fun _ => K _ _ _ _ (by omega) (by omega) ⟨n', d', h2⟩) (fun h => absurd ee h)
set_option maxHeartbeats 4000000 in
set_option maxRecDepth 100000 in
theorem law_judge {q : Nat × (Nat → Int32)} {mc ms c0 s0 i n d : Nat} {μ : Me} {e : Nat × (Nat → aC)} (hR : Rel μ μ n d) (hc : c0 + 1 ≤ mc) (hs : s0 + 8 ≤ ms) (hq : q.1 ≤ 320) (hi : i + 5 ≤ q.1) (K : lK q mc ms c0 s0 i) : AW (some q) 20 mc ms mL_law c0 s0 892 (lL i) [] (wS μ e) lP := by
  obtain ⟨ho, hn, h7, e8⟩ := hR.ok
  obtain ⟨z, z9, z1, z2, z3⟩ := hR.2.2.2.2.2.2.2.1
  refine AW.aload_n (n := 893) dL_law_892 rfl rfl ?_
  refine AW.ev0i (Mc := mX9_judge) (n := 896) dL_law_893 lk_L_115 k_mX9_judge s_0 rfl rfl (c_X9_judge z1 z9 (fun k hk => by obtain ⟨e1, -, j, hj, ej⟩ := z3 k hk; exact ⟨j, by omega, e1.trans ej⟩)) (Nat.le_of_ble_eq_true rfl) (by decide) (by omega) (by omega) rfl ?_
  refine AW.aload_n (n := 897) dL_law_896 rfl rfl ?_
  refine AW.ev0i (Mc := mX10_judge) (n := 900) dL_law_897 lk_L_118 k_mX10_judge s_136 rfl rfl (c_X10_judge z2 z9 (fun k hk => by obtain ⟨-, -, j, hj, ej⟩ := z3 k hk; exact ⟨j, by omega, ej⟩)) (Nat.le_of_ble_eq_true rfl) (by decide) (by omega) (by omega) rfl ?_
  refine AW.icmp_eq (n := 903) (t := 987) dL_law_900 rfl rfl (fun _ => K _ _ _ _ (by omega) (by omega) ⟨n, d, hR⟩) (fun h => absurd (p_judge hR z1 z9) h)
set_option maxHeartbeats 4000000 in
set_option maxRecDepth 100000 in
theorem law_tear {q : Nat × (Nat → Int32)} {mc ms c0 s0 i n d : Nat} {μ : Me} {e : Nat × (Nat → aC)} (hR : Rel μ μ n d) (hc : c0 + 1 ≤ mc) (hs : s0 + 8 ≤ ms) (hq : q.1 ≤ 320) (hi : i + 5 ≤ q.1) (K : lK q mc ms c0 s0 i) : AW (some q) 20 mc ms mL_law c0 s0 905 (lL i) [] (wS μ e) lP := by
  obtain ⟨ho, hn, h7, e8⟩ := hR.ok
  obtain ⟨h1, f, ee, n', d', h2⟩ := Pr.two (o := oTear μ) (q := fun ν => qTear ν) hR (fun ν h => p_tear h)
  refine AW.aload_n (n := 906) dL_law_905 rfl rfl ?_
  refine AW.ev0i (Mc := mX9_tear) (n := 909) dL_law_906 lk_L_119 k_mX9_tear s_0 rfl rfl (c_X9_tear) (Nat.le_of_ble_eq_true rfl) (by decide) (by omega) (by omega) rfl ?_
  refine AW.aload_n (n := 910) dL_law_909 rfl rfl ?_
  refine AW.ev0i (Mc := mX10_tear) (n := 913) dL_law_910 lk_L_122 k_mX10_tear s_136 rfl rfl (c_X10_tear) (Nat.le_of_ble_eq_true rfl) (by decide) (by omega) (by omega) rfl ?_
  refine AW.icmp_eq (n := 916) (t := 987) dL_law_913 rfl rfl (fun _ => K _ _ _ _ (by omega) (by omega) ⟨n', d', h2⟩) (fun h => absurd ee h)
set_option maxHeartbeats 4000000 in
set_option maxRecDepth 100000 in
theorem law_seed {q : Nat × (Nat → Int32)} {mc ms c0 s0 i n d : Nat} {μ : Me} {e : Nat × (Nat → aC)} (hR : Rel μ μ n d) (hc : c0 + 1 ≤ mc) (hs : s0 + 8 ≤ ms) (hq : q.1 ≤ 320) (hi : i + 5 ≤ q.1) (K : lK q mc ms c0 s0 i) : AW (some q) 20 mc ms mL_law c0 s0 918 (lL i) [] (wS μ e) lP := by
  obtain ⟨ho, hn, h7, e8⟩ := hR.ok
  have v1 : vp_in (nI i + 1) q.1 := v_k 1 hq (by omega)
  obtain ⟨h1, f, ee, n', d', h2⟩ := Pr.two (o := oSeed μ (q.2 (nI i + 1).toNatClampNeg)) (q := fun ν => qSeed ν (q.2 (nI i + 1).toNatClampNeg)) hR (fun ν h => p_seed h)
  refine AW.aload_n (n := 919) dL_law_918 rfl rfl ?_
  refine AW.sload_n (n := 920) dL_law_919 rfl rfl ?_
  refine AW.iload_n (n := 921) dL_law_920 rfl rfl ?_
  refine AW.iconst (n := 922) (v := 1) dL_law_921 rfl rfl ?_
  refine AW.iadd (n := 923) dL_law_922 rfl ?_
  refine AW.sald (n := 924) dL_law_923 rfl v1 rfl ?_
  refine AW.ev1i (Mc := mX9_seed) (n := 927) dL_law_924 lk_L_123 k_mX9_seed s_0 rfl rfl (c_X9_seed) (Nat.le_of_ble_eq_true rfl) (by decide) (by omega) (by omega) rfl ?_
  refine AW.aload_n (n := 928) dL_law_927 rfl rfl ?_
  refine AW.sload_n (n := 929) dL_law_928 rfl rfl ?_
  refine AW.iload_n (n := 930) dL_law_929 rfl rfl ?_
  refine AW.iconst (n := 931) (v := 1) dL_law_930 rfl rfl ?_
  refine AW.iadd (n := 932) dL_law_931 rfl ?_
  refine AW.sald (n := 933) dL_law_932 rfl v1 rfl ?_
  refine AW.ev1i (Mc := mX10_seed) (n := 936) dL_law_933 lk_L_126 k_mX10_seed s_136 rfl rfl (c_X10_seed) (Nat.le_of_ble_eq_true rfl) (by decide) (by omega) (by omega) rfl ?_
  refine AW.icmp_eq (n := 939) (t := 987) dL_law_936 rfl rfl (fun _ => K _ _ _ _ (by omega) (by omega) ⟨n', d', h2⟩) (fun h => absurd ee h)
set_option maxHeartbeats 4000000 in
set_option maxRecDepth 100000 in
theorem law_keep {q : Nat × (Nat → Int32)} {mc ms c0 s0 i n d : Nat} {μ : Me} {e : Nat × (Nat → aC)} (hR : Rel μ μ n d) (hc : c0 + 1 ≤ mc) (hs : s0 + 8 ≤ ms) (hq : q.1 ≤ 320) (hi : i + 5 ≤ q.1) (K : lK q mc ms c0 s0 i) : AW (some q) 20 mc ms mL_law c0 s0 941 (lL i) [] (wS μ e) lP := by
  obtain ⟨ho, hn, h7, e8⟩ := hR.ok
  have v1 : vp_in (nI i + 1) q.1 := v_k 1 hq (by omega)
  obtain ⟨h1, f, ee, n', d', h2⟩ := Pr.two (o := oKeep μ (q.2 (nI i + 1).toNatClampNeg)) (q := fun ν => qKeep ν (q.2 (nI i + 1).toNatClampNeg)) hR (fun ν h => p_keep h)
  refine AW.aload_n (n := 942) dL_law_941 rfl rfl ?_
  refine AW.sload_n (n := 943) dL_law_942 rfl rfl ?_
  refine AW.iload_n (n := 944) dL_law_943 rfl rfl ?_
  refine AW.iconst (n := 945) (v := 1) dL_law_944 rfl rfl ?_
  refine AW.iadd (n := 946) dL_law_945 rfl ?_
  refine AW.sald (n := 947) dL_law_946 rfl v1 rfl ?_
  refine AW.ev1i (Mc := mX9_keep) (n := 950) dL_law_947 lk_L_127 k_mX9_keep s_0 rfl rfl (c_X9_keep) (Nat.le_of_ble_eq_true rfl) (by decide) (by omega) (by omega) rfl ?_
  refine AW.aload_n (n := 951) dL_law_950 rfl rfl ?_
  refine AW.sload_n (n := 952) dL_law_951 rfl rfl ?_
  refine AW.iload_n (n := 953) dL_law_952 rfl rfl ?_
  refine AW.iconst (n := 954) (v := 1) dL_law_953 rfl rfl ?_
  refine AW.iadd (n := 955) dL_law_954 rfl ?_
  refine AW.sald (n := 956) dL_law_955 rfl v1 rfl ?_
  refine AW.ev1i (Mc := mX10_keep) (n := 959) dL_law_956 lk_L_130 k_mX10_keep s_136 rfl rfl (c_X10_keep) (Nat.le_of_ble_eq_true rfl) (by decide) (by omega) (by omega) rfl ?_
  refine AW.icmp_eq (n := 962) (t := 987) dL_law_959 rfl rfl (fun _ => K _ _ _ _ (by omega) (by omega) ⟨n', d', h2⟩) (fun h => absurd ee h)
set_option maxHeartbeats 4000000 in
set_option maxRecDepth 100000 in
theorem law_goBack {q : Nat × (Nat → Int32)} {mc ms c0 s0 i n d : Nat} {μ : Me} {e : Nat × (Nat → aC)} (hR : Rel μ μ n d) (hc : c0 + 1 ≤ mc) (hs : s0 + 8 ≤ ms) (hq : q.1 ≤ 320) (hi : i + 5 ≤ q.1) (K : lK q mc ms c0 s0 i) : AW (some q) 20 mc ms mL_law c0 s0 964 (lL i) [] (wS μ e) lP := by
  obtain ⟨ho, hn, h7, e8⟩ := hR.ok
  have v1 : vp_in (nI i + 1) q.1 := v_k 1 hq (by omega)
  obtain ⟨h1, f, ee, n', d', h2⟩ := Pr.two (o := oGoBack μ (q.2 (nI i + 1).toNatClampNeg)) (q := fun ν => qGoBack ν (q.2 (nI i + 1).toNatClampNeg)) hR (fun ν h => p_goBack h)
  refine AW.aload_n (n := 965) dL_law_964 rfl rfl ?_
  refine AW.sload_n (n := 966) dL_law_965 rfl rfl ?_
  refine AW.iload_n (n := 967) dL_law_966 rfl rfl ?_
  refine AW.iconst (n := 968) (v := 1) dL_law_967 rfl rfl ?_
  refine AW.iadd (n := 969) dL_law_968 rfl ?_
  refine AW.sald (n := 970) dL_law_969 rfl v1 rfl ?_
  refine AW.ev1i (Mc := mX9_goBack) (n := 973) dL_law_970 lk_L_131 k_mX9_goBack s_0 rfl rfl (c_X9_goBack) (Nat.le_of_ble_eq_true rfl) (by decide) (by omega) (by omega) rfl ?_
  refine AW.aload_n (n := 974) dL_law_973 rfl rfl ?_
  refine AW.sload_n (n := 975) dL_law_974 rfl rfl ?_
  refine AW.iload_n (n := 976) dL_law_975 rfl rfl ?_
  refine AW.iconst (n := 977) (v := 1) dL_law_976 rfl rfl ?_
  refine AW.iadd (n := 978) dL_law_977 rfl ?_
  refine AW.sald (n := 979) dL_law_978 rfl v1 rfl ?_
  refine AW.ev1i (Mc := mX10_goBack) (n := 982) dL_law_979 lk_L_134 k_mX10_goBack s_136 rfl rfl (c_X10_goBack) (Nat.le_of_ble_eq_true rfl) (by decide) (by omega) (by omega) rfl ?_
  refine AW.icmp_eq (n := 985) (t := 987) dL_law_982 rfl rfl (fun _ => K _ _ _ _ (by omega) (by omega) ⟨n', d', h2⟩) (fun h => absurd ee h)
