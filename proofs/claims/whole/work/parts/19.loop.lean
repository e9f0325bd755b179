section LAW
variable {D : va_G} {cI cB cL : ClassId} {bb L : Nat} {xs : Nat → Int32} {n m j mc ms pc : Nat} {es : va_W} {o : Nat → Int64} {A : Nat → Nat} {M : gM} {ls : List (Nat × Value)} {st : List Value} {Phi : gR → va_W → Prop} {iv : Int32} {Psi : gR → va_W → Prop}
theorem Ret.deep {g : gG} {n n' : Nat} {av : List Value} {v : Option Value} {es es' : va_W} (h : n' ≤ n) (k : Ret g M n' mc ms av es v es') : Ret g M n mc ms av es v es' := fun Psi hf => go_deep h (k Psi hf)
theorem go_sldx {i v : Int32} (hv : xs i.toNatClampNeg = v) (hin : vp_in i L) (hd : decode M.2.1 pc = .ok (.iaload, 1)) (k : Go (gg D cI cB cL bb L xs) M n mc ms (pc + 1) ls (.int v :: st) es Phi) : Go (gg D cI cB cL bb L xs) M n mc ms pc ls (.int i :: .ref bb :: st) es Phi := by
  subst hv
  exact go_sld (g := (gg D cI cB cL bb L xs)) hin hd k
theorem go_slenx (hd : decode M.2.1 pc = .ok (.arraylength, 1)) (k : Go (gg D cI cB cL bb L xs) M n mc ms (pc + 1) ls (.int (nI L) :: st) es Phi) : Go (gg D cI cB cL bb L xs) M n mc ms pc ls (.ref bb :: st) es Phi := go_slen (g := (gg D cI cB cL bb L xs)) hd k
theorem nfX : ∀ j, j < 6 → defaultValue (tyX j) = vp_V [.int 0, .null, .null, .null, .null, .null] j := by
  intro j hj
  rcases j with _ | _ | _ | _ | _ | _ | j
  all_goals first | rfl | omega
theorem nfY : ∀ j, j < 7 → defaultValue (tyY j) = vp_V [.int 0, .int 0, .int 0, .null, .null, .null, .null] j := by
  intro j hj
  rcases j with _ | _ | _ | _ | _ | _ | _ | j
  all_goals first | rfl | omega
theorem lc_same {x y : Int64} (h : x = y) : lg_cmp x y = 0 := by
  subst h
  unfold lg_cmp
  rw [if_neg (Int64.lt_irrefl (a := x)), if_pos rfl]
set_option maxRecDepth 100000 in
set_option maxHeartbeats 1000000 in
theorem c_cell (hL : L < 2 ^ 31) : ∃ v : Int32, ∀ (n : Nat) (es : va_W), Ret (gg D cI cB cL bb L xs) mL_cell n 0 0 [.ref bb, .int 0] es (some (.int v)) es := by
  by_cases hz : L = 0
  · refine ⟨0, fun n es Psi hf => ?_⟩
    show Go _ _ _ _ _ 0 [(0, .ref bb), (1, .int 0)] [] _ Psi
    refine go_iload_n (pc := 0) 1 1 rfl rfl eL_cell_0 ?_
    refine go_aload_n (pc := 1) 0 0 rfl rfl eL_cell_1 ?_
    refine go_slenx (pc := 2) eL_cell_2 ?_
    refine go_icmp_ge (pc := 3) 12 (by decide) eL_cell_3 (fun c3 => ?_) (fun c3 => ?_)
    · refine go_iconst (pc := 12) (v := 0) (by decide) eL_cell_12 ?_
      exact go_iret (pc := 13) rfl rfl eL_cell_13 (hf)
    · exact absurd (by subst hz; decide) c3
  · refine ⟨xs (nI 0).toNatClampNeg, fun n es Psi hf => ?_⟩
    show Go _ _ _ _ _ 0 [(0, .ref bb), (1, .int 0)] [] _ Psi
    refine go_iload_n (pc := 0) 1 1 rfl rfl eL_cell_0 ?_
    refine go_aload_n (pc := 1) 0 0 rfl rfl eL_cell_1 ?_
    refine go_slenx (pc := 2) eL_cell_2 ?_
    refine go_icmp_ge (pc := 3) 12 (by decide) eL_cell_3 (fun c3 => ?_) (fun c3 => ?_)
    · exact absurd c3 (nI_nle (by omega) hL)
    · refine go_aload_n (pc := 6) 0 0 rfl rfl eL_cell_6 ?_
      refine go_iload_n (pc := 7) 1 1 rfl rfl eL_cell_7 ?_
      refine go_sldx (pc := 8) (i := nI 0) rfl (vp_in_nI (by omega) hL) eL_cell_8 ?_
      refine go_goto (pc := 9) 13 (by decide) eL_cell_9 ?_
      exact go_iret (pc := 13) rfl rfl eL_cell_13 (hf)
set_option maxRecDepth 100000 in
set_option maxHeartbeats 1000000 in
theorem law_open  {F : Nat} {c : Nat → Int32} {fo : Nat → Option Nat} {sp pi : Nat → Bool} {cd : Int32} {sx : Nat} {pd th : Nat → Bool} {sm : Nat → Nat} {u : Nat → Int32} (S : Sim D cI cB cL bb L xs A mX_open mY_open [] [] (j + 1) (wW cI cB cL A F c fo sp pi cd sx pd th sm u)) (k : ∀ (cd : Int32) (o' : Nat → Int64) (es' : va_W), St cI cB cL A cd o' (j + 1) es' → Go (gg D cI cB cL bb L xs) mL_law 7 m (6 * m) 1053 [(4, .int iv), (3, .ref (A 11)), (2, .ref (A 6)), (1, .ref (A 0)), (0, .ref bb)] [] es' Psi) : Go (gg D cI cB cL bb L xs) mL_law 7 (m + 1) (6 * (m + 1)) 128 [(4, .int iv), (3, .ref (A 11)), (2, .ref (A 6)), (1, .ref (A 0)), (0, .ref bb)] [] (wW cI cB cL A F c fo sp pi cd sx pd th sm u o) Psi := by
  obtain ⟨r, es1, h1, h2, h3, h4, h5⟩ := Or.resolve_right S (fun ⟨E, k, b, hk, _⟩ => by cases hk)
  obtain ⟨fs, h6⟩ := h4 o
  obtain ⟨es2, h7, h8⟩ := h5 o
  refine go_aload_n (pc := 128) 1 3 rfl rfl eL_law_128 ?_
  refine go_rV (pc := 129) 0 ((h1 o).deep (n := 6) (by omega)) okX_open lmL_70 eL_law_129 rfl rfl rfl rfl rfl (Nat.le_of_ble_eq_true rfl) (Nat.le_of_ble_eq_true rfl) ?_
  refine go_aload_n (pc := 132) 2 2 rfl rfl eL_law_132 ?_
  refine go_rV (pc := 133) 6 h7 okY_open lmL_74 eL_law_133 rfl h6 rfl rfl rfl (Nat.le_of_ble_eq_true rfl) (Nat.le_of_ble_eq_true rfl) ?_
  refine go_icmp_eq (pc := 136) 1053 (by decide) eL_law_136 (fun c136 => ?_) (fun c136 => ?_)
  · exact go_less (by omega) (by omega) (k _ _ _ h8)
  · exact absurd rfl c136
set_option maxRecDepth 100000 in
set_option maxHeartbeats 1000000 in
theorem law_fork {x1 : Int32} (hx1 : xs (iv + 1).toNatClampNeg = x1) (hin1 : vp_in (iv + 1) L) (S : SimW D cI cB cL bb L xs A mL_fork mY_fork [.int x1] Int32.toInt64 (j + 1) es) (k : ∀ (cd : Int32) (o' : Nat → Int64) (es' : va_W), St cI cB cL A cd o' (j + 1) es' → Go (gg D cI cB cL bb L xs) mL_law 7 m (6 * m) 1053 [(4, .int iv), (3, .ref (A 11)), (2, .ref (A 6)), (1, .ref (A 0)), (0, .ref bb)] [] es' Psi) : Go (gg D cI cB cL bb L xs) mL_law 7 (m + 1) (6 * (m + 1)) 141 [(4, .int iv), (3, .ref (A 11)), (2, .ref (A 6)), (1, .ref (A 0)), (0, .ref bb)] [] es Psi := by
  obtain ⟨q, b, es1, es2, o', fs, h1, h2, h3, h4, h5⟩ := S
  obtain ⟨F', c', fo', sp', pi', sx', pd', th', sm', u', rfl, R'⟩ := h5
  refine go_aload_n (pc := 141) 1 3 rfl rfl eL_law_141 ?_
  refine go_aload_n (pc := 142) 0 4 rfl rfl eL_law_142 ?_
  refine go_iload (pc := 143) 4 0 rfl eL_law_143 ?_
  refine go_iconst (pc := 145) (v := 1) (by decide) eL_law_145 ?_
  refine go_iadd (pc := 146) eL_law_146 ?_
  refine go_sldx (pc := 147) hx1 hin1 eL_law_147 ?_
  refine go_aload_n (pc := 148) 3 1 rfl rfl eL_law_148 ?_
  refine go_rW (pc := 149) (mc' := 1) (ms' := 6) (mc'' := m) (ms'' := 6 * m) h1 okL_fork lmL_75 eL_law_149 rfl rfl (Nat.le_of_ble_eq_true rfl) (Nat.le_of_ble_eq_true rfl) (by omega) (by omega) ?_
  refine go_istore (pc := 152) (ls' := [(5, _), (4, _), (3, _), (2, _), (1, _), (0, _)]) 5 (by decide) eL_law_152 rfl ?_
  refine go_aload_n (pc := 154) 2 3 rfl rfl eL_law_154 ?_
  refine go_aload_n (pc := 155) 0 5 rfl rfl eL_law_155 ?_
  refine go_iload (pc := 156) 4 1 rfl eL_law_156 ?_
  refine go_iconst (pc := 158) (v := 1) (by decide) eL_law_158 ?_
  refine go_iadd (pc := 159) eL_law_159 ?_
  refine go_sldx (pc := 160) hx1 hin1 eL_law_160 ?_
  refine go_rV (pc := 161) 6 h3 okY_fork lmL_78 eL_law_161 rfl h2 rfl rfl rfl (Nat.le_of_ble_eq_true rfl) (Nat.le_of_ble_eq_true rfl) ?_
  refine go_istore (pc := 164) (ls' := [(6, _), (5, _), (4, _), (3, _), (2, _), (1, _), (0, _)]) 6 (by decide) eL_law_164 rfl ?_
  refine go_aload_n (pc := 166) 2 4 rfl rfl eL_law_166 ?_
  refine go_rV (pc := 167) 6 d_thrown okY_thrown lmL_79 eL_law_167 rfl rfl rfl rfl rfl (Nat.le_of_ble_eq_true rfl) (Nat.le_of_ble_eq_true rfl) ?_
  refine go_iload (pc := 170) 5 1 rfl eL_law_170 ?_
  refine go_icmp_eq (pc := 172) 177 (by decide) eL_law_172 (fun c172 => ?_) (fun c172 => ?_)
  · refine go_iload (pc := 177) 5 1 rfl eL_law_177 ?_
    refine go_if_ne (pc := 179) 194 (by decide) eL_law_179 (fun c179 => ?_) (fun c179 => ?_)
    · refine go_goto (pc := 194) 1053 (by decide) eL_law_194 ?_
      refine go_ls [2, 3, 4, 5, 6] rfl ?_
      exact k _ _ _ ⟨F', c', fo', sp', pi', sx', pd', th', sm', u', rfl, R'⟩
    · refine go_aload_n (pc := 182) 3 3 rfl rfl eL_law_182 ?_
      refine go_iconst (pc := 183) (v := 0) (by decide) eL_law_183 ?_
      refine go_lald (pc := 184) 11 2 rfl rfl in01 eL_law_184 ?_
      refine go_iload (pc := 185) 6 0 rfl eL_law_185 ?_
      refine go_i2l (pc := 187) eL_law_187 ?_
      refine go_lcmp (pc := 188) eL_law_188 ?_
      refine go_if_eq (pc := 189) 194 (by decide) eL_law_189 (fun c189 => ?_) (fun c189 => ?_)
      · refine go_goto (pc := 194) 1053 (by decide) eL_law_194 ?_
        refine go_ls [2, 3, 4, 5, 6] rfl ?_
        exact k _ _ _ ⟨F', c', fo', sp', pi', sx', pd', th', sm', u', rfl, R'⟩
      · exact absurd (lc_same (h4 c179)) c189
  · exact absurd rfl c172
set_option maxRecDepth 100000 in
set_option maxHeartbeats 1000000 in
theorem law_close {x1 : Int32} (hx1 : xs (iv + 1).toNatClampNeg = x1) (hin1 : vp_in (iv + 1) L) (S : SimW D cI cB cL bb L xs A mL_close mY_close [.int x1] Int32.toInt64 (j + 1) es) (k : ∀ (cd : Int32) (o' : Nat → Int64) (es' : va_W), St cI cB cL A cd o' (j + 1) es' → Go (gg D cI cB cL bb L xs) mL_law 7 m (6 * m) 1053 [(4, .int iv), (3, .ref (A 11)), (2, .ref (A 6)), (1, .ref (A 0)), (0, .ref bb)] [] es' Psi) : Go (gg D cI cB cL bb L xs) mL_law 7 (m + 1) (6 * (m + 1)) 197 [(4, .int iv), (3, .ref (A 11)), (2, .ref (A 6)), (1, .ref (A 0)), (0, .ref bb)] [] es Psi := by
  obtain ⟨q, b, es1, es2, o', fs, h1, h2, h3, h4, h5⟩ := S
  obtain ⟨F', c', fo', sp', pi', sx', pd', th', sm', u', rfl, R'⟩ := h5
  refine go_aload_n (pc := 197) 1 3 rfl rfl eL_law_197 ?_
  refine go_aload_n (pc := 198) 0 4 rfl rfl eL_law_198 ?_
  refine go_iload (pc := 199) 4 0 rfl eL_law_199 ?_
  refine go_iconst (pc := 201) (v := 1) (by decide) eL_law_201 ?_
  refine go_iadd (pc := 202) eL_law_202 ?_
  refine go_sldx (pc := 203) hx1 hin1 eL_law_203 ?_
  refine go_aload_n (pc := 204) 3 1 rfl rfl eL_law_204 ?_
  refine go_rW (pc := 205) (mc' := 1) (ms' := 6) (mc'' := m) (ms'' := 6 * m) h1 okL_close lmL_82 eL_law_205 rfl rfl (Nat.le_of_ble_eq_true rfl) (Nat.le_of_ble_eq_true rfl) (by omega) (by omega) ?_
  refine go_istore (pc := 208) (ls' := [(5, _), (4, _), (3, _), (2, _), (1, _), (0, _)]) 5 (by decide) eL_law_208 rfl ?_
  refine go_aload_n (pc := 210) 2 3 rfl rfl eL_law_210 ?_
  refine go_aload_n (pc := 211) 0 5 rfl rfl eL_law_211 ?_
  refine go_iload (pc := 212) 4 1 rfl eL_law_212 ?_
  refine go_iconst (pc := 214) (v := 1) (by decide) eL_law_214 ?_
  refine go_iadd (pc := 215) eL_law_215 ?_
  refine go_sldx (pc := 216) hx1 hin1 eL_law_216 ?_
  refine go_rV (pc := 217) 6 h3 okY_close lmL_84 eL_law_217 rfl h2 rfl rfl rfl (Nat.le_of_ble_eq_true rfl) (Nat.le_of_ble_eq_true rfl) ?_
  refine go_istore (pc := 220) (ls' := [(6, _), (5, _), (4, _), (3, _), (2, _), (1, _), (0, _)]) 6 (by decide) eL_law_220 rfl ?_
  refine go_aload_n (pc := 222) 2 4 rfl rfl eL_law_222 ?_
  refine go_rV (pc := 223) 6 d_thrown okY_thrown lmL_79 eL_law_223 rfl rfl rfl rfl rfl (Nat.le_of_ble_eq_true rfl) (Nat.le_of_ble_eq_true rfl) ?_
  refine go_iload (pc := 226) 5 1 rfl eL_law_226 ?_
  refine go_icmp_eq (pc := 228) 233 (by decide) eL_law_228 (fun c228 => ?_) (fun c228 => ?_)
  · refine go_iload (pc := 233) 5 1 rfl eL_law_233 ?_
    refine go_if_ne (pc := 235) 250 (by decide) eL_law_235 (fun c235 => ?_) (fun c235 => ?_)
    · refine go_goto (pc := 250) 1053 (by decide) eL_law_250 ?_
      refine go_ls [2, 3, 4, 5, 6] rfl ?_
      exact k _ _ _ ⟨F', c', fo', sp', pi', sx', pd', th', sm', u', rfl, R'⟩
    · refine go_aload_n (pc := 238) 3 3 rfl rfl eL_law_238 ?_
      refine go_iconst (pc := 239) (v := 0) (by decide) eL_law_239 ?_
      refine go_lald (pc := 240) 11 2 rfl rfl in01 eL_law_240 ?_
      refine go_iload (pc := 241) 6 0 rfl eL_law_241 ?_
      refine go_i2l (pc := 243) eL_law_243 ?_
      refine go_lcmp (pc := 244) eL_law_244 ?_
      refine go_if_eq (pc := 245) 250 (by decide) eL_law_245 (fun c245 => ?_) (fun c245 => ?_)
      · refine go_goto (pc := 250) 1053 (by decide) eL_law_250 ?_
        refine go_ls [2, 3, 4, 5, 6] rfl ?_
        exact k _ _ _ ⟨F', c', fo', sp', pi', sx', pd', th', sm', u', rfl, R'⟩
      · exact absurd (lc_same (h4 c235)) c245
  · exact absurd rfl c228
set_option maxRecDepth 100000 in
set_option maxHeartbeats 1000000 in
theorem law_map {x1 x2 x3 : Int32} (hx1 : xs (iv + 1).toNatClampNeg = x1) (hin1 : vp_in (iv + 1) L) (hx2 : xs (iv + 2).toNatClampNeg = x2) (hin2 : vp_in (iv + 2) L) (hx3 : xs (iv + 3).toNatClampNeg = x3) (hin3 : vp_in (iv + 3) L) (S : SimW D cI cB cL bb L xs A mL_map mY_map [.int x1, .int x2, .int x3] zL (j + 1) es) (k : ∀ (cd : Int32) (o' : Nat → Int64) (es' : va_W), St cI cB cL A cd o' (j + 1) es' → Go (gg D cI cB cL bb L xs) mL_law 7 m (6 * m) 1053 [(4, .int iv), (3, .ref (A 11)), (2, .ref (A 6)), (1, .ref (A 0)), (0, .ref bb)] [] es' Psi) : Go (gg D cI cB cL bb L xs) mL_law 7 (m + 1) (6 * (m + 1)) 253 [(4, .int iv), (3, .ref (A 11)), (2, .ref (A 6)), (1, .ref (A 0)), (0, .ref bb)] [] es Psi := by
  obtain ⟨q, b, es1, es2, o', fs, h1, h2, h3, h4, h5⟩ := S
  obtain ⟨F', c', fo', sp', pi', sx', pd', th', sm', u', rfl, R'⟩ := h5
  refine go_aload_n (pc := 253) 1 3 rfl rfl eL_law_253 ?_
  refine go_aload_n (pc := 254) 0 4 rfl rfl eL_law_254 ?_
  refine go_iload (pc := 255) 4 0 rfl eL_law_255 ?_
  refine go_iconst (pc := 257) (v := 1) (by decide) eL_law_257 ?_
  refine go_iadd (pc := 258) eL_law_258 ?_
  refine go_sldx (pc := 259) hx1 hin1 eL_law_259 ?_
  refine go_aload_n (pc := 260) 0 4 rfl rfl eL_law_260 ?_
  refine go_iload (pc := 261) 4 0 rfl eL_law_261 ?_
  refine go_iconst (pc := 263) (v := 2) (by decide) eL_law_263 ?_
  refine go_iadd (pc := 264) eL_law_264 ?_
  refine go_sldx (pc := 265) hx2 hin2 eL_law_265 ?_
  refine go_aload_n (pc := 266) 0 4 rfl rfl eL_law_266 ?_
  refine go_iload (pc := 267) 4 0 rfl eL_law_267 ?_
  refine go_iconst (pc := 269) (v := 3) (by decide) eL_law_269 ?_
  refine go_iadd (pc := 270) eL_law_270 ?_
  refine go_sldx (pc := 271) hx3 hin3 eL_law_271 ?_
  refine go_aload_n (pc := 272) 3 1 rfl rfl eL_law_272 ?_
  refine go_rW (pc := 273) (mc' := 1) (ms' := 6) (mc'' := m) (ms'' := 6 * m) h1 okL_map lmL_85 eL_law_273 rfl rfl (Nat.le_of_ble_eq_true rfl) (Nat.le_of_ble_eq_true rfl) (by omega) (by omega) ?_
  refine go_istore (pc := 276) (ls' := [(5, _), (4, _), (3, _), (2, _), (1, _), (0, _)]) 5 (by decide) eL_law_276 rfl ?_
  refine go_aload_n (pc := 278) 2 3 rfl rfl eL_law_278 ?_
  refine go_aload_n (pc := 279) 0 5 rfl rfl eL_law_279 ?_
  refine go_iload (pc := 280) 4 1 rfl eL_law_280 ?_
  refine go_iconst (pc := 282) (v := 1) (by decide) eL_law_282 ?_
  refine go_iadd (pc := 283) eL_law_283 ?_
  refine go_sldx (pc := 284) hx1 hin1 eL_law_284 ?_
  refine go_aload_n (pc := 285) 0 5 rfl rfl eL_law_285 ?_
  refine go_iload (pc := 286) 4 1 rfl eL_law_286 ?_
  refine go_iconst (pc := 288) (v := 2) (by decide) eL_law_288 ?_
  refine go_iadd (pc := 289) eL_law_289 ?_
  refine go_sldx (pc := 290) hx2 hin2 eL_law_290 ?_
  refine go_aload_n (pc := 291) 0 5 rfl rfl eL_law_291 ?_
  refine go_iload (pc := 292) 4 1 rfl eL_law_292 ?_
  refine go_iconst (pc := 294) (v := 3) (by decide) eL_law_294 ?_
  refine go_iadd (pc := 295) eL_law_295 ?_
  refine go_sldx (pc := 296) hx3 hin3 eL_law_296 ?_
  refine go_rV (pc := 297) 6 h3 okY_map lmL_88 eL_law_297 rfl h2 rfl rfl rfl (Nat.le_of_ble_eq_true rfl) (Nat.le_of_ble_eq_true rfl) ?_
  refine go_istore (pc := 300) (ls' := [(6, _), (5, _), (4, _), (3, _), (2, _), (1, _), (0, _)]) 6 (by decide) eL_law_300 rfl ?_
  refine go_aload_n (pc := 302) 2 4 rfl rfl eL_law_302 ?_
  refine go_rV (pc := 303) 6 d_thrown okY_thrown lmL_79 eL_law_303 rfl rfl rfl rfl rfl (Nat.le_of_ble_eq_true rfl) (Nat.le_of_ble_eq_true rfl) ?_
  refine go_iload (pc := 306) 5 1 rfl eL_law_306 ?_
  refine go_icmp_eq (pc := 308) 313 (by decide) eL_law_308 (fun c308 => ?_) (fun c308 => ?_)
  · refine go_iload (pc := 313) 5 1 rfl eL_law_313 ?_
    refine go_if_ne (pc := 315) 337 (by decide) eL_law_315 (fun c315 => ?_) (fun c315 => ?_)
    · refine go_goto (pc := 337) 1053 (by decide) eL_law_337 ?_
      refine go_ls [2, 3, 4, 5, 6] rfl ?_
      exact k _ _ _ ⟨F', c', fo', sp', pi', sx', pd', th', sm', u', rfl, R'⟩
    · refine go_aload_n (pc := 318) 3 3 rfl rfl eL_law_318 ?_
      refine go_iconst (pc := 319) (v := 0) (by decide) eL_law_319 ?_
      refine go_lald (pc := 320) 11 2 rfl rfl in01 eL_law_320 ?_
      refine go_iload (pc := 321) 6 0 rfl eL_law_321 ?_
      refine go_if_eq (pc := 323) 330 (by decide) eL_law_323 (fun c323 => ?_) (fun c323 => ?_)
      · refine go_lconst (pc := 330) (v := 0) (by decide) eL_law_330 ?_
        refine go_lcmp (pc := 331) eL_law_331 ?_
        refine go_if_eq (pc := 332) 337 (by decide) eL_law_332 (fun c332 => ?_) (fun c332 => ?_)
        · refine go_goto (pc := 337) 1053 (by decide) eL_law_337 ?_
          refine go_ls [2, 3, 4, 5, 6] rfl ?_
          exact k _ _ _ ⟨F', c', fo', sp', pi', sx', pd', th', sm', u', rfl, R'⟩
        · exact absurd (lc_same ((h4 c315).trans (by first | exact if_pos c323 | exact if_neg c323))) c332
      · refine go_lconst (pc := 326) (v := 1) (by decide) eL_law_326 ?_
        refine go_goto (pc := 327) 331 (by decide) eL_law_327 ?_
        refine go_lcmp (pc := 331) eL_law_331 ?_
        refine go_if_eq (pc := 332) 337 (by decide) eL_law_332 (fun c332 => ?_) (fun c332 => ?_)
        · refine go_goto (pc := 337) 1053 (by decide) eL_law_337 ?_
          refine go_ls [2, 3, 4, 5, 6] rfl ?_
          exact k _ _ _ ⟨F', c', fo', sp', pi', sx', pd', th', sm', u', rfl, R'⟩
        · exact absurd (lc_same ((h4 c315).trans (by first | exact if_pos c323 | exact if_neg c323))) c332
  · exact absurd rfl c308
set_option maxRecDepth 100000 in
set_option maxHeartbeats 1000000 in
theorem law_unmap {x1 x2 : Int32} (hx1 : xs (iv + 1).toNatClampNeg = x1) (hin1 : vp_in (iv + 1) L) (hx2 : xs (iv + 2).toNatClampNeg = x2) (hin2 : vp_in (iv + 2) L) (S : SimW D cI cB cL bb L xs A mL_unmap mY_unmap [.int x1, .int x2] zL (j + 1) es) (k : ∀ (cd : Int32) (o' : Nat → Int64) (es' : va_W), St cI cB cL A cd o' (j + 1) es' → Go (gg D cI cB cL bb L xs) mL_law 7 m (6 * m) 1053 [(4, .int iv), (3, .ref (A 11)), (2, .ref (A 6)), (1, .ref (A 0)), (0, .ref bb)] [] es' Psi) : Go (gg D cI cB cL bb L xs) mL_law 7 (m + 1) (6 * (m + 1)) 340 [(4, .int iv), (3, .ref (A 11)), (2, .ref (A 6)), (1, .ref (A 0)), (0, .ref bb)] [] es Psi := by
  obtain ⟨q, b, es1, es2, o', fs, h1, h2, h3, h4, h5⟩ := S
  obtain ⟨F', c', fo', sp', pi', sx', pd', th', sm', u', rfl, R'⟩ := h5
  refine go_aload_n (pc := 340) 1 3 rfl rfl eL_law_340 ?_
  refine go_aload_n (pc := 341) 0 4 rfl rfl eL_law_341 ?_
  refine go_iload (pc := 342) 4 0 rfl eL_law_342 ?_
  refine go_iconst (pc := 344) (v := 1) (by decide) eL_law_344 ?_
  refine go_iadd (pc := 345) eL_law_345 ?_
  refine go_sldx (pc := 346) hx1 hin1 eL_law_346 ?_
  refine go_aload_n (pc := 347) 0 4 rfl rfl eL_law_347 ?_
  refine go_iload (pc := 348) 4 0 rfl eL_law_348 ?_
  refine go_iconst (pc := 350) (v := 2) (by decide) eL_law_350 ?_
  refine go_iadd (pc := 351) eL_law_351 ?_
  refine go_sldx (pc := 352) hx2 hin2 eL_law_352 ?_
  refine go_aload_n (pc := 353) 3 1 rfl rfl eL_law_353 ?_
  refine go_rW (pc := 354) (mc' := 1) (ms' := 6) (mc'' := m) (ms'' := 6 * m) h1 okL_unmap lmL_89 eL_law_354 rfl rfl (Nat.le_of_ble_eq_true rfl) (Nat.le_of_ble_eq_true rfl) (by omega) (by omega) ?_
  refine go_istore (pc := 357) (ls' := [(5, _), (4, _), (3, _), (2, _), (1, _), (0, _)]) 5 (by decide) eL_law_357 rfl ?_
  refine go_aload_n (pc := 359) 2 3 rfl rfl eL_law_359 ?_
  refine go_aload_n (pc := 360) 0 5 rfl rfl eL_law_360 ?_
  refine go_iload (pc := 361) 4 1 rfl eL_law_361 ?_
  refine go_iconst (pc := 363) (v := 1) (by decide) eL_law_363 ?_
  refine go_iadd (pc := 364) eL_law_364 ?_
  refine go_sldx (pc := 365) hx1 hin1 eL_law_365 ?_
  refine go_aload_n (pc := 366) 0 5 rfl rfl eL_law_366 ?_
  refine go_iload (pc := 367) 4 1 rfl eL_law_367 ?_
  refine go_iconst (pc := 369) (v := 2) (by decide) eL_law_369 ?_
  refine go_iadd (pc := 370) eL_law_370 ?_
  refine go_sldx (pc := 371) hx2 hin2 eL_law_371 ?_
  refine go_rV (pc := 372) 6 h3 okY_unmap lmL_92 eL_law_372 rfl h2 rfl rfl rfl (Nat.le_of_ble_eq_true rfl) (Nat.le_of_ble_eq_true rfl) ?_
  refine go_istore (pc := 375) (ls' := [(6, _), (5, _), (4, _), (3, _), (2, _), (1, _), (0, _)]) 6 (by decide) eL_law_375 rfl ?_
  refine go_aload_n (pc := 377) 2 4 rfl rfl eL_law_377 ?_
  refine go_rV (pc := 378) 6 d_thrown okY_thrown lmL_79 eL_law_378 rfl rfl rfl rfl rfl (Nat.le_of_ble_eq_true rfl) (Nat.le_of_ble_eq_true rfl) ?_
  refine go_iload (pc := 381) 5 1 rfl eL_law_381 ?_
  refine go_icmp_eq (pc := 383) 388 (by decide) eL_law_383 (fun c383 => ?_) (fun c383 => ?_)
  · refine go_iload (pc := 388) 5 1 rfl eL_law_388 ?_
    refine go_if_ne (pc := 390) 412 (by decide) eL_law_390 (fun c390 => ?_) (fun c390 => ?_)
    · refine go_goto (pc := 412) 1053 (by decide) eL_law_412 ?_
      refine go_ls [2, 3, 4, 5, 6] rfl ?_
      exact k _ _ _ ⟨F', c', fo', sp', pi', sx', pd', th', sm', u', rfl, R'⟩
    · refine go_aload_n (pc := 393) 3 3 rfl rfl eL_law_393 ?_
      refine go_iconst (pc := 394) (v := 0) (by decide) eL_law_394 ?_
      refine go_lald (pc := 395) 11 2 rfl rfl in01 eL_law_395 ?_
      refine go_iload (pc := 396) 6 0 rfl eL_law_396 ?_
      refine go_if_eq (pc := 398) 405 (by decide) eL_law_398 (fun c398 => ?_) (fun c398 => ?_)
      · refine go_lconst (pc := 405) (v := 0) (by decide) eL_law_405 ?_
        refine go_lcmp (pc := 406) eL_law_406 ?_
        refine go_if_eq (pc := 407) 412 (by decide) eL_law_407 (fun c407 => ?_) (fun c407 => ?_)
        · refine go_goto (pc := 412) 1053 (by decide) eL_law_412 ?_
          refine go_ls [2, 3, 4, 5, 6] rfl ?_
          exact k _ _ _ ⟨F', c', fo', sp', pi', sx', pd', th', sm', u', rfl, R'⟩
        · exact absurd (lc_same ((h4 c390).trans (by first | exact if_pos c398 | exact if_neg c398))) c407
      · refine go_lconst (pc := 401) (v := 1) (by decide) eL_law_401 ?_
        refine go_goto (pc := 402) 406 (by decide) eL_law_402 ?_
        refine go_lcmp (pc := 406) eL_law_406 ?_
        refine go_if_eq (pc := 407) 412 (by decide) eL_law_407 (fun c407 => ?_) (fun c407 => ?_)
        · refine go_goto (pc := 412) 1053 (by decide) eL_law_412 ?_
          refine go_ls [2, 3, 4, 5, 6] rfl ?_
          exact k _ _ _ ⟨F', c', fo', sp', pi', sx', pd', th', sm', u', rfl, R'⟩
        · exact absurd (lc_same ((h4 c390).trans (by first | exact if_pos c398 | exact if_neg c398))) c407
  · exact absurd rfl c383
set_option maxRecDepth 100000 in
set_option maxHeartbeats 1000000 in
theorem law_read {x1 x2 : Int32} (hx1 : xs (iv + 1).toNatClampNeg = x1) (hin1 : vp_in (iv + 1) L) (hx2 : xs (iv + 2).toNatClampNeg = x2) (hin2 : vp_in (iv + 2) L) (S : SimW D cI cB cL bb L xs A mL_read mY_read [.int x1, .int x2] Int32.toInt64 (j + 1) es) (k : ∀ (cd : Int32) (o' : Nat → Int64) (es' : va_W), St cI cB cL A cd o' (j + 1) es' → Go (gg D cI cB cL bb L xs) mL_law 7 m (6 * m) 1053 [(4, .int iv), (3, .ref (A 11)), (2, .ref (A 6)), (1, .ref (A 0)), (0, .ref bb)] [] es' Psi) : Go (gg D cI cB cL bb L xs) mL_law 7 (m + 1) (6 * (m + 1)) 415 [(4, .int iv), (3, .ref (A 11)), (2, .ref (A 6)), (1, .ref (A 0)), (0, .ref bb)] [] es Psi := by
  obtain ⟨q, b, es1, es2, o', fs, h1, h2, h3, h4, h5⟩ := S
  obtain ⟨F', c', fo', sp', pi', sx', pd', th', sm', u', rfl, R'⟩ := h5
  refine go_aload_n (pc := 415) 1 3 rfl rfl eL_law_415 ?_
  refine go_aload_n (pc := 416) 0 4 rfl rfl eL_law_416 ?_
  refine go_iload (pc := 417) 4 0 rfl eL_law_417 ?_
  refine go_iconst (pc := 419) (v := 1) (by decide) eL_law_419 ?_
  refine go_iadd (pc := 420) eL_law_420 ?_
  refine go_sldx (pc := 421) hx1 hin1 eL_law_421 ?_
  refine go_aload_n (pc := 422) 0 4 rfl rfl eL_law_422 ?_
  refine go_iload (pc := 423) 4 0 rfl eL_law_423 ?_
  refine go_iconst (pc := 425) (v := 2) (by decide) eL_law_425 ?_
  refine go_iadd (pc := 426) eL_law_426 ?_
  refine go_sldx (pc := 427) hx2 hin2 eL_law_427 ?_
  refine go_aload_n (pc := 428) 3 1 rfl rfl eL_law_428 ?_
  refine go_rW (pc := 429) (mc' := 1) (ms' := 6) (mc'' := m) (ms'' := 6 * m) h1 okL_read lmL_93 eL_law_429 rfl rfl (Nat.le_of_ble_eq_true rfl) (Nat.le_of_ble_eq_true rfl) (by omega) (by omega) ?_
  refine go_istore (pc := 432) (ls' := [(5, _), (4, _), (3, _), (2, _), (1, _), (0, _)]) 5 (by decide) eL_law_432 rfl ?_
  refine go_aload_n (pc := 434) 2 3 rfl rfl eL_law_434 ?_
  refine go_aload_n (pc := 435) 0 5 rfl rfl eL_law_435 ?_
  refine go_iload (pc := 436) 4 1 rfl eL_law_436 ?_
  refine go_iconst (pc := 438) (v := 1) (by decide) eL_law_438 ?_
  refine go_iadd (pc := 439) eL_law_439 ?_
  refine go_sldx (pc := 440) hx1 hin1 eL_law_440 ?_
  refine go_aload_n (pc := 441) 0 5 rfl rfl eL_law_441 ?_
  refine go_iload (pc := 442) 4 1 rfl eL_law_442 ?_
  refine go_iconst (pc := 444) (v := 2) (by decide) eL_law_444 ?_
  refine go_iadd (pc := 445) eL_law_445 ?_
  refine go_sldx (pc := 446) hx2 hin2 eL_law_446 ?_
  refine go_rV (pc := 447) 6 h3 okY_read lmL_95 eL_law_447 rfl h2 rfl rfl rfl (Nat.le_of_ble_eq_true rfl) (Nat.le_of_ble_eq_true rfl) ?_
  refine go_istore (pc := 450) (ls' := [(6, _), (5, _), (4, _), (3, _), (2, _), (1, _), (0, _)]) 6 (by decide) eL_law_450 rfl ?_
  refine go_aload_n (pc := 452) 2 4 rfl rfl eL_law_452 ?_
  refine go_rV (pc := 453) 6 d_thrown okY_thrown lmL_79 eL_law_453 rfl rfl rfl rfl rfl (Nat.le_of_ble_eq_true rfl) (Nat.le_of_ble_eq_true rfl) ?_
  refine go_iload (pc := 456) 5 1 rfl eL_law_456 ?_
  refine go_icmp_eq (pc := 458) 463 (by decide) eL_law_458 (fun c458 => ?_) (fun c458 => ?_)
  · refine go_iload (pc := 463) 5 1 rfl eL_law_463 ?_
    refine go_if_ne (pc := 465) 480 (by decide) eL_law_465 (fun c465 => ?_) (fun c465 => ?_)
    · refine go_goto (pc := 480) 1053 (by decide) eL_law_480 ?_
      refine go_ls [2, 3, 4, 5, 6] rfl ?_
      exact k _ _ _ ⟨F', c', fo', sp', pi', sx', pd', th', sm', u', rfl, R'⟩
    · refine go_aload_n (pc := 468) 3 3 rfl rfl eL_law_468 ?_
      refine go_iconst (pc := 469) (v := 0) (by decide) eL_law_469 ?_
      refine go_lald (pc := 470) 11 2 rfl rfl in01 eL_law_470 ?_
      refine go_iload (pc := 471) 6 0 rfl eL_law_471 ?_
      refine go_i2l (pc := 473) eL_law_473 ?_
      refine go_lcmp (pc := 474) eL_law_474 ?_
      refine go_if_eq (pc := 475) 480 (by decide) eL_law_475 (fun c475 => ?_) (fun c475 => ?_)
      · refine go_goto (pc := 480) 1053 (by decide) eL_law_480 ?_
        refine go_ls [2, 3, 4, 5, 6] rfl ?_
        exact k _ _ _ ⟨F', c', fo', sp', pi', sx', pd', th', sm', u', rfl, R'⟩
      · exact absurd (lc_same (h4 c465)) c475
  · exact absurd rfl c458
set_option maxRecDepth 100000 in
set_option maxHeartbeats 1000000 in
theorem law_write {x1 x2 x3 : Int32} (hx1 : xs (iv + 1).toNatClampNeg = x1) (hin1 : vp_in (iv + 1) L) (hx2 : xs (iv + 2).toNatClampNeg = x2) (hin2 : vp_in (iv + 2) L) (hx3 : xs (iv + 3).toNatClampNeg = x3) (hin3 : vp_in (iv + 3) L) (S : SimW D cI cB cL bb L xs A mL_write mY_write [.int x1, .int x2, .int x3] Int32.toInt64 (j + 1) es) (k : ∀ (cd : Int32) (o' : Nat → Int64) (es' : va_W), St cI cB cL A cd o' (j + 1) es' → Go (gg D cI cB cL bb L xs) mL_law 7 m (6 * m) 1053 [(4, .int iv), (3, .ref (A 11)), (2, .ref (A 6)), (1, .ref (A 0)), (0, .ref bb)] [] es' Psi) : Go (gg D cI cB cL bb L xs) mL_law 7 (m + 1) (6 * (m + 1)) 483 [(4, .int iv), (3, .ref (A 11)), (2, .ref (A 6)), (1, .ref (A 0)), (0, .ref bb)] [] es Psi := by
  obtain ⟨q, b, es1, es2, o', fs, h1, h2, h3, h4, h5⟩ := S
  obtain ⟨F', c', fo', sp', pi', sx', pd', th', sm', u', rfl, R'⟩ := h5
  refine go_aload_n (pc := 483) 1 3 rfl rfl eL_law_483 ?_
  refine go_aload_n (pc := 484) 0 4 rfl rfl eL_law_484 ?_
  refine go_iload (pc := 485) 4 0 rfl eL_law_485 ?_
  refine go_iconst (pc := 487) (v := 1) (by decide) eL_law_487 ?_
  refine go_iadd (pc := 488) eL_law_488 ?_
  refine go_sldx (pc := 489) hx1 hin1 eL_law_489 ?_
  refine go_aload_n (pc := 490) 0 4 rfl rfl eL_law_490 ?_
  refine go_iload (pc := 491) 4 0 rfl eL_law_491 ?_
  refine go_iconst (pc := 493) (v := 2) (by decide) eL_law_493 ?_
  refine go_iadd (pc := 494) eL_law_494 ?_
  refine go_sldx (pc := 495) hx2 hin2 eL_law_495 ?_
  refine go_aload_n (pc := 496) 0 4 rfl rfl eL_law_496 ?_
  refine go_iload (pc := 497) 4 0 rfl eL_law_497 ?_
  refine go_iconst (pc := 499) (v := 3) (by decide) eL_law_499 ?_
  refine go_iadd (pc := 500) eL_law_500 ?_
  refine go_sldx (pc := 501) hx3 hin3 eL_law_501 ?_
  refine go_aload_n (pc := 502) 3 1 rfl rfl eL_law_502 ?_
  refine go_rW (pc := 503) (mc' := 1) (ms' := 6) (mc'' := m) (ms'' := 6 * m) h1 okL_write lmL_96 eL_law_503 rfl rfl (Nat.le_of_ble_eq_true rfl) (Nat.le_of_ble_eq_true rfl) (by omega) (by omega) ?_
  refine go_istore (pc := 506) (ls' := [(5, _), (4, _), (3, _), (2, _), (1, _), (0, _)]) 5 (by decide) eL_law_506 rfl ?_
  refine go_aload_n (pc := 508) 2 3 rfl rfl eL_law_508 ?_
  refine go_aload_n (pc := 509) 0 5 rfl rfl eL_law_509 ?_
  refine go_iload (pc := 510) 4 1 rfl eL_law_510 ?_
  refine go_iconst (pc := 512) (v := 1) (by decide) eL_law_512 ?_
  refine go_iadd (pc := 513) eL_law_513 ?_
  refine go_sldx (pc := 514) hx1 hin1 eL_law_514 ?_
  refine go_aload_n (pc := 515) 0 5 rfl rfl eL_law_515 ?_
  refine go_iload (pc := 516) 4 1 rfl eL_law_516 ?_
  refine go_iconst (pc := 518) (v := 2) (by decide) eL_law_518 ?_
  refine go_iadd (pc := 519) eL_law_519 ?_
  refine go_sldx (pc := 520) hx2 hin2 eL_law_520 ?_
  refine go_aload_n (pc := 521) 0 5 rfl rfl eL_law_521 ?_
  refine go_iload (pc := 522) 4 1 rfl eL_law_522 ?_
  refine go_iconst (pc := 524) (v := 3) (by decide) eL_law_524 ?_
  refine go_iadd (pc := 525) eL_law_525 ?_
  refine go_sldx (pc := 526) hx3 hin3 eL_law_526 ?_
  refine go_rV (pc := 527) 6 h3 okY_write lmL_98 eL_law_527 rfl h2 rfl rfl rfl (Nat.le_of_ble_eq_true rfl) (Nat.le_of_ble_eq_true rfl) ?_
  refine go_istore (pc := 530) (ls' := [(6, _), (5, _), (4, _), (3, _), (2, _), (1, _), (0, _)]) 6 (by decide) eL_law_530 rfl ?_
  refine go_aload_n (pc := 532) 2 4 rfl rfl eL_law_532 ?_
  refine go_rV (pc := 533) 6 d_thrown okY_thrown lmL_79 eL_law_533 rfl rfl rfl rfl rfl (Nat.le_of_ble_eq_true rfl) (Nat.le_of_ble_eq_true rfl) ?_
  refine go_iload (pc := 536) 5 1 rfl eL_law_536 ?_
  refine go_icmp_eq (pc := 538) 543 (by decide) eL_law_538 (fun c538 => ?_) (fun c538 => ?_)
  · refine go_iload (pc := 543) 5 1 rfl eL_law_543 ?_
    refine go_if_ne (pc := 545) 560 (by decide) eL_law_545 (fun c545 => ?_) (fun c545 => ?_)
    · refine go_goto (pc := 560) 1053 (by decide) eL_law_560 ?_
      refine go_ls [2, 3, 4, 5, 6] rfl ?_
      exact k _ _ _ ⟨F', c', fo', sp', pi', sx', pd', th', sm', u', rfl, R'⟩
    · refine go_aload_n (pc := 548) 3 3 rfl rfl eL_law_548 ?_
      refine go_iconst (pc := 549) (v := 0) (by decide) eL_law_549 ?_
      refine go_lald (pc := 550) 11 2 rfl rfl in01 eL_law_550 ?_
      refine go_iload (pc := 551) 6 0 rfl eL_law_551 ?_
      refine go_i2l (pc := 553) eL_law_553 ?_
      refine go_lcmp (pc := 554) eL_law_554 ?_
      refine go_if_eq (pc := 555) 560 (by decide) eL_law_555 (fun c555 => ?_) (fun c555 => ?_)
      · refine go_goto (pc := 560) 1053 (by decide) eL_law_560 ?_
        refine go_ls [2, 3, 4, 5, 6] rfl ?_
        exact k _ _ _ ⟨F', c', fo', sp', pi', sx', pd', th', sm', u', rfl, R'⟩
      · exact absurd (lc_same (h4 c545)) c555
  · exact absurd rfl c538
set_option maxRecDepth 100000 in
set_option maxHeartbeats 1000000 in
theorem law_lend {x1 x2 x3 x4 : Int32} (hx1 : xs (iv + 1).toNatClampNeg = x1) (hin1 : vp_in (iv + 1) L) (hx2 : xs (iv + 2).toNatClampNeg = x2) (hin2 : vp_in (iv + 2) L) (hx3 : xs (iv + 3).toNatClampNeg = x3) (hin3 : vp_in (iv + 3) L) (hx4 : xs (iv + 4).toNatClampNeg = x4) (hin4 : vp_in (iv + 4) L) (S : SimW D cI cB cL bb L xs A mL_lend mY_lend [.int x1, .int x2, .int x3, .int x4] zL (j + 1) es) (k : ∀ (cd : Int32) (o' : Nat → Int64) (es' : va_W), St cI cB cL A cd o' (j + 1) es' → Go (gg D cI cB cL bb L xs) mL_law 7 m (6 * m) 1053 [(4, .int iv), (3, .ref (A 11)), (2, .ref (A 6)), (1, .ref (A 0)), (0, .ref bb)] [] es' Psi) : Go (gg D cI cB cL bb L xs) mL_law 7 (m + 1) (6 * (m + 1)) 563 [(4, .int iv), (3, .ref (A 11)), (2, .ref (A 6)), (1, .ref (A 0)), (0, .ref bb)] [] es Psi := by
  obtain ⟨q, b, es1, es2, o', fs, h1, h2, h3, h4, h5⟩ := S
  obtain ⟨F', c', fo', sp', pi', sx', pd', th', sm', u', rfl, R'⟩ := h5
  refine go_aload_n (pc := 563) 1 3 rfl rfl eL_law_563 ?_
  refine go_aload_n (pc := 564) 0 4 rfl rfl eL_law_564 ?_
  refine go_iload (pc := 565) 4 0 rfl eL_law_565 ?_
  refine go_iconst (pc := 567) (v := 1) (by decide) eL_law_567 ?_
  refine go_iadd (pc := 568) eL_law_568 ?_
  refine go_sldx (pc := 569) hx1 hin1 eL_law_569 ?_
  refine go_aload_n (pc := 570) 0 4 rfl rfl eL_law_570 ?_
  refine go_iload (pc := 571) 4 0 rfl eL_law_571 ?_
  refine go_iconst (pc := 573) (v := 2) (by decide) eL_law_573 ?_
  refine go_iadd (pc := 574) eL_law_574 ?_
  refine go_sldx (pc := 575) hx2 hin2 eL_law_575 ?_
  refine go_aload_n (pc := 576) 0 4 rfl rfl eL_law_576 ?_
  refine go_iload (pc := 577) 4 0 rfl eL_law_577 ?_
  refine go_iconst (pc := 579) (v := 3) (by decide) eL_law_579 ?_
  refine go_iadd (pc := 580) eL_law_580 ?_
  refine go_sldx (pc := 581) hx3 hin3 eL_law_581 ?_
  refine go_aload_n (pc := 582) 0 4 rfl rfl eL_law_582 ?_
  refine go_iload (pc := 583) 4 0 rfl eL_law_583 ?_
  refine go_iconst (pc := 585) (v := 4) (by decide) eL_law_585 ?_
  refine go_iadd (pc := 586) eL_law_586 ?_
  refine go_sldx (pc := 587) hx4 hin4 eL_law_587 ?_
  refine go_aload_n (pc := 588) 3 1 rfl rfl eL_law_588 ?_
  refine go_rW (pc := 589) (mc' := 1) (ms' := 6) (mc'' := m) (ms'' := 6 * m) h1 okL_lend lmL_99 eL_law_589 rfl rfl (Nat.le_of_ble_eq_true rfl) (Nat.le_of_ble_eq_true rfl) (by omega) (by omega) ?_
  refine go_istore (pc := 592) (ls' := [(5, _), (4, _), (3, _), (2, _), (1, _), (0, _)]) 5 (by decide) eL_law_592 rfl ?_
  refine go_aload_n (pc := 594) 2 3 rfl rfl eL_law_594 ?_
  refine go_aload_n (pc := 595) 0 5 rfl rfl eL_law_595 ?_
  refine go_iload (pc := 596) 4 1 rfl eL_law_596 ?_
  refine go_iconst (pc := 598) (v := 1) (by decide) eL_law_598 ?_
  refine go_iadd (pc := 599) eL_law_599 ?_
  refine go_sldx (pc := 600) hx1 hin1 eL_law_600 ?_
  refine go_aload_n (pc := 601) 0 5 rfl rfl eL_law_601 ?_
  refine go_iload (pc := 602) 4 1 rfl eL_law_602 ?_
  refine go_iconst (pc := 604) (v := 2) (by decide) eL_law_604 ?_
  refine go_iadd (pc := 605) eL_law_605 ?_
  refine go_sldx (pc := 606) hx2 hin2 eL_law_606 ?_
  refine go_aload_n (pc := 607) 0 5 rfl rfl eL_law_607 ?_
  refine go_iload (pc := 608) 4 1 rfl eL_law_608 ?_
  refine go_iconst (pc := 610) (v := 3) (by decide) eL_law_610 ?_
  refine go_iadd (pc := 611) eL_law_611 ?_
  refine go_sldx (pc := 612) hx3 hin3 eL_law_612 ?_
  refine go_aload_n (pc := 613) 0 5 rfl rfl eL_law_613 ?_
  refine go_iload (pc := 614) 4 1 rfl eL_law_614 ?_
  refine go_iconst (pc := 616) (v := 4) (by decide) eL_law_616 ?_
  refine go_iadd (pc := 617) eL_law_617 ?_
  refine go_sldx (pc := 618) hx4 hin4 eL_law_618 ?_
  refine go_rV (pc := 619) 6 h3 okY_lend lmL_102 eL_law_619 rfl h2 rfl rfl rfl (Nat.le_of_ble_eq_true rfl) (Nat.le_of_ble_eq_true rfl) ?_
  refine go_istore (pc := 622) (ls' := [(6, _), (5, _), (4, _), (3, _), (2, _), (1, _), (0, _)]) 6 (by decide) eL_law_622 rfl ?_
  refine go_aload_n (pc := 624) 2 4 rfl rfl eL_law_624 ?_
  refine go_rV (pc := 625) 6 d_thrown okY_thrown lmL_79 eL_law_625 rfl rfl rfl rfl rfl (Nat.le_of_ble_eq_true rfl) (Nat.le_of_ble_eq_true rfl) ?_
  refine go_iload (pc := 628) 5 1 rfl eL_law_628 ?_
  refine go_icmp_eq (pc := 630) 635 (by decide) eL_law_630 (fun c630 => ?_) (fun c630 => ?_)
  · refine go_iload (pc := 635) 5 1 rfl eL_law_635 ?_
    refine go_if_ne (pc := 637) 659 (by decide) eL_law_637 (fun c637 => ?_) (fun c637 => ?_)
    · refine go_goto (pc := 659) 1053 (by decide) eL_law_659 ?_
      refine go_ls [2, 3, 4, 5, 6] rfl ?_
      exact k _ _ _ ⟨F', c', fo', sp', pi', sx', pd', th', sm', u', rfl, R'⟩
    · refine go_aload_n (pc := 640) 3 3 rfl rfl eL_law_640 ?_
      refine go_iconst (pc := 641) (v := 0) (by decide) eL_law_641 ?_
      refine go_lald (pc := 642) 11 2 rfl rfl in01 eL_law_642 ?_
      refine go_iload (pc := 643) 6 0 rfl eL_law_643 ?_
      refine go_if_eq (pc := 645) 652 (by decide) eL_law_645 (fun c645 => ?_) (fun c645 => ?_)
      · refine go_lconst (pc := 652) (v := 0) (by decide) eL_law_652 ?_
        refine go_lcmp (pc := 653) eL_law_653 ?_
        refine go_if_eq (pc := 654) 659 (by decide) eL_law_654 (fun c654 => ?_) (fun c654 => ?_)
        · refine go_goto (pc := 659) 1053 (by decide) eL_law_659 ?_
          refine go_ls [2, 3, 4, 5, 6] rfl ?_
          exact k _ _ _ ⟨F', c', fo', sp', pi', sx', pd', th', sm', u', rfl, R'⟩
        · exact absurd (lc_same ((h4 c637).trans (by first | exact if_pos c645 | exact if_neg c645))) c654
      · refine go_lconst (pc := 648) (v := 1) (by decide) eL_law_648 ?_
        refine go_goto (pc := 649) 653 (by decide) eL_law_649 ?_
        refine go_lcmp (pc := 653) eL_law_653 ?_
        refine go_if_eq (pc := 654) 659 (by decide) eL_law_654 (fun c654 => ?_) (fun c654 => ?_)
        · refine go_goto (pc := 659) 1053 (by decide) eL_law_659 ?_
          refine go_ls [2, 3, 4, 5, 6] rfl ?_
          exact k _ _ _ ⟨F', c', fo', sp', pi', sx', pd', th', sm', u', rfl, R'⟩
        · exact absurd (lc_same ((h4 c637).trans (by first | exact if_pos c645 | exact if_neg c645))) c654
  · exact absurd rfl c630
set_option maxRecDepth 100000 in
set_option maxHeartbeats 1000000 in
theorem law_join {x1 x2 x3 x4 : Int32} (hx1 : xs (iv + 1).toNatClampNeg = x1) (hin1 : vp_in (iv + 1) L) (hx2 : xs (iv + 2).toNatClampNeg = x2) (hin2 : vp_in (iv + 2) L) (hx3 : xs (iv + 3).toNatClampNeg = x3) (hin3 : vp_in (iv + 3) L) (hx4 : xs (iv + 4).toNatClampNeg = x4) (hin4 : vp_in (iv + 4) L) (S : SimW D cI cB cL bb L xs A mL_join mY_join [.int x1, .int x2, .int x3, .int x4] Int32.toInt64 (j + 1) es) (k : ∀ (cd : Int32) (o' : Nat → Int64) (es' : va_W), St cI cB cL A cd o' (j + 1) es' → Go (gg D cI cB cL bb L xs) mL_law 7 m (6 * m) 1053 [(4, .int iv), (3, .ref (A 11)), (2, .ref (A 6)), (1, .ref (A 0)), (0, .ref bb)] [] es' Psi) : Go (gg D cI cB cL bb L xs) mL_law 7 (m + 1) (6 * (m + 1)) 662 [(4, .int iv), (3, .ref (A 11)), (2, .ref (A 6)), (1, .ref (A 0)), (0, .ref bb)] [] es Psi := by
  obtain ⟨q, b, es1, es2, o', fs, h1, h2, h3, h4, h5⟩ := S
  obtain ⟨F', c', fo', sp', pi', sx', pd', th', sm', u', rfl, R'⟩ := h5
  refine go_aload_n (pc := 662) 1 3 rfl rfl eL_law_662 ?_
  refine go_aload_n (pc := 663) 0 4 rfl rfl eL_law_663 ?_
  refine go_iload (pc := 664) 4 0 rfl eL_law_664 ?_
  refine go_iconst (pc := 666) (v := 1) (by decide) eL_law_666 ?_
  refine go_iadd (pc := 667) eL_law_667 ?_
  refine go_sldx (pc := 668) hx1 hin1 eL_law_668 ?_
  refine go_aload_n (pc := 669) 0 4 rfl rfl eL_law_669 ?_
  refine go_iload (pc := 670) 4 0 rfl eL_law_670 ?_
  refine go_iconst (pc := 672) (v := 2) (by decide) eL_law_672 ?_
  refine go_iadd (pc := 673) eL_law_673 ?_
  refine go_sldx (pc := 674) hx2 hin2 eL_law_674 ?_
  refine go_aload_n (pc := 675) 0 4 rfl rfl eL_law_675 ?_
  refine go_iload (pc := 676) 4 0 rfl eL_law_676 ?_
  refine go_iconst (pc := 678) (v := 3) (by decide) eL_law_678 ?_
  refine go_iadd (pc := 679) eL_law_679 ?_
  refine go_sldx (pc := 680) hx3 hin3 eL_law_680 ?_
  refine go_aload_n (pc := 681) 0 4 rfl rfl eL_law_681 ?_
  refine go_iload (pc := 682) 4 0 rfl eL_law_682 ?_
  refine go_iconst (pc := 684) (v := 4) (by decide) eL_law_684 ?_
  refine go_iadd (pc := 685) eL_law_685 ?_
  refine go_sldx (pc := 686) hx4 hin4 eL_law_686 ?_
  refine go_aload_n (pc := 687) 3 1 rfl rfl eL_law_687 ?_
  refine go_rW (pc := 688) (mc' := 1) (ms' := 6) (mc'' := m) (ms'' := 6 * m) h1 okL_join lmL_103 eL_law_688 rfl rfl (Nat.le_of_ble_eq_true rfl) (Nat.le_of_ble_eq_true rfl) (by omega) (by omega) ?_
  refine go_istore (pc := 691) (ls' := [(5, _), (4, _), (3, _), (2, _), (1, _), (0, _)]) 5 (by decide) eL_law_691 rfl ?_
  refine go_aload_n (pc := 693) 2 3 rfl rfl eL_law_693 ?_
  refine go_aload_n (pc := 694) 0 5 rfl rfl eL_law_694 ?_
  refine go_iload (pc := 695) 4 1 rfl eL_law_695 ?_
  refine go_iconst (pc := 697) (v := 1) (by decide) eL_law_697 ?_
  refine go_iadd (pc := 698) eL_law_698 ?_
  refine go_sldx (pc := 699) hx1 hin1 eL_law_699 ?_
  refine go_aload_n (pc := 700) 0 5 rfl rfl eL_law_700 ?_
  refine go_iload (pc := 701) 4 1 rfl eL_law_701 ?_
  refine go_iconst (pc := 703) (v := 2) (by decide) eL_law_703 ?_
  refine go_iadd (pc := 704) eL_law_704 ?_
  refine go_sldx (pc := 705) hx2 hin2 eL_law_705 ?_
  refine go_aload_n (pc := 706) 0 5 rfl rfl eL_law_706 ?_
  refine go_iload (pc := 707) 4 1 rfl eL_law_707 ?_
  refine go_iconst (pc := 709) (v := 3) (by decide) eL_law_709 ?_
  refine go_iadd (pc := 710) eL_law_710 ?_
  refine go_sldx (pc := 711) hx3 hin3 eL_law_711 ?_
  refine go_aload_n (pc := 712) 0 5 rfl rfl eL_law_712 ?_
  refine go_iload (pc := 713) 4 1 rfl eL_law_713 ?_
  refine go_iconst (pc := 715) (v := 4) (by decide) eL_law_715 ?_
  refine go_iadd (pc := 716) eL_law_716 ?_
  refine go_sldx (pc := 717) hx4 hin4 eL_law_717 ?_
  refine go_rV (pc := 718) 6 h3 okY_join lmL_105 eL_law_718 rfl h2 rfl rfl rfl (Nat.le_of_ble_eq_true rfl) (Nat.le_of_ble_eq_true rfl) ?_
  refine go_istore (pc := 721) (ls' := [(6, _), (5, _), (4, _), (3, _), (2, _), (1, _), (0, _)]) 6 (by decide) eL_law_721 rfl ?_
  refine go_aload_n (pc := 723) 2 4 rfl rfl eL_law_723 ?_
  refine go_rV (pc := 724) 6 d_thrown okY_thrown lmL_79 eL_law_724 rfl rfl rfl rfl rfl (Nat.le_of_ble_eq_true rfl) (Nat.le_of_ble_eq_true rfl) ?_
  refine go_iload (pc := 727) 5 1 rfl eL_law_727 ?_
  refine go_icmp_eq (pc := 729) 734 (by decide) eL_law_729 (fun c729 => ?_) (fun c729 => ?_)
  · refine go_iload (pc := 734) 5 1 rfl eL_law_734 ?_
    refine go_if_ne (pc := 736) 751 (by decide) eL_law_736 (fun c736 => ?_) (fun c736 => ?_)
    · refine go_goto (pc := 751) 1053 (by decide) eL_law_751 ?_
      refine go_ls [2, 3, 4, 5, 6] rfl ?_
      exact k _ _ _ ⟨F', c', fo', sp', pi', sx', pd', th', sm', u', rfl, R'⟩
    · refine go_aload_n (pc := 739) 3 3 rfl rfl eL_law_739 ?_
      refine go_iconst (pc := 740) (v := 0) (by decide) eL_law_740 ?_
      refine go_lald (pc := 741) 11 2 rfl rfl in01 eL_law_741 ?_
      refine go_iload (pc := 742) 6 0 rfl eL_law_742 ?_
      refine go_i2l (pc := 744) eL_law_744 ?_
      refine go_lcmp (pc := 745) eL_law_745 ?_
      refine go_if_eq (pc := 746) 751 (by decide) eL_law_746 (fun c746 => ?_) (fun c746 => ?_)
      · refine go_goto (pc := 751) 1053 (by decide) eL_law_751 ?_
        refine go_ls [2, 3, 4, 5, 6] rfl ?_
        exact k _ _ _ ⟨F', c', fo', sp', pi', sx', pd', th', sm', u', rfl, R'⟩
      · exact absurd (lc_same (h4 c736)) c746
  · exact absurd rfl c729
set_option maxRecDepth 100000 in
set_option maxHeartbeats 1000000 in
theorem law_take  {F : Nat} {c : Nat → Int32} {fo : Nat → Option Nat} {sp pi : Nat → Bool} {cd : Int32} {sx : Nat} {pd th : Nat → Bool} {sm : Nat → Nat} {u : Nat → Int32} (S : Sim D cI cB cL bb L xs A mX_take mY_take [] [] (j + 1) (wW cI cB cL A F c fo sp pi cd sx pd th sm u)) (k : ∀ (cd : Int32) (o' : Nat → Int64) (es' : va_W), St cI cB cL A cd o' (j + 1) es' → Go (gg D cI cB cL bb L xs) mL_law 7 m (6 * m) 1053 [(4, .int iv), (3, .ref (A 11)), (2, .ref (A 6)), (1, .ref (A 0)), (0, .ref bb)] [] es' Psi) : Go (gg D cI cB cL bb L xs) mL_law 7 (m + 1) (6 * (m + 1)) 754 [(4, .int iv), (3, .ref (A 11)), (2, .ref (A 6)), (1, .ref (A 0)), (0, .ref bb)] [] (wW cI cB cL A F c fo sp pi cd sx pd th sm u o) Psi := by
  obtain ⟨r, es1, h1, h2, h3, h4, h5⟩ := Or.resolve_right S (fun ⟨E, k, b, hk, _⟩ => by cases hk)
  obtain ⟨fs, h6⟩ := h4 o
  obtain ⟨es2, h7, h8⟩ := h5 o
  refine go_aload_n (pc := 754) 1 3 rfl rfl eL_law_754 ?_
  refine go_rV (pc := 755) 0 ((h1 o).deep (n := 6) (by omega)) okX_take lmL_106 eL_law_755 rfl rfl rfl rfl rfl (Nat.le_of_ble_eq_true rfl) (Nat.le_of_ble_eq_true rfl) ?_
  refine go_aload_n (pc := 758) 2 2 rfl rfl eL_law_758 ?_
  refine go_rV (pc := 759) 6 h7 okY_take lmL_109 eL_law_759 rfl h6 rfl rfl rfl (Nat.le_of_ble_eq_true rfl) (Nat.le_of_ble_eq_true rfl) ?_
  refine go_icmp_eq (pc := 762) 1053 (by decide) eL_law_762 (fun c762 => ?_) (fun c762 => ?_)
  · exact go_less (by omega) (by omega) (k _ _ _ h8)
  · exact absurd rfl c762
set_option maxRecDepth 100000 in
set_option maxHeartbeats 1000000 in
theorem law_back {x1 : Int32} (hx1 : xs (iv + 1).toNatClampNeg = x1) (hin1 : vp_in (iv + 1) L) (S : SimW D cI cB cL bb L xs A mL_back mY_back [.int x1] Int32.toInt64 (j + 1) es) (k : ∀ (cd : Int32) (o' : Nat → Int64) (es' : va_W), St cI cB cL A cd o' (j + 1) es' → Go (gg D cI cB cL bb L xs) mL_law 7 m (6 * m) 1053 [(4, .int iv), (3, .ref (A 11)), (2, .ref (A 6)), (1, .ref (A 0)), (0, .ref bb)] [] es' Psi) : Go (gg D cI cB cL bb L xs) mL_law 7 (m + 1) (6 * (m + 1)) 767 [(4, .int iv), (3, .ref (A 11)), (2, .ref (A 6)), (1, .ref (A 0)), (0, .ref bb)] [] es Psi := by
  obtain ⟨q, b, es1, es2, o', fs, h1, h2, h3, h4, h5⟩ := S
  obtain ⟨F', c', fo', sp', pi', sx', pd', th', sm', u', rfl, R'⟩ := h5
  refine go_aload_n (pc := 767) 1 3 rfl rfl eL_law_767 ?_
  refine go_aload_n (pc := 768) 0 4 rfl rfl eL_law_768 ?_
  refine go_iload (pc := 769) 4 0 rfl eL_law_769 ?_
  refine go_iconst (pc := 771) (v := 1) (by decide) eL_law_771 ?_
  refine go_iadd (pc := 772) eL_law_772 ?_
  refine go_sldx (pc := 773) hx1 hin1 eL_law_773 ?_
  refine go_aload_n (pc := 774) 3 1 rfl rfl eL_law_774 ?_
  refine go_rW (pc := 775) (mc' := 1) (ms' := 6) (mc'' := m) (ms'' := 6 * m) h1 okL_back lmL_110 eL_law_775 rfl rfl (Nat.le_of_ble_eq_true rfl) (Nat.le_of_ble_eq_true rfl) (by omega) (by omega) ?_
  refine go_istore (pc := 778) (ls' := [(5, _), (4, _), (3, _), (2, _), (1, _), (0, _)]) 5 (by decide) eL_law_778 rfl ?_
  refine go_aload_n (pc := 780) 2 3 rfl rfl eL_law_780 ?_
  refine go_aload_n (pc := 781) 0 5 rfl rfl eL_law_781 ?_
  refine go_iload (pc := 782) 4 1 rfl eL_law_782 ?_
  refine go_iconst (pc := 784) (v := 1) (by decide) eL_law_784 ?_
  refine go_iadd (pc := 785) eL_law_785 ?_
  refine go_sldx (pc := 786) hx1 hin1 eL_law_786 ?_
  refine go_rV (pc := 787) 6 h3 okY_back lmL_112 eL_law_787 rfl h2 rfl rfl rfl (Nat.le_of_ble_eq_true rfl) (Nat.le_of_ble_eq_true rfl) ?_
  refine go_istore (pc := 790) (ls' := [(6, _), (5, _), (4, _), (3, _), (2, _), (1, _), (0, _)]) 6 (by decide) eL_law_790 rfl ?_
  refine go_aload_n (pc := 792) 2 4 rfl rfl eL_law_792 ?_
  refine go_rV (pc := 793) 6 d_thrown okY_thrown lmL_79 eL_law_793 rfl rfl rfl rfl rfl (Nat.le_of_ble_eq_true rfl) (Nat.le_of_ble_eq_true rfl) ?_
  refine go_iload (pc := 796) 5 1 rfl eL_law_796 ?_
  refine go_icmp_eq (pc := 798) 803 (by decide) eL_law_798 (fun c798 => ?_) (fun c798 => ?_)
  · refine go_iload (pc := 803) 5 1 rfl eL_law_803 ?_
    refine go_if_ne (pc := 805) 820 (by decide) eL_law_805 (fun c805 => ?_) (fun c805 => ?_)
    · refine go_goto (pc := 820) 1053 (by decide) eL_law_820 ?_
      refine go_ls [2, 3, 4, 5, 6] rfl ?_
      exact k _ _ _ ⟨F', c', fo', sp', pi', sx', pd', th', sm', u', rfl, R'⟩
    · refine go_aload_n (pc := 808) 3 3 rfl rfl eL_law_808 ?_
      refine go_iconst (pc := 809) (v := 0) (by decide) eL_law_809 ?_
      refine go_lald (pc := 810) 11 2 rfl rfl in01 eL_law_810 ?_
      refine go_iload (pc := 811) 6 0 rfl eL_law_811 ?_
      refine go_i2l (pc := 813) eL_law_813 ?_
      refine go_lcmp (pc := 814) eL_law_814 ?_
      refine go_if_eq (pc := 815) 820 (by decide) eL_law_815 (fun c815 => ?_) (fun c815 => ?_)
      · refine go_goto (pc := 820) 1053 (by decide) eL_law_820 ?_
        refine go_ls [2, 3, 4, 5, 6] rfl ?_
        exact k _ _ _ ⟨F', c', fo', sp', pi', sx', pd', th', sm', u', rfl, R'⟩
      · exact absurd (lc_same (h4 c805)) c815
  · exact absurd rfl c798
set_option maxRecDepth 100000 in
set_option maxHeartbeats 1000000 in
theorem law_drop {x1 : Int32} (hx1 : xs (iv + 1).toNatClampNeg = x1) (hin1 : vp_in (iv + 1) L) (S : SimW D cI cB cL bb L xs A mL_drop mY_drop [.int x1] Int32.toInt64 (j + 1) es) (k : ∀ (cd : Int32) (o' : Nat → Int64) (es' : va_W), St cI cB cL A cd o' (j + 1) es' → Go (gg D cI cB cL bb L xs) mL_law 7 m (6 * m) 1053 [(4, .int iv), (3, .ref (A 11)), (2, .ref (A 6)), (1, .ref (A 0)), (0, .ref bb)] [] es' Psi) : Go (gg D cI cB cL bb L xs) mL_law 7 (m + 1) (6 * (m + 1)) 823 [(4, .int iv), (3, .ref (A 11)), (2, .ref (A 6)), (1, .ref (A 0)), (0, .ref bb)] [] es Psi := by
  obtain ⟨q, b, es1, es2, o', fs, h1, h2, h3, h4, h5⟩ := S
  obtain ⟨F', c', fo', sp', pi', sx', pd', th', sm', u', rfl, R'⟩ := h5
  refine go_aload_n (pc := 823) 1 3 rfl rfl eL_law_823 ?_
  refine go_aload_n (pc := 824) 0 4 rfl rfl eL_law_824 ?_
  refine go_iload (pc := 825) 4 0 rfl eL_law_825 ?_
  refine go_iconst (pc := 827) (v := 1) (by decide) eL_law_827 ?_
  refine go_iadd (pc := 828) eL_law_828 ?_
  refine go_sldx (pc := 829) hx1 hin1 eL_law_829 ?_
  refine go_aload_n (pc := 830) 3 1 rfl rfl eL_law_830 ?_
  refine go_rW (pc := 831) (mc' := 1) (ms' := 6) (mc'' := m) (ms'' := 6 * m) h1 okL_drop lmL_113 eL_law_831 rfl rfl (Nat.le_of_ble_eq_true rfl) (Nat.le_of_ble_eq_true rfl) (by omega) (by omega) ?_
  refine go_istore (pc := 834) (ls' := [(5, _), (4, _), (3, _), (2, _), (1, _), (0, _)]) 5 (by decide) eL_law_834 rfl ?_
  refine go_aload_n (pc := 836) 2 3 rfl rfl eL_law_836 ?_
  refine go_aload_n (pc := 837) 0 5 rfl rfl eL_law_837 ?_
  refine go_iload (pc := 838) 4 1 rfl eL_law_838 ?_
  refine go_iconst (pc := 840) (v := 1) (by decide) eL_law_840 ?_
  refine go_iadd (pc := 841) eL_law_841 ?_
  refine go_sldx (pc := 842) hx1 hin1 eL_law_842 ?_
  refine go_rV (pc := 843) 6 h3 okY_drop lmL_115 eL_law_843 rfl h2 rfl rfl rfl (Nat.le_of_ble_eq_true rfl) (Nat.le_of_ble_eq_true rfl) ?_
  refine go_istore (pc := 846) (ls' := [(6, _), (5, _), (4, _), (3, _), (2, _), (1, _), (0, _)]) 6 (by decide) eL_law_846 rfl ?_
  refine go_aload_n (pc := 848) 2 4 rfl rfl eL_law_848 ?_
  refine go_rV (pc := 849) 6 d_thrown okY_thrown lmL_79 eL_law_849 rfl rfl rfl rfl rfl (Nat.le_of_ble_eq_true rfl) (Nat.le_of_ble_eq_true rfl) ?_
  refine go_iload (pc := 852) 5 1 rfl eL_law_852 ?_
  refine go_icmp_eq (pc := 854) 859 (by decide) eL_law_854 (fun c854 => ?_) (fun c854 => ?_)
  · refine go_iload (pc := 859) 5 1 rfl eL_law_859 ?_
    refine go_if_ne (pc := 861) 876 (by decide) eL_law_861 (fun c861 => ?_) (fun c861 => ?_)
    · refine go_goto (pc := 876) 1053 (by decide) eL_law_876 ?_
      refine go_ls [2, 3, 4, 5, 6] rfl ?_
      exact k _ _ _ ⟨F', c', fo', sp', pi', sx', pd', th', sm', u', rfl, R'⟩
    · refine go_aload_n (pc := 864) 3 3 rfl rfl eL_law_864 ?_
      refine go_iconst (pc := 865) (v := 0) (by decide) eL_law_865 ?_
      refine go_lald (pc := 866) 11 2 rfl rfl in01 eL_law_866 ?_
      refine go_iload (pc := 867) 6 0 rfl eL_law_867 ?_
      refine go_i2l (pc := 869) eL_law_869 ?_
      refine go_lcmp (pc := 870) eL_law_870 ?_
      refine go_if_eq (pc := 871) 876 (by decide) eL_law_871 (fun c871 => ?_) (fun c871 => ?_)
      · refine go_goto (pc := 876) 1053 (by decide) eL_law_876 ?_
        refine go_ls [2, 3, 4, 5, 6] rfl ?_
        exact k _ _ _ ⟨F', c', fo', sp', pi', sx', pd', th', sm', u', rfl, R'⟩
      · exact absurd (lc_same (h4 c861)) c871
  · exact absurd rfl c854
set_option maxRecDepth 100000 in
set_option maxHeartbeats 1000000 in
theorem law_holders {x1 x2 : Int32} (hx1 : xs (iv + 1).toNatClampNeg = x1) (hin1 : vp_in (iv + 1) L) (hx2 : xs (iv + 2).toNatClampNeg = x2) (hin2 : vp_in (iv + 2) L) (S : SimW D cI cB cL bb L xs A mL_holders mY_holders [.int x1, .int x2] Int32.toInt64 (j + 1) es) (k : ∀ (cd : Int32) (o' : Nat → Int64) (es' : va_W), St cI cB cL A cd o' (j + 1) es' → Go (gg D cI cB cL bb L xs) mL_law 7 m (6 * m) 1053 [(4, .int iv), (3, .ref (A 11)), (2, .ref (A 6)), (1, .ref (A 0)), (0, .ref bb)] [] es' Psi) : Go (gg D cI cB cL bb L xs) mL_law 7 (m + 1) (6 * (m + 1)) 879 [(4, .int iv), (3, .ref (A 11)), (2, .ref (A 6)), (1, .ref (A 0)), (0, .ref bb)] [] es Psi := by
  obtain ⟨q, b, es1, es2, o', fs, h1, h2, h3, h4, h5⟩ := S
  obtain ⟨F', c', fo', sp', pi', sx', pd', th', sm', u', rfl, R'⟩ := h5
  refine go_aload_n (pc := 879) 1 3 rfl rfl eL_law_879 ?_
  refine go_aload_n (pc := 880) 0 4 rfl rfl eL_law_880 ?_
  refine go_iload (pc := 881) 4 0 rfl eL_law_881 ?_
  refine go_iconst (pc := 883) (v := 1) (by decide) eL_law_883 ?_
  refine go_iadd (pc := 884) eL_law_884 ?_
  refine go_sldx (pc := 885) hx1 hin1 eL_law_885 ?_
  refine go_aload_n (pc := 886) 0 4 rfl rfl eL_law_886 ?_
  refine go_iload (pc := 887) 4 0 rfl eL_law_887 ?_
  refine go_iconst (pc := 889) (v := 2) (by decide) eL_law_889 ?_
  refine go_iadd (pc := 890) eL_law_890 ?_
  refine go_sldx (pc := 891) hx2 hin2 eL_law_891 ?_
  refine go_aload_n (pc := 892) 3 1 rfl rfl eL_law_892 ?_
  refine go_rW (pc := 893) (mc' := 1) (ms' := 6) (mc'' := m) (ms'' := 6 * m) h1 okL_holders lmL_116 eL_law_893 rfl rfl (Nat.le_of_ble_eq_true rfl) (Nat.le_of_ble_eq_true rfl) (by omega) (by omega) ?_
  refine go_istore (pc := 896) (ls' := [(5, _), (4, _), (3, _), (2, _), (1, _), (0, _)]) 5 (by decide) eL_law_896 rfl ?_
  refine go_aload_n (pc := 898) 2 3 rfl rfl eL_law_898 ?_
  refine go_aload_n (pc := 899) 0 5 rfl rfl eL_law_899 ?_
  refine go_iload (pc := 900) 4 1 rfl eL_law_900 ?_
  refine go_iconst (pc := 902) (v := 1) (by decide) eL_law_902 ?_
  refine go_iadd (pc := 903) eL_law_903 ?_
  refine go_sldx (pc := 904) hx1 hin1 eL_law_904 ?_
  refine go_aload_n (pc := 905) 0 5 rfl rfl eL_law_905 ?_
  refine go_iload (pc := 906) 4 1 rfl eL_law_906 ?_
  refine go_iconst (pc := 908) (v := 2) (by decide) eL_law_908 ?_
  refine go_iadd (pc := 909) eL_law_909 ?_
  refine go_sldx (pc := 910) hx2 hin2 eL_law_910 ?_
  refine go_rV (pc := 911) 6 h3 okY_holders lmL_118 eL_law_911 rfl h2 rfl rfl rfl (Nat.le_of_ble_eq_true rfl) (Nat.le_of_ble_eq_true rfl) ?_
  refine go_istore (pc := 914) (ls' := [(6, _), (5, _), (4, _), (3, _), (2, _), (1, _), (0, _)]) 6 (by decide) eL_law_914 rfl ?_
  refine go_aload_n (pc := 916) 2 4 rfl rfl eL_law_916 ?_
  refine go_rV (pc := 917) 6 d_thrown okY_thrown lmL_79 eL_law_917 rfl rfl rfl rfl rfl (Nat.le_of_ble_eq_true rfl) (Nat.le_of_ble_eq_true rfl) ?_
  refine go_iload (pc := 920) 5 1 rfl eL_law_920 ?_
  refine go_icmp_eq (pc := 922) 927 (by decide) eL_law_922 (fun c922 => ?_) (fun c922 => ?_)
  · refine go_iload (pc := 927) 5 1 rfl eL_law_927 ?_
    refine go_if_ne (pc := 929) 944 (by decide) eL_law_929 (fun c929 => ?_) (fun c929 => ?_)
    · refine go_goto (pc := 944) 1053 (by decide) eL_law_944 ?_
      refine go_ls [2, 3, 4, 5, 6] rfl ?_
      exact k _ _ _ ⟨F', c', fo', sp', pi', sx', pd', th', sm', u', rfl, R'⟩
    · refine go_aload_n (pc := 932) 3 3 rfl rfl eL_law_932 ?_
      refine go_iconst (pc := 933) (v := 0) (by decide) eL_law_933 ?_
      refine go_lald (pc := 934) 11 2 rfl rfl in01 eL_law_934 ?_
      refine go_iload (pc := 935) 6 0 rfl eL_law_935 ?_
      refine go_i2l (pc := 937) eL_law_937 ?_
      refine go_lcmp (pc := 938) eL_law_938 ?_
      refine go_if_eq (pc := 939) 944 (by decide) eL_law_939 (fun c939 => ?_) (fun c939 => ?_)
      · refine go_goto (pc := 944) 1053 (by decide) eL_law_944 ?_
        refine go_ls [2, 3, 4, 5, 6] rfl ?_
        exact k _ _ _ ⟨F', c', fo', sp', pi', sx', pd', th', sm', u', rfl, R'⟩
      · exact absurd (lc_same (h4 c929)) c939
  · exact absurd rfl c922
set_option maxRecDepth 100000 in
set_option maxHeartbeats 1000000 in
theorem law_changed {x1 : Int32} (hx1 : xs (iv + 1).toNatClampNeg = x1) (hin1 : vp_in (iv + 1) L) (S : SimW D cI cB cL bb L xs A mL_changed mY_changed [.int x1] Int32.toInt64 (j + 1) es) (k : ∀ (cd : Int32) (o' : Nat → Int64) (es' : va_W), St cI cB cL A cd o' (j + 1) es' → Go (gg D cI cB cL bb L xs) mL_law 7 m (6 * m) 1053 [(4, .int iv), (3, .ref (A 11)), (2, .ref (A 6)), (1, .ref (A 0)), (0, .ref bb)] [] es' Psi) : Go (gg D cI cB cL bb L xs) mL_law 7 (m + 1) (6 * (m + 1)) 947 [(4, .int iv), (3, .ref (A 11)), (2, .ref (A 6)), (1, .ref (A 0)), (0, .ref bb)] [] es Psi := by
  obtain ⟨q, b, es1, es2, o', fs, h1, h2, h3, h4, h5⟩ := S
  obtain ⟨F', c', fo', sp', pi', sx', pd', th', sm', u', rfl, R'⟩ := h5
  refine go_aload_n (pc := 947) 1 3 rfl rfl eL_law_947 ?_
  refine go_aload_n (pc := 948) 0 4 rfl rfl eL_law_948 ?_
  refine go_iload (pc := 949) 4 0 rfl eL_law_949 ?_
  refine go_iconst (pc := 951) (v := 1) (by decide) eL_law_951 ?_
  refine go_iadd (pc := 952) eL_law_952 ?_
  refine go_sldx (pc := 953) hx1 hin1 eL_law_953 ?_
  refine go_aload_n (pc := 954) 3 1 rfl rfl eL_law_954 ?_
  refine go_rW (pc := 955) (mc' := 1) (ms' := 6) (mc'' := m) (ms'' := 6 * m) h1 okL_changed lmL_119 eL_law_955 rfl rfl (Nat.le_of_ble_eq_true rfl) (Nat.le_of_ble_eq_true rfl) (by omega) (by omega) ?_
  refine go_istore (pc := 958) (ls' := [(5, _), (4, _), (3, _), (2, _), (1, _), (0, _)]) 5 (by decide) eL_law_958 rfl ?_
  refine go_aload_n (pc := 960) 2 3 rfl rfl eL_law_960 ?_
  refine go_aload_n (pc := 961) 0 5 rfl rfl eL_law_961 ?_
  refine go_iload (pc := 962) 4 1 rfl eL_law_962 ?_
  refine go_iconst (pc := 964) (v := 1) (by decide) eL_law_964 ?_
  refine go_iadd (pc := 965) eL_law_965 ?_
  refine go_sldx (pc := 966) hx1 hin1 eL_law_966 ?_
  refine go_rV (pc := 967) 6 h3 okY_changed lmL_121 eL_law_967 rfl h2 rfl rfl rfl (Nat.le_of_ble_eq_true rfl) (Nat.le_of_ble_eq_true rfl) ?_
  refine go_istore (pc := 970) (ls' := [(6, _), (5, _), (4, _), (3, _), (2, _), (1, _), (0, _)]) 6 (by decide) eL_law_970 rfl ?_
  refine go_aload_n (pc := 972) 2 4 rfl rfl eL_law_972 ?_
  refine go_rV (pc := 973) 6 d_thrown okY_thrown lmL_79 eL_law_973 rfl rfl rfl rfl rfl (Nat.le_of_ble_eq_true rfl) (Nat.le_of_ble_eq_true rfl) ?_
  refine go_iload (pc := 976) 5 1 rfl eL_law_976 ?_
  refine go_icmp_eq (pc := 978) 983 (by decide) eL_law_978 (fun c978 => ?_) (fun c978 => ?_)
  · refine go_iload (pc := 983) 5 1 rfl eL_law_983 ?_
    refine go_if_ne (pc := 985) 1000 (by decide) eL_law_985 (fun c985 => ?_) (fun c985 => ?_)
    · refine go_goto (pc := 1000) 1053 (by decide) eL_law_1000 ?_
      refine go_ls [2, 3, 4, 5, 6] rfl ?_
      exact k _ _ _ ⟨F', c', fo', sp', pi', sx', pd', th', sm', u', rfl, R'⟩
    · refine go_aload_n (pc := 988) 3 3 rfl rfl eL_law_988 ?_
      refine go_iconst (pc := 989) (v := 0) (by decide) eL_law_989 ?_
      refine go_lald (pc := 990) 11 2 rfl rfl in01 eL_law_990 ?_
      refine go_iload (pc := 991) 6 0 rfl eL_law_991 ?_
      refine go_i2l (pc := 993) eL_law_993 ?_
      refine go_lcmp (pc := 994) eL_law_994 ?_
      refine go_if_eq (pc := 995) 1000 (by decide) eL_law_995 (fun c995 => ?_) (fun c995 => ?_)
      · refine go_goto (pc := 1000) 1053 (by decide) eL_law_1000 ?_
        refine go_ls [2, 3, 4, 5, 6] rfl ?_
        exact k _ _ _ ⟨F', c', fo', sp', pi', sx', pd', th', sm', u', rfl, R'⟩
      · exact absurd (lc_same (h4 c985)) c995
  · exact absurd rfl c978
set_option maxRecDepth 100000 in
set_option maxHeartbeats 1000000 in
theorem law_count {x1 : Int32} (hx1 : xs (iv + 1).toNatClampNeg = x1) (hin1 : vp_in (iv + 1) L) {F : Nat} {c : Nat → Int32} {fo : Nat → Option Nat} {sp pi : Nat → Bool} {cd : Int32} {sx : Nat} {pd th : Nat → Bool} {sm : Nat → Nat} {u : Nat → Int32} (S : Sim D cI cB cL bb L xs A mX_count mY_count [.int x1] [] (j + 1) (wW cI cB cL A F c fo sp pi cd sx pd th sm u)) (k : ∀ (cd : Int32) (o' : Nat → Int64) (es' : va_W), St cI cB cL A cd o' (j + 1) es' → Go (gg D cI cB cL bb L xs) mL_law 7 m (6 * m) 1053 [(4, .int iv), (3, .ref (A 11)), (2, .ref (A 6)), (1, .ref (A 0)), (0, .ref bb)] [] es' Psi) : Go (gg D cI cB cL bb L xs) mL_law 7 (m + 1) (6 * (m + 1)) 1003 [(4, .int iv), (3, .ref (A 11)), (2, .ref (A 6)), (1, .ref (A 0)), (0, .ref bb)] [] (wW cI cB cL A F c fo sp pi cd sx pd th sm u o) Psi := by
  obtain ⟨r, es1, h1, h2, h3, h4, h5⟩ := Or.resolve_right S (fun ⟨E, k, b, hk, _⟩ => by cases hk)
  obtain ⟨fs, h6⟩ := h4 o
  obtain ⟨es2, h7, h8⟩ := h5 o
  refine go_aload_n (pc := 1003) 1 3 rfl rfl eL_law_1003 ?_
  refine go_aload_n (pc := 1004) 0 4 rfl rfl eL_law_1004 ?_
  refine go_iload (pc := 1005) 4 0 rfl eL_law_1005 ?_
  refine go_iconst (pc := 1007) (v := 1) (by decide) eL_law_1007 ?_
  refine go_iadd (pc := 1008) eL_law_1008 ?_
  refine go_sldx (pc := 1009) hx1 hin1 eL_law_1009 ?_
  refine go_rV (pc := 1010) 0 ((h1 o).deep (n := 6) (by omega)) okX_count lmL_122 eL_law_1010 rfl rfl rfl rfl rfl (Nat.le_of_ble_eq_true rfl) (Nat.le_of_ble_eq_true rfl) ?_
  refine go_aload_n (pc := 1013) 2 2 rfl rfl eL_law_1013 ?_
  refine go_aload_n (pc := 1014) 0 4 rfl rfl eL_law_1014 ?_
  refine go_iload (pc := 1015) 4 0 rfl eL_law_1015 ?_
  refine go_iconst (pc := 1017) (v := 1) (by decide) eL_law_1017 ?_
  refine go_iadd (pc := 1018) eL_law_1018 ?_
  refine go_sldx (pc := 1019) hx1 hin1 eL_law_1019 ?_
  refine go_rV (pc := 1020) 6 h7 okY_count lmL_125 eL_law_1020 rfl h6 rfl rfl rfl (Nat.le_of_ble_eq_true rfl) (Nat.le_of_ble_eq_true rfl) ?_
  refine go_icmp_eq (pc := 1023) 1053 (by decide) eL_law_1023 (fun c1023 => ?_) (fun c1023 => ?_)
  · exact go_less (by omega) (by omega) (k _ _ _ h8)
  · exact absurd rfl c1023
set_option maxRecDepth 100000 in
set_option maxHeartbeats 1000000 in
theorem law_isThere {x1 : Int32} (hx1 : xs (iv + 1).toNatClampNeg = x1) (hin1 : vp_in (iv + 1) L) {F : Nat} {c : Nat → Int32} {fo : Nat → Option Nat} {sp pi : Nat → Bool} {cd : Int32} {sx : Nat} {pd th : Nat → Bool} {sm : Nat → Nat} {u : Nat → Int32} (S : Sim D cI cB cL bb L xs A mX_isThere mY_isThere [.int x1] [] (j + 1) (wW cI cB cL A F c fo sp pi cd sx pd th sm u)) (k : ∀ (cd : Int32) (o' : Nat → Int64) (es' : va_W), St cI cB cL A cd o' (j + 1) es' → Go (gg D cI cB cL bb L xs) mL_law 7 m (6 * m) 1053 [(4, .int iv), (3, .ref (A 11)), (2, .ref (A 6)), (1, .ref (A 0)), (0, .ref bb)] [] es' Psi) : Go (gg D cI cB cL bb L xs) mL_law 7 (m + 1) (6 * (m + 1)) 1028 [(4, .int iv), (3, .ref (A 11)), (2, .ref (A 6)), (1, .ref (A 0)), (0, .ref bb)] [] (wW cI cB cL A F c fo sp pi cd sx pd th sm u o) Psi := by
  obtain ⟨r, es1, h1, h2, h3, h4, h5⟩ := Or.resolve_right S (fun ⟨E, k, b, hk, _⟩ => by cases hk)
  obtain ⟨fs, h6⟩ := h4 o
  obtain ⟨es2, h7, h8⟩ := h5 o
  refine go_aload_n (pc := 1028) 1 3 rfl rfl eL_law_1028 ?_
  refine go_aload_n (pc := 1029) 0 4 rfl rfl eL_law_1029 ?_
  refine go_iload (pc := 1030) 4 0 rfl eL_law_1030 ?_
  refine go_iconst (pc := 1032) (v := 1) (by decide) eL_law_1032 ?_
  refine go_iadd (pc := 1033) eL_law_1033 ?_
  refine go_sldx (pc := 1034) hx1 hin1 eL_law_1034 ?_
  refine go_rV (pc := 1035) 0 ((h1 o).deep (n := 6) (by omega)) okX_isThere lmL_126 eL_law_1035 rfl rfl rfl rfl rfl (Nat.le_of_ble_eq_true rfl) (Nat.le_of_ble_eq_true rfl) ?_
  refine go_aload_n (pc := 1038) 2 2 rfl rfl eL_law_1038 ?_
  refine go_aload_n (pc := 1039) 0 4 rfl rfl eL_law_1039 ?_
  refine go_iload (pc := 1040) 4 0 rfl eL_law_1040 ?_
  refine go_iconst (pc := 1042) (v := 1) (by decide) eL_law_1042 ?_
  refine go_iadd (pc := 1043) eL_law_1043 ?_
  refine go_sldx (pc := 1044) hx1 hin1 eL_law_1044 ?_
  refine go_rV (pc := 1045) 6 h7 okY_isThere lmL_130 eL_law_1045 rfl h6 rfl rfl rfl (Nat.le_of_ble_eq_true rfl) (Nat.le_of_ble_eq_true rfl) ?_
  refine go_icmp_eq (pc := 1048) 1053 (by decide) eL_law_1048 (fun c1048 => ?_) (fun c1048 => ?_)
  · exact go_less (by omega) (by omega) (k _ _ _ h8)
  · exact absurd rfl c1048
set_option maxRecDepth 100000 in
set_option maxHeartbeats 1000000 in
theorem law_loop (hL : L < 2 ^ 30) (hf : ∀ w, Psi (.inl (some (.int 1))) w) : ∀ (m j : Nat) (cd : Int32) (o : Nat → Int64) (es : va_W), L < 5 * j + 1 + 5 * (m + 1) → 5 * j ≤ L → St cI cB cL A cd o j es → Go (gg D cI cB cL bb L xs) mL_law 7 m (6 * m) 33 [(4, .int (nI (5 * j + 1))), (3, .ref (A 11)), (2, .ref (A 6)), (1, .ref (A 0)), (0, .ref bb)] [] es Psi := by
  intro m
  induction m with
  | zero =>
    intro j cd o es hj hjL S
    refine go_iload (pc := 33) 4 0 rfl eL_law_33 ?_
    refine go_aload_n (pc := 35) 0 4 rfl rfl eL_law_35 ?_
    refine go_slenx (pc := 36) eL_law_36 ?_
    refine go_iconst (pc := 37) (v := 5) (by decide) eL_law_37 ?_
    refine go_isub (pc := 38) eL_law_38 ?_
    refine go_icmp_gt (pc := 39) 1059 (by decide) eL_law_39 (fun c39 => ?_) (fun c39 => ?_)
    · refine go_iconst (pc := 1059) (v := 1) (by decide) eL_law_1059 ?_
      exact go_iret (pc := 1060) rfl rfl eL_law_1060 (hf _)
    · have hgo : 5 * j + 1 + 5 ≤ L := by
        apply Classical.byContradiction
        intro hno
        apply c39
        by_cases h5 : 5 ≤ L
        · rw [show (5 : Int32) = nI 5 from rfl, pk_sub h5]
          exact nI_lt (by omega) (by omega)
        · exact Int32.lt_of_lt_of_le (pk_sneg (a := L) (b := 5) (by omega) (by omega)) (nI_pos' (by omega))
      exact absurd hj (by omega)
  | succ m ih =>
    intro j cd o es hj hjL S
    refine go_iload (pc := 33) 4 0 rfl eL_law_33 ?_
    refine go_aload_n (pc := 35) 0 4 rfl rfl eL_law_35 ?_
    refine go_slenx (pc := 36) eL_law_36 ?_
    refine go_iconst (pc := 37) (v := 5) (by decide) eL_law_37 ?_
    refine go_isub (pc := 38) eL_law_38 ?_
    refine go_icmp_gt (pc := 39) 1059 (by decide) eL_law_39 (fun c39 => ?_) (fun c39 => ?_)
    · refine go_iconst (pc := 1059) (v := 1) (by decide) eL_law_1059 ?_
      exact go_iret (pc := 1060) rfl rfl eL_law_1060 (hf _)
    · have hgo : 5 * j + 1 + 5 ≤ L := by
        apply Classical.byContradiction
        intro hno
        apply c39
        by_cases h5 : 5 ≤ L
        · rw [show (5 : Int32) = nI 5 from rfl, pk_sub h5]
          exact nI_lt (by omega) (by omega)
        · exact Int32.lt_of_lt_of_le (pk_sneg (a := L) (b := 5) (by omega) (by omega)) (nI_pos' (by omega))
      obtain ⟨F, c, fo, sp, pi, sx, pd, th, sm, u, rfl, R⟩ := S
      have hN : j < 2 ^ 30 := by omega
      have hin0 : vp_in (nI (5 * j + 1)) L := vp_in_nI (by omega) (by omega)
      have hin1 : vp_in (nI (5 * j + 1) + 1) L := by rw [show (1 : Int32) = nI 1 from rfl, nI_add]; exact vp_in_nI (by omega) (by omega)
      have hin2 : vp_in (nI (5 * j + 1) + 2) L := by rw [show (2 : Int32) = nI 2 from rfl, nI_add]; exact vp_in_nI (by omega) (by omega)
      have hin3 : vp_in (nI (5 * j + 1) + 3) L := by rw [show (3 : Int32) = nI 3 from rfl, nI_add]; exact vp_in_nI (by omega) (by omega)
      have hin4 : vp_in (nI (5 * j + 1) + 4) L := by rw [show (4 : Int32) = nI 4 from rfl, nI_add]; exact vp_in_nI (by omega) (by omega)
      have k : ∀ (cd : Int32) (o' : Nat → Int64) (es' : va_W), St cI cB cL A cd o' (j + 1) es' → Go (gg D cI cB cL bb L xs) mL_law 7 m (6 * m) 1053 [(4, .int (nI (5 * j + 1))), (3, .ref (A 11)), (2, .ref (A 6)), (1, .ref (A 0)), (0, .ref bb)] [] es' Psi := by
        intro cd o' es' S'
        refine go_iinc (pc := 1053) (z := 5) (v := nI (5 * (j + 1) + 1)) (ls' := [(4, _), (3, _), (2, _), (1, _), (0, _)]) 4 0 rfl (by rw [show Int32.ofInt 5 = nI 5 from rfl, nI_add, show 5 * (j + 1) + 1 = 5 * j + 1 + 5 from by omega]) (by decide) eL_law_1053 rfl ?_
        refine go_goto (pc := 1056) 33 (by decide) eL_law_1056 ?_
        exact ih (j + 1) cd o' es' (by omega) (by omega) S'
      refine go_aload_n (pc := 42) 0 4 rfl rfl eL_law_42 ?_
      refine go_iload (pc := 43) 4 0 rfl eL_law_43 ?_
      refine go_sldx (pc := 45) rfl hin0 eL_law_45 ?_
      refine go_bipush (pc := 46) (v := 15) (by decide) eL_law_46 ?_
      refine go_iand (pc := 48) eL_law_48 ?_
      obtain ⟨q, hq, eq⟩ := pk_andE (xs (nI (5 * j + 1)).toNatClampNeg) (m := 15) 4 (by decide)
      rw [eq]
      rcases q with _ | _ | _ | _ | _ | _ | _ | _ | _ | _ | _ | _ | _ | _ | _ | _ | q
      · refine go_tin (pc := 49) (off := 79) 128 (by decide) (by decide) (by decide) (by decide) eL_law_49 ?_
        exact law_open  (s_open R hN ) k
      · refine go_tin (pc := 49) (off := 92) 141 (by decide) (by decide) (by decide) (by decide) eL_law_49 ?_
        exact law_fork rfl hin1 (sw_fork _ (s_fork R hN _)) k
      · refine go_tin (pc := 49) (off := 148) 197 (by decide) (by decide) (by decide) (by decide) eL_law_49 ?_
        exact law_close rfl hin1 (sw_close _ (s_close R hN _)) k
      · refine go_tin (pc := 49) (off := 204) 253 (by decide) (by decide) (by decide) (by decide) eL_law_49 ?_
        exact law_map rfl hin1 rfl hin2 rfl hin3 (sw_map _ _ _ (s_map R hN _ _ _)) k
      · refine go_tin (pc := 49) (off := 291) 340 (by decide) (by decide) (by decide) (by decide) eL_law_49 ?_
        exact law_unmap rfl hin1 rfl hin2 (sw_unmap _ _ (s_unmap R hN _ _)) k
      · refine go_tin (pc := 49) (off := 366) 415 (by decide) (by decide) (by decide) (by decide) eL_law_49 ?_
        exact law_read rfl hin1 rfl hin2 (sw_read _ _ (s_read R hN _ _)) k
      · refine go_tin (pc := 49) (off := 434) 483 (by decide) (by decide) (by decide) (by decide) eL_law_49 ?_
        exact law_write rfl hin1 rfl hin2 rfl hin3 (sw_write _ _ _ (s_write R hN _ _ _)) k
      · refine go_tin (pc := 49) (off := 514) 563 (by decide) (by decide) (by decide) (by decide) eL_law_49 ?_
        exact law_lend rfl hin1 rfl hin2 rfl hin3 rfl hin4 (sw_lend _ _ _ _ (s_lend R hN _ _ _ _)) k
      · refine go_tin (pc := 49) (off := 613) 662 (by decide) (by decide) (by decide) (by decide) eL_law_49 ?_
        exact law_join rfl hin1 rfl hin2 rfl hin3 rfl hin4 (sw_join _ _ _ _ (s_join R hN _ _ _ _)) k
      · refine go_tin (pc := 49) (off := 705) 754 (by decide) (by decide) (by decide) (by decide) eL_law_49 ?_
        exact law_take  (s_take R hN ) k
      · refine go_tin (pc := 49) (off := 718) 767 (by decide) (by decide) (by decide) (by decide) eL_law_49 ?_
        exact law_back rfl hin1 (sw_back _ (s_back R hN _)) k
      · refine go_tin (pc := 49) (off := 774) 823 (by decide) (by decide) (by decide) (by decide) eL_law_49 ?_
        exact law_drop rfl hin1 (sw_drop _ (s_drop R hN _)) k
      · refine go_tin (pc := 49) (off := 830) 879 (by decide) (by decide) (by decide) (by decide) eL_law_49 ?_
        exact law_holders rfl hin1 rfl hin2 (sw_holders _ _ (s_holders R hN _ _)) k
      · refine go_tin (pc := 49) (off := 898) 947 (by decide) (by decide) (by decide) (by decide) eL_law_49 ?_
        exact law_changed rfl hin1 (sw_changed _ (s_changed R hN _)) k
      · refine go_tin (pc := 49) (off := 954) 1003 (by decide) (by decide) (by decide) (by decide) eL_law_49 ?_
        exact law_count rfl hin1 (s_count R hN _) k
      · refine go_tin (pc := 49) (off := 979) 1028 (by decide) (by decide) (by decide) (by decide) eL_law_49 ?_
        exact law_isThere rfl hin1 (s_isThere R hN _) k
      · exfalso; omega
set_option maxRecDepth 100000 in
set_option maxHeartbeats 1000000 in
theorem law_all (hL : L < 2 ^ 30) (hf : ∀ w, Psi (.inl (some (.int 1))) w) : Go (gg D cI cB cL bb L xs) mL_law 7 (12 + L / 5) (8936 + 6 * (L / 5)) 0 [(0, .ref bb)] [] [] Psi := by
  obtain ⟨v, hv⟩ := c_cell (D := D) (cI := cI) (cB := cB) (cL := cL) (bb := bb) (xs := xs) (L := L) (by omega)
  obtain ⟨F, hF1, hF60, hx, hy⟩ := clampF v
  refine go_new (pc := 0) (mc' := 11 + L / 5) (ms' := 8930 + 6 * (L / 5)) (ci := 0) [.int 0, .null, .null, .null, .null, .null] hwX tyX tyX_ok clL_8 it_X in_X rfl nfX (by omega) (by omega) eL_law_0 (fun h => ?_)
  refine go_dup (pc := 3) rfl eL_law_3 ?_
  refine go_aload_n (pc := 4) 0 0 rfl rfl eL_law_4 ?_
  refine go_iconst (pc := 5) (v := 0) (by decide) eL_law_5 ?_
  refine go_rS (pc := 6) (hv _ _) okL_cell lmL_58 eL_law_6 rfl rfl (Nat.le_of_ble_eq_true rfl) (Nat.le_of_ble_eq_true rfl) ?_
  refine go_callI (pc := 9) (M' := mX_init) (mc' := 5) (ms' := 1514) (mc'' := 6 + L / 5) (ms'' := 7416 + 6 * (L / 5)) (As := [.int v]) rfl lmL_64 ic_X cc_X rfl rfl rfl rfl ⟨by decide, by decide⟩ (by decide +kernel) (show _ = some 1 by decide +kernel) (by decide) (Nat.le_of_ble_eq_true rfl) (Nat.le_of_ble_eq_true rfl) (by omega) (by omega) eL_law_9 (Psi := fun r w => r = .inl none ∧ ∃ q1 q2 q3 q4 q5 : Nat, w = xW cI cB h q1 q2 q3 q4 q5 F (fun _ => 0) (fun _ => none) (fun _ => false) (fun _ => false) []) ?_ ?_ ?_
  · exact c_init v hF1 hF60 hx (fun q1 q2 q3 q4 q5 => ⟨rfl, q1, q2, q3, q4, q5, rfl⟩)
  rotate_left
  · rintro E w ⟨h1, -⟩
    cases h1
  rintro r w ⟨h1, q1, q2, q3, q4, q5, rfl⟩
  cases h1
  refine go_astore_n (pc := 12) (ls' := [(1, _), (0, _)]) 1 rfl (by decide) eL_law_12 rfl ?_
  refine go_new (pc := 13) (mc' := 5 + L / 5) (ms' := 7409 + 6 * (L / 5)) (ci := 1) [.int 0, .int 0, .int 0, .null, .null, .null, .null] hwY tyY tyY_ok clL_67 it_Y in_Y rfl nfY (by omega) (by omega) eL_law_13 (fun hm => ?_)
  refine go_dup (pc := 16) rfl eL_law_16 ?_
  refine go_aload_n (pc := 17) 0 1 rfl rfl eL_law_17 ?_
  refine go_iconst (pc := 18) (v := 0) (by decide) eL_law_18 ?_
  refine go_rS (pc := 19) (hv _ _) okL_cell lmL_58 eL_law_19 rfl rfl (Nat.le_of_ble_eq_true rfl) (Nat.le_of_ble_eq_true rfl) ?_
  refine go_callI (pc := 22) (M' := mY_init) (mc' := 4) (ms' := 7407) (mc'' := 1 + L / 5) (ms'' := 2 + 6 * (L / 5)) (As := [.int v]) rfl lmL_69 ic_Y cc_Y rfl rfl rfl rfl ⟨by decide, by decide⟩ (by decide +kernel) (show _ = some 1 by decide +kernel) (by decide) (Nat.le_of_ble_eq_true rfl) (Nat.le_of_ble_eq_true rfl) (by omega) (by omega) eL_law_22 (Psi := fun r w => r = .inl none ∧ ∃ z0 z1 z2 z3 z4 z5 : Nat × va_E, [z0, z1, z2, z3, z4, z5] = xW cI cB h q1 q2 q3 q4 q5 F (fun _ => 0) (fun _ => none) (fun _ => false) (fun _ => false) [] ∧ ∃ b1 b2 b3 b4 : Nat, w = zW z0 z1 z2 z3 z4 z5 cI cB hm b1 b2 b3 b4 0 F 0 (va_up (fun _ => false) 0 true) (fun _ => false) (fun _ => 0) (fun _ => 0) []) ?_ ?_ ?_
  · exact d_init v hF1 hF60 hy (fun b1 b2 b3 b4 => ⟨rfl, _, _, _, _, _, _, rfl, b1, b2, b3, b4, rfl⟩)
  rotate_left
  · rintro E w ⟨h1, -⟩
    cases h1
  rintro r w ⟨h1, z0, z1, z2, z3, z4, z5, hz, b1, b2, b3, b4, rfl⟩
  cases h1
  cases hz
  refine go_astore_n (pc := 25) (ls' := [(2, _), (1, _), (0, _)]) 2 rfl (by decide) eL_law_25 rfl ?_
  refine go_iconst (pc := 26) (v := 1) (by decide) eL_law_26 ?_
  refine go_newa (pc := 27) (mc' := L / 5) (ms' := 6 * (L / 5)) (N := 1) (1, .inr (.inl (fun _ => 0))) 2 rfl rfl ar_long (fun _ => rfl) (by decide) (by decide) (by show 1 * _ ≤ _; simp only [componentBytes]; omega) (by omega) (by omega) eL_law_27 (fun ao => ?_)
  refine go_astore_n (pc := 29) (ls' := [(3, _), (2, _), (1, _), (0, _)]) 3 rfl (by decide) eL_law_29 rfl ?_
  refine go_iconst (pc := 30) (v := 1) (by decide) eL_law_30 ?_
  refine go_istore (pc := 31) (ls' := [(4, _), (3, _), (2, _), (1, _), (0, _)]) 4 (by decide) eL_law_31 rfl ?_
  let A : Nat → Nat := fun k => [h, q1, q2, q3, q4, q5, hm, b1, b2, b3, b4, ao].getD k 0
  refine law_loop (A := A) hL hf (L / 5) 0 0 (fun _ => 0) _ (by omega) (by omega) ⟨F, _, _, _, _, 0, _, _, _, _, rfl, ?_⟩
  refine ⟨hF1, hF60, (fun k j h => by cases h), Nat.le_refl 0, fun k => Nat.le_refl 0, ⟨fun k _ => ⟨fun _ => rfl, fun _ => rfl⟩, fun k _ q _ => ⟨fun _ => rfl, fun _ => rfl⟩, (fun k _ f h => by cases h)⟩, fun p hp => ?_, fun s hs => rfl, (fun p hp h => by cases h)⟩
  simp [va_up]
end LAW
