/-! THE LAW: its twenty-four calls -/
set_option maxRecDepth 100000 in
set_option maxHeartbeats 4000000 in
theorem law_0 (l : Launch) (G : gG) {b L : Nat} {xs : Nat → Int32} (hL : L ≤ 3072) {i : Nat} {x3 : Int32} (hi : i + 6 ≤ L) (e3 : x3 = nI i) {d : Int} (hd : d + 6000 ≤ 1000000000) {S : Mem} (h : LE d S) (K : ∀ S2, LE (d + 6000) S2 → mm_V l G RL cL_law 4 ret room_1 600000 7302250 (lXt b L xs) lA lw_Z S2 766 [(0, .ref b), (1, .ref (gad G 0)), (2, .ref (gad G 7)), (3, .int x3)] []) : mm_V l G RL cL_law 4 ret room_1 600000 7302250 (lXt b L xs) lA lw_Z S 144 [(0, .ref b), (1, .ref (gad G 0)), (2, .ref (gad G 7)), (3, .int x3)] [] := by
  obtain ⟨q, kk, Lp, hs, sl, h⟩ := h
  have hg := h.1.1.1
  have hq := h.2.1.1
  have hh := h.2.1.2.1
  refine vv_aload_n (pc := 144) 1 dL_law_144 rfl rfl ?_
  refine vv_aload_n (pc := 145) 0 dL_law_145 rfl rfl ?_
  refine vv_iload_n (pc := 146) 3 dL_law_146 rfl rfl ?_
  refine vv_iconst (pc := 147) (v := 1) dL_law_147 (by decide) ?_
  refine vv_iadd (pc := 148) dL_law_148 ?_
  refine vl_law (pc := 149) (by rw [e3]; exact lw_in (k := 1) hi hL (by decide)) dL_law_149 ?_
  refine vv_aload_n (pc := 150) 0 dL_law_150 rfl rfl ?_
  refine vv_iload_n (pc := 151) 3 dL_law_151 rfl rfl ?_
  refine vv_iconst (pc := 152) (v := 2) dL_law_152 (by decide) ?_
  refine vv_iadd (pc := 153) dL_law_153 ?_
  refine vl_law (pc := 154) (by rw [e3]; exact lw_in (k := 2) hi hL (by decide)) dL_law_154 ?_
  refine vc_Vi (pc := 155) (c_X4_set l G _ hg hq hh _ _) mw_M_L_13 my_X4_set mm_rv_X4 ⟨by decide, by decide⟩ rfl rfl (Nat.le_of_ble_eq_true rfl) dL_law_155 (fun r155 S155 h155 => ?_)
  have hm := LIm_fr h.2.2 (fX_mod h155.2.2.2)
  refine vv_aload_n (pc := 158) 2 dL_law_158 rfl rfl ?_
  refine vv_aload_n (pc := 159) 0 dL_law_159 rfl rfl ?_
  refine vv_iload_n (pc := 160) 3 dL_law_160 rfl rfl ?_
  refine vv_iconst (pc := 161) (v := 1) dL_law_161 (by decide) ?_
  refine vv_iadd (pc := 162) dL_law_162 ?_
  refine vl_law (pc := 163) (by rw [e3]; exact lw_in (k := 1) hi hL (by decide)) dL_law_163 ?_
  refine vv_aload_n (pc := 164) 0 dL_law_164 rfl rfl ?_
  refine vv_iload_n (pc := 165) 3 dL_law_165 rfl rfl ?_
  refine vv_iconst (pc := 166) (v := 2) dL_law_166 (by decide) ?_
  refine vv_iadd (pc := 167) dL_law_167 ?_
  refine vl_law (pc := 168) (by rw [e3]; exact lw_in (k := 2) hi hL (by decide)) dL_law_168 ?_
  refine vc_Vi (pc := 169) (c_X5_set l G _ hg hm.1 hm.2.1 _ _) mw_M_L_17 my_X5_set mm_rv_X5 ⟨by decide, by decide⟩ rfl rfl (Nat.le_of_ble_eq_true rfl) dL_law_169 (fun r169 S169 h169 => ?_)
  refine vv_icmp_eq (pc := 172) (tgt := 766) dL_law_172 (by decide) (fun c172 => ?_) (fun c172 => absurd ((LI_mx h h155 h169 (lk_set h.1.1)).1) c172)
  exact K _ (LI_mx h h155 h169 (lk_set h.1.1)).2
set_option maxRecDepth 100000 in
set_option maxHeartbeats 4000000 in
theorem law_1 (l : Launch) (G : gG) {b L : Nat} {xs : Nat → Int32} (hL : L ≤ 3072) {i : Nat} {x3 : Int32} (hi : i + 6 ≤ L) (e3 : x3 = nI i) {d : Int} (hd : d + 6000 ≤ 1000000000) {S : Mem} (h : LE d S) (K : ∀ S2, LE (d + 6000) S2 → mm_V l G RL cL_law 4 ret room_1 600000 7302250 (lXt b L xs) lA lw_Z S2 766 [(0, .ref b), (1, .ref (gad G 0)), (2, .ref (gad G 7)), (3, .int x3)] []) : mm_V l G RL cL_law 4 ret room_1 600000 7302250 (lXt b L xs) lA lw_Z S 177 [(0, .ref b), (1, .ref (gad G 0)), (2, .ref (gad G 7)), (3, .int x3)] [] := by
  obtain ⟨q, kk, Lp, hs, sl, h⟩ := h
  have hg := h.1.1.1
  have hq := h.2.1.1
  have hh := h.2.1.2.1
  refine vv_aload_n (pc := 177) 1 dL_law_177 rfl rfl ?_
  refine vv_aload_n (pc := 178) 0 dL_law_178 rfl rfl ?_
  refine vv_iload_n (pc := 179) 3 dL_law_179 rfl rfl ?_
  refine vv_iconst (pc := 180) (v := 1) dL_law_180 (by decide) ?_
  refine vv_iadd (pc := 181) dL_law_181 ?_
  refine vl_law (pc := 182) (by rw [e3]; exact lw_in (k := 1) hi hL (by decide)) dL_law_182 ?_
  refine vv_aload_n (pc := 183) 0 dL_law_183 rfl rfl ?_
  refine vv_iload_n (pc := 184) 3 dL_law_184 rfl rfl ?_
  refine vv_iconst (pc := 185) (v := 2) dL_law_185 (by decide) ?_
  refine vv_iadd (pc := 186) dL_law_186 ?_
  refine vl_law (pc := 187) (by rw [e3]; exact lw_in (k := 2) hi hL (by decide)) dL_law_187 ?_
  refine vv_aload_n (pc := 188) 0 dL_law_188 rfl rfl ?_
  refine vv_iload_n (pc := 189) 3 dL_law_189 rfl rfl ?_
  refine vv_iconst (pc := 190) (v := 3) dL_law_190 (by decide) ?_
  refine vv_iadd (pc := 191) dL_law_191 ?_
  refine vl_law (pc := 192) (by rw [e3]; exact lw_in (k := 3) hi hL (by decide)) dL_law_192 ?_
  refine vv_aload_n (pc := 193) 0 dL_law_193 rfl rfl ?_
  refine vv_iload_n (pc := 194) 3 dL_law_194 rfl rfl ?_
  refine vv_iconst (pc := 195) (v := 4) dL_law_195 (by decide) ?_
  refine vv_iadd (pc := 196) dL_law_196 ?_
  refine vl_law (pc := 197) (by rw [e3]; exact lw_in (k := 4) hi hL (by decide)) dL_law_197 ?_
  refine vv_aload_n (pc := 198) 0 dL_law_198 rfl rfl ?_
  refine vv_iload_n (pc := 199) 3 dL_law_199 rfl rfl ?_
  refine vv_iconst (pc := 200) (v := 5) dL_law_200 (by decide) ?_
  refine vv_iadd (pc := 201) dL_law_201 ?_
  refine vl_law (pc := 202) (by rw [e3]; exact lw_in (k := 5) hi hL (by decide)) dL_law_202 ?_
  refine vc_Vi (pc := 203) (c_X4_wire l G _ hg hq hh _ _ _ _ _) mw_M_L_18 my_X4_wire mm_rv_X4 ⟨by decide, by decide⟩ rfl rfl (Nat.le_of_ble_eq_true rfl) dL_law_203 (fun r203 S203 h203 => ?_)
  have hm := LIm_fr h.2.2 (fX_mod h203.2.2.2)
  refine vv_aload_n (pc := 206) 2 dL_law_206 rfl rfl ?_
  refine vv_aload_n (pc := 207) 0 dL_law_207 rfl rfl ?_
  refine vv_iload_n (pc := 208) 3 dL_law_208 rfl rfl ?_
  refine vv_iconst (pc := 209) (v := 1) dL_law_209 (by decide) ?_
  refine vv_iadd (pc := 210) dL_law_210 ?_
  refine vl_law (pc := 211) (by rw [e3]; exact lw_in (k := 1) hi hL (by decide)) dL_law_211 ?_
  refine vv_aload_n (pc := 212) 0 dL_law_212 rfl rfl ?_
  refine vv_iload_n (pc := 213) 3 dL_law_213 rfl rfl ?_
  refine vv_iconst (pc := 214) (v := 2) dL_law_214 (by decide) ?_
  refine vv_iadd (pc := 215) dL_law_215 ?_
  refine vl_law (pc := 216) (by rw [e3]; exact lw_in (k := 2) hi hL (by decide)) dL_law_216 ?_
  refine vv_aload_n (pc := 217) 0 dL_law_217 rfl rfl ?_
  refine vv_iload_n (pc := 218) 3 dL_law_218 rfl rfl ?_
  refine vv_iconst (pc := 219) (v := 3) dL_law_219 (by decide) ?_
  refine vv_iadd (pc := 220) dL_law_220 ?_
  refine vl_law (pc := 221) (by rw [e3]; exact lw_in (k := 3) hi hL (by decide)) dL_law_221 ?_
  refine vv_aload_n (pc := 222) 0 dL_law_222 rfl rfl ?_
  refine vv_iload_n (pc := 223) 3 dL_law_223 rfl rfl ?_
  refine vv_iconst (pc := 224) (v := 4) dL_law_224 (by decide) ?_
  refine vv_iadd (pc := 225) dL_law_225 ?_
  refine vl_law (pc := 226) (by rw [e3]; exact lw_in (k := 4) hi hL (by decide)) dL_law_226 ?_
  refine vv_aload_n (pc := 227) 0 dL_law_227 rfl rfl ?_
  refine vv_iload_n (pc := 228) 3 dL_law_228 rfl rfl ?_
  refine vv_iconst (pc := 229) (v := 5) dL_law_229 (by decide) ?_
  refine vv_iadd (pc := 230) dL_law_230 ?_
  refine vl_law (pc := 231) (by rw [e3]; exact lw_in (k := 5) hi hL (by decide)) dL_law_231 ?_
  refine vc_Vi (pc := 232) (c_X5_wire l G _ hg hm.1 hm.2.1 _ _ _ _ _) mw_M_L_22 my_X5_wire mm_rv_X5 ⟨by decide, by decide⟩ rfl rfl (Nat.le_of_ble_eq_true rfl) dL_law_232 (fun r232 S232 h232 => ?_)
  refine vv_icmp_eq (pc := 235) (tgt := 766) dL_law_235 (by decide) (fun c235 => ?_) (fun c235 => absurd ((LI_mx h h203 h232 (lk_wire h.1.1)).1) c235)
  exact K _ (LI_mx h h203 h232 (lk_wire h.1.1)).2
set_option maxRecDepth 100000 in
set_option maxHeartbeats 4000000 in
theorem law_2 (l : Launch) (G : gG) {b L : Nat} {xs : Nat → Int32} (hL : L ≤ 3072) {i : Nat} {x3 : Int32} (hi : i + 6 ≤ L) (e3 : x3 = nI i) {d : Int} (hd : d + 6000 ≤ 1000000000) {S : Mem} (h : LE d S) (K : ∀ S2, LE (d + 6000) S2 → mm_V l G RL cL_law 4 ret room_1 600000 7302250 (lXt b L xs) lA lw_Z S2 766 [(0, .ref b), (1, .ref (gad G 0)), (2, .ref (gad G 7)), (3, .int x3)] []) : mm_V l G RL cL_law 4 ret room_1 600000 7302250 (lXt b L xs) lA lw_Z S 240 [(0, .ref b), (1, .ref (gad G 0)), (2, .ref (gad G 7)), (3, .int x3)] [] := by
  obtain ⟨q, kk, Lp, hs, sl, h⟩ := h
  have hg := h.1.1.1
  have hq := h.2.1.1
  have hh := h.2.1.2.1
  refine vv_aload_n (pc := 240) 1 dL_law_240 rfl rfl ?_
  refine vv_aload_n (pc := 241) 0 dL_law_241 rfl rfl ?_
  refine vv_iload_n (pc := 242) 3 dL_law_242 rfl rfl ?_
  refine vv_iconst (pc := 243) (v := 1) dL_law_243 (by decide) ?_
  refine vv_iadd (pc := 244) dL_law_244 ?_
  refine vl_law (pc := 245) (by rw [e3]; exact lw_in (k := 1) hi hL (by decide)) dL_law_245 ?_
  refine vv_aload_n (pc := 246) 0 dL_law_246 rfl rfl ?_
  refine vv_iload_n (pc := 247) 3 dL_law_247 rfl rfl ?_
  refine vv_iconst (pc := 248) (v := 2) dL_law_248 (by decide) ?_
  refine vv_iadd (pc := 249) dL_law_249 ?_
  refine vl_law (pc := 250) (by rw [e3]; exact lw_in (k := 2) hi hL (by decide)) dL_law_250 ?_
  refine vc_Vi (pc := 251) (c_X4_load l G _ hg hq hh _ _) mw_M_L_23 my_X4_load mm_rv_X4 ⟨by decide, by decide⟩ rfl rfl (Nat.le_of_ble_eq_true rfl) dL_law_251 (fun r251 S251 h251 => ?_)
  have hm := LIm_fr h.2.2 (fX_mod h251.2.2.2)
  refine vv_aload_n (pc := 254) 2 dL_law_254 rfl rfl ?_
  refine vv_aload_n (pc := 255) 0 dL_law_255 rfl rfl ?_
  refine vv_iload_n (pc := 256) 3 dL_law_256 rfl rfl ?_
  refine vv_iconst (pc := 257) (v := 1) dL_law_257 (by decide) ?_
  refine vv_iadd (pc := 258) dL_law_258 ?_
  refine vl_law (pc := 259) (by rw [e3]; exact lw_in (k := 1) hi hL (by decide)) dL_law_259 ?_
  refine vv_aload_n (pc := 260) 0 dL_law_260 rfl rfl ?_
  refine vv_iload_n (pc := 261) 3 dL_law_261 rfl rfl ?_
  refine vv_iconst (pc := 262) (v := 2) dL_law_262 (by decide) ?_
  refine vv_iadd (pc := 263) dL_law_263 ?_
  refine vl_law (pc := 264) (by rw [e3]; exact lw_in (k := 2) hi hL (by decide)) dL_law_264 ?_
  refine vc_Vi (pc := 265) (c_X5_load l G _ hg hm.1 hm.2.1 _ _) mw_M_L_26 my_X5_load mm_rv_X5 ⟨by decide, by decide⟩ rfl rfl (Nat.le_of_ble_eq_true rfl) dL_law_265 (fun r265 S265 h265 => ?_)
  refine vv_icmp_eq (pc := 268) (tgt := 766) dL_law_268 (by decide) (fun c268 => ?_) (fun c268 => absurd ((LI_mx h h251 h265 (lk_load h.1.1)).1) c268)
  exact K _ (LI_mx h h251 h265 (lk_load h.1.1)).2
set_option maxRecDepth 100000 in
set_option maxHeartbeats 4000000 in
theorem law_3 (l : Launch) (G : gG) {b L : Nat} {xs : Nat → Int32} (hL : L ≤ 3072) {i : Nat} {x3 : Int32} (hi : i + 6 ≤ L) (e3 : x3 = nI i) {d : Int} (hd : d + 6000 ≤ 1000000000) {S : Mem} (h : LE d S) (K : ∀ S2, LE (d + 6000) S2 → mm_V l G RL cL_law 4 ret room_1 600000 7302250 (lXt b L xs) lA lw_Z S2 766 [(0, .ref b), (1, .ref (gad G 0)), (2, .ref (gad G 7)), (3, .int x3)] []) : mm_V l G RL cL_law 4 ret room_1 600000 7302250 (lXt b L xs) lA lw_Z S 273 [(0, .ref b), (1, .ref (gad G 0)), (2, .ref (gad G 7)), (3, .int x3)] [] := by
  obtain ⟨q, kk, Lp, hs, sl, h⟩ := h
  have hg := h.1.1.1
  have hq := h.2.1.1
  have hh := h.2.1.2.1
  refine vv_aload_n (pc := 273) 1 dL_law_273 rfl rfl ?_
  refine vv_aload_n (pc := 274) 0 dL_law_274 rfl rfl ?_
  refine vv_iload_n (pc := 275) 3 dL_law_275 rfl rfl ?_
  refine vv_iconst (pc := 276) (v := 1) dL_law_276 (by decide) ?_
  refine vv_iadd (pc := 277) dL_law_277 ?_
  refine vl_law (pc := 278) (by rw [e3]; exact lw_in (k := 1) hi hL (by decide)) dL_law_278 ?_
  refine vc_Vi (pc := 279) (c_X4_days l G _ hg hq hh (by have := h.1.1.2.1; omega) _) mw_M_L_27 my_X4_days mm_rv_X4 ⟨by decide, by decide⟩ rfl rfl (Nat.le_of_ble_eq_true rfl) dL_law_279 (fun r279 S279 h279 => ?_)
  have hm := LIm_fr h.2.2 (fX_mod h279.2.2.2)
  refine vv_aload_n (pc := 282) 2 dL_law_282 rfl rfl ?_
  refine vv_aload_n (pc := 283) 0 dL_law_283 rfl rfl ?_
  refine vv_iload_n (pc := 284) 3 dL_law_284 rfl rfl ?_
  refine vv_iconst (pc := 285) (v := 1) dL_law_285 (by decide) ?_
  refine vv_iadd (pc := 286) dL_law_286 ?_
  refine vl_law (pc := 287) (by rw [e3]; exact lw_in (k := 1) hi hL (by decide)) dL_law_287 ?_
  refine vc_Vi (pc := 288) (c_X5_days l G _ hg hm.1 hm.2.1 (by have := h.1.1.2.1; omega) _) mw_M_L_31 my_X5_days mm_rv_X5 ⟨by decide, by decide⟩ rfl rfl (Nat.le_of_ble_eq_true rfl) dL_law_288 (fun r288 S288 h288 => ?_)
  refine vv_icmp_eq (pc := 291) (tgt := 766) dL_law_291 (by decide) (fun c291 => ?_) (fun c291 => absurd ((LI_mx h h279 h288 (lk_days h.1.1 (by omega))).1) c291)
  exact K _ (LI_mx h h279 h288 (lk_days h.1.1 (by omega))).2
set_option maxRecDepth 100000 in
set_option maxHeartbeats 4000000 in
theorem law_4 (l : Launch) (G : gG) {b L : Nat} {xs : Nat → Int32} (hL : L ≤ 3072) {i : Nat} {x3 : Int32} (hi : i + 6 ≤ L) (e3 : x3 = nI i) {d : Int} (hd : d + 6000 ≤ 1000000000) {S : Mem} (h : LE d S) (K : ∀ S2, LE (d + 6000) S2 → mm_V l G RL cL_law 4 ret room_1 600000 7302250 (lXt b L xs) lA lw_Z S2 766 [(0, .ref b), (1, .ref (gad G 0)), (2, .ref (gad G 7)), (3, .int x3)] []) : mm_V l G RL cL_law 4 ret room_1 600000 7302250 (lXt b L xs) lA lw_Z S 296 [(0, .ref b), (1, .ref (gad G 0)), (2, .ref (gad G 7)), (3, .int x3)] [] := by
  obtain ⟨q, kk, Lp, hs, sl, h⟩ := h
  have hg := h.1.1.1
  have hq := h.2.1.1
  have hh := h.2.1.2.1
  refine vv_aload_n (pc := 296) 1 dL_law_296 rfl rfl ?_
  refine vv_aload_n (pc := 297) 0 dL_law_297 rfl rfl ?_
  refine vv_iload_n (pc := 298) 3 dL_law_298 rfl rfl ?_
  refine vv_iconst (pc := 299) (v := 1) dL_law_299 (by decide) ?_
  refine vv_iadd (pc := 300) dL_law_300 ?_
  refine vl_law (pc := 301) (by rw [e3]; exact lw_in (k := 1) hi hL (by decide)) dL_law_301 ?_
  refine vc_Vi (pc := 302) (c_X4_walk l G _ hg hq hh _) mw_M_L_32 my_X4_walk mm_rv_X4 ⟨by decide, by decide⟩ rfl rfl (Nat.le_of_ble_eq_true rfl) dL_law_302 (fun r302 S302 h302 => ?_)
  have hm := LIm_fr h.2.2 (fX_mod h302.2.2.2)
  refine vv_aload_n (pc := 305) 2 dL_law_305 rfl rfl ?_
  refine vv_aload_n (pc := 306) 0 dL_law_306 rfl rfl ?_
  refine vv_iload_n (pc := 307) 3 dL_law_307 rfl rfl ?_
  refine vv_iconst (pc := 308) (v := 1) dL_law_308 (by decide) ?_
  refine vv_iadd (pc := 309) dL_law_309 ?_
  refine vl_law (pc := 310) (by rw [e3]; exact lw_in (k := 1) hi hL (by decide)) dL_law_310 ?_
  refine vc_Vi (pc := 311) (c_X5_walk l G _ hg hm.1 hm.2.1 _) mw_M_L_35 my_X5_walk mm_rv_X5 ⟨by decide, by decide⟩ rfl rfl (Nat.le_of_ble_eq_true rfl) dL_law_311 (fun r311 S311 h311 => ?_)
  refine vv_icmp_eq (pc := 314) (tgt := 766) dL_law_314 (by decide) (fun c314 => ?_) (fun c314 => absurd ((LI_mx h h302 h311 (lk_walk h.1.1)).1) c314)
  exact K _ (LI_mx h h302 h311 (lk_walk h.1.1)).2
set_option maxRecDepth 100000 in
set_option maxHeartbeats 4000000 in
theorem law_5 (l : Launch) (G : gG) {b L : Nat} {xs : Nat → Int32} (hL : L ≤ 3072) {i : Nat} {x3 : Int32} (hi : i + 6 ≤ L) (e3 : x3 = nI i) {d : Int} (hd : d + 6000 ≤ 1000000000) {S : Mem} (h : LE d S) (K : ∀ S2, LE (d + 6000) S2 → mm_V l G RL cL_law 4 ret room_1 600000 7302250 (lXt b L xs) lA lw_Z S2 766 [(0, .ref b), (1, .ref (gad G 0)), (2, .ref (gad G 7)), (3, .int x3)] []) : mm_V l G RL cL_law 4 ret room_1 600000 7302250 (lXt b L xs) lA lw_Z S 319 [(0, .ref b), (1, .ref (gad G 0)), (2, .ref (gad G 7)), (3, .int x3)] [] := by
  obtain ⟨q, kk, Lp, hs, sl, h⟩ := h
  have hg := h.1.1.1
  have hq := h.2.1.1
  have hh := h.2.1.2.1
  refine vv_aload_n (pc := 319) 1 dL_law_319 rfl rfl ?_
  refine vc_Vi (pc := 320) (c_X4_hear l G _ hg hq hh) mw_M_L_36 my_X4_hear mm_rv_X4 ⟨by decide, by decide⟩ rfl rfl (Nat.le_of_ble_eq_true rfl) dL_law_320 (fun r320 S320 h320 => ?_)
  have hm := LIm_fr h.2.2 (fX_mod h320.2.2.2)
  refine vv_aload_n (pc := 323) 2 dL_law_323 rfl rfl ?_
  refine vc_Vi (pc := 324) (c_X5_hear l G _ hg hm.1 hm.2.1) mw_M_L_40 my_X5_hear mm_rv_X5 ⟨by decide, by decide⟩ rfl rfl (Nat.le_of_ble_eq_true rfl) dL_law_324 (fun r324 S324 h324 => ?_)
  refine vv_icmp_eq (pc := 327) (tgt := 766) dL_law_327 (by decide) (fun c327 => ?_) (fun c327 => absurd ((LI_mx h h320 h324 (lk_hear h.1.1)).1) c327)
  exact K _ (LI_mx h h320 h324 (lk_hear h.1.1)).2
set_option maxRecDepth 100000 in
set_option maxHeartbeats 4000000 in
theorem law_6 (l : Launch) (G : gG) {b L : Nat} {xs : Nat → Int32} (hL : L ≤ 3072) {i : Nat} {x3 : Int32} (hi : i + 6 ≤ L) (e3 : x3 = nI i) {d : Int} (hd : d + 6000 ≤ 1000000000) {S : Mem} (h : LE d S) (K : ∀ S2, LE (d + 6000) S2 → mm_V l G RL cL_law 4 ret room_1 600000 7302250 (lXt b L xs) lA lw_Z S2 766 [(0, .ref b), (1, .ref (gad G 0)), (2, .ref (gad G 7)), (3, .int x3)] []) : mm_V l G RL cL_law 4 ret room_1 600000 7302250 (lXt b L xs) lA lw_Z S 332 [(0, .ref b), (1, .ref (gad G 0)), (2, .ref (gad G 7)), (3, .int x3)] [] := by
  obtain ⟨q, kk, Lp, hs, sl, h⟩ := h
  have hg := h.1.1.1
  have hq := h.2.1.1
  have hh := h.2.1.2.1
  refine vv_aload_n (pc := 332) 1 dL_law_332 rfl rfl ?_
  refine vv_aload_n (pc := 333) 0 dL_law_333 rfl rfl ?_
  refine vv_iload_n (pc := 334) 3 dL_law_334 rfl rfl ?_
  refine vv_iconst (pc := 335) (v := 1) dL_law_335 (by decide) ?_
  refine vv_iadd (pc := 336) dL_law_336 ?_
  refine vl_law (pc := 337) (by rw [e3]; exact lw_in (k := 1) hi hL (by decide)) dL_law_337 ?_
  refine vc_Vi (pc := 338) (c_X4_tighten l G _ hg hq hh _) mw_M_L_41 my_X4_tighten mm_rv_X4 ⟨by decide, by decide⟩ rfl rfl (Nat.le_of_ble_eq_true rfl) dL_law_338 (fun r338 S338 h338 => ?_)
  have hm := LIm_fr h.2.2 (fX_mod h338.2.2.2)
  refine vv_aload_n (pc := 341) 2 dL_law_341 rfl rfl ?_
  refine vv_aload_n (pc := 342) 0 dL_law_342 rfl rfl ?_
  refine vv_iload_n (pc := 343) 3 dL_law_343 rfl rfl ?_
  refine vv_iconst (pc := 344) (v := 1) dL_law_344 (by decide) ?_
  refine vv_iadd (pc := 345) dL_law_345 ?_
  refine vl_law (pc := 346) (by rw [e3]; exact lw_in (k := 1) hi hL (by decide)) dL_law_346 ?_
  refine vc_Vi (pc := 347) (c_X5_tighten l G _ hg hm.1 hm.2.1 _) mw_M_L_44 my_X5_tighten mm_rv_X5 ⟨by decide, by decide⟩ rfl rfl (Nat.le_of_ble_eq_true rfl) dL_law_347 (fun r347 S347 h347 => ?_)
  refine vv_icmp_eq (pc := 350) (tgt := 766) dL_law_350 (by decide) (fun c350 => ?_) (fun c350 => absurd ((LI_mx h h338 h347 (lk_tight h.1.1)).1) c350)
  exact K _ (LI_mx h h338 h347 (lk_tight h.1.1)).2
set_option maxRecDepth 100000 in
set_option maxHeartbeats 4000000 in
theorem law_7 (l : Launch) (G : gG) {b L : Nat} {xs : Nat → Int32} (hL : L ≤ 3072) {i : Nat} {x3 : Int32} (hi : i + 6 ≤ L) (e3 : x3 = nI i) {d : Int} (hd : d + 6000 ≤ 1000000000) {S : Mem} (h : LE d S) (K : ∀ S2, LE (d + 6000) S2 → mm_V l G RL cL_law 4 ret room_1 600000 7302250 (lXt b L xs) lA lw_Z S2 766 [(0, .ref b), (1, .ref (gad G 0)), (2, .ref (gad G 7)), (3, .int x3)] []) : mm_V l G RL cL_law 4 ret room_1 600000 7302250 (lXt b L xs) lA lw_Z S 355 [(0, .ref b), (1, .ref (gad G 0)), (2, .ref (gad G 7)), (3, .int x3)] [] := by
  obtain ⟨q, kk, Lp, hs, sl, h⟩ := h
  have hg := h.1.1.1
  have hq := h.2.1.1
  have hh := h.2.1.2.1
  refine vv_aload_n (pc := 355) 1 dL_law_355 rfl rfl ?_
  refine vv_aload_n (pc := 356) 0 dL_law_356 rfl rfl ?_
  refine vv_iload_n (pc := 357) 3 dL_law_357 rfl rfl ?_
  refine vv_iconst (pc := 358) (v := 1) dL_law_358 (by decide) ?_
  refine vv_iadd (pc := 359) dL_law_359 ?_
  refine vl_law (pc := 360) (by rw [e3]; exact lw_in (k := 1) hi hL (by decide)) dL_law_360 ?_
  refine vv_aload_n (pc := 361) 0 dL_law_361 rfl rfl ?_
  refine vv_iload_n (pc := 362) 3 dL_law_362 rfl rfl ?_
  refine vv_iconst (pc := 363) (v := 2) dL_law_363 (by decide) ?_
  refine vv_iadd (pc := 364) dL_law_364 ?_
  refine vl_law (pc := 365) (by rw [e3]; exact lw_in (k := 2) hi hL (by decide)) dL_law_365 ?_
  refine vc_Vi (pc := 366) (c_X4_ofWire l G _ hg hq _ _) mw_M_L_45 my_X4_ofWire mm_rv_X4 ⟨by decide, by decide⟩ rfl rfl (Nat.le_of_ble_eq_true rfl) dL_law_366 (fun r366 S366 h366 => ?_)
  obtain ⟨qS366, h366⟩ := h366
  replace qS366 := qS366.symm
  subst qS366
  have hm := h.2.2
  refine vv_aload_n (pc := 369) 2 dL_law_369 rfl rfl ?_
  refine vv_aload_n (pc := 370) 0 dL_law_370 rfl rfl ?_
  refine vv_iload_n (pc := 371) 3 dL_law_371 rfl rfl ?_
  refine vv_iconst (pc := 372) (v := 1) dL_law_372 (by decide) ?_
  refine vv_iadd (pc := 373) dL_law_373 ?_
  refine vl_law (pc := 374) (by rw [e3]; exact lw_in (k := 1) hi hL (by decide)) dL_law_374 ?_
  refine vv_aload_n (pc := 375) 0 dL_law_375 rfl rfl ?_
  refine vv_iload_n (pc := 376) 3 dL_law_376 rfl rfl ?_
  refine vv_iconst (pc := 377) (v := 2) dL_law_377 (by decide) ?_
  refine vv_iadd (pc := 378) dL_law_378 ?_
  refine vl_law (pc := 379) (by rw [e3]; exact lw_in (k := 2) hi hL (by decide)) dL_law_379 ?_
  refine vc_Vi (pc := 380) (c_X5_ofWire l G _ hg hm.1 _ _) mw_M_L_48 my_X5_ofWire mm_rv_X5 ⟨by decide, by decide⟩ rfl rfl (Nat.le_of_ble_eq_true rfl) dL_law_380 (fun r380 S380 h380 => ?_)
  refine vv_icmp_eq (pc := 383) (tgt := 766) dL_law_383 (by decide) (fun c383 => ?_) (fun c383 => absurd ((h366).trans h380.2.symm) c383)
  exact K _ ⟨q, kk, Lp, hs, sl, LI_mono (LI_rd h (fr_refl 1 S) h380.1) (by omega)⟩
set_option maxRecDepth 100000 in
set_option maxHeartbeats 4000000 in
theorem law_8 (l : Launch) (G : gG) {b L : Nat} {xs : Nat → Int32} (hL : L ≤ 3072) {i : Nat} {x3 : Int32} (hi : i + 6 ≤ L) (e3 : x3 = nI i) {d : Int} (hd : d + 6000 ≤ 1000000000) {S : Mem} (h : LE d S) (K : ∀ S2, LE (d + 6000) S2 → mm_V l G RL cL_law 4 ret room_1 600000 7302250 (lXt b L xs) lA lw_Z S2 766 [(0, .ref b), (1, .ref (gad G 0)), (2, .ref (gad G 7)), (3, .int x3)] []) : mm_V l G RL cL_law 4 ret room_1 600000 7302250 (lXt b L xs) lA lw_Z S 388 [(0, .ref b), (1, .ref (gad G 0)), (2, .ref (gad G 7)), (3, .int x3)] [] := by
  obtain ⟨q, kk, Lp, hs, sl, h⟩ := h
  have hg := h.1.1.1
  have hq := h.2.1.1
  have hh := h.2.1.2.1
  refine vv_aload_n (pc := 388) 1 dL_law_388 rfl rfl ?_
  refine vv_aload_n (pc := 389) 0 dL_law_389 rfl rfl ?_
  refine vv_iload_n (pc := 390) 3 dL_law_390 rfl rfl ?_
  refine vv_iconst (pc := 391) (v := 1) dL_law_391 (by decide) ?_
  refine vv_iadd (pc := 392) dL_law_392 ?_
  refine vl_law (pc := 393) (by rw [e3]; exact lw_in (k := 1) hi hL (by decide)) dL_law_393 ?_
  refine vv_aload_n (pc := 394) 0 dL_law_394 rfl rfl ?_
  refine vv_iload_n (pc := 395) 3 dL_law_395 rfl rfl ?_
  refine vv_iconst (pc := 396) (v := 2) dL_law_396 (by decide) ?_
  refine vv_iadd (pc := 397) dL_law_397 ?_
  refine vl_law (pc := 398) (by rw [e3]; exact lw_in (k := 2) hi hL (by decide)) dL_law_398 ?_
  refine vc_Vi (pc := 399) (c_X4_known l G _ hg hq _ _) mw_M_L_49 my_X4_known mm_rv_X4 ⟨by decide, by decide⟩ rfl rfl (Nat.le_of_ble_eq_true rfl) dL_law_399 (fun r399 S399 h399 => ?_)
  have hm := LIm_fr h.2.2 (fr_mod h399.1)
  refine vv_aload_n (pc := 402) 2 dL_law_402 rfl rfl ?_
  refine vv_aload_n (pc := 403) 0 dL_law_403 rfl rfl ?_
  refine vv_iload_n (pc := 404) 3 dL_law_404 rfl rfl ?_
  refine vv_iconst (pc := 405) (v := 1) dL_law_405 (by decide) ?_
  refine vv_iadd (pc := 406) dL_law_406 ?_
  refine vl_law (pc := 407) (by rw [e3]; exact lw_in (k := 1) hi hL (by decide)) dL_law_407 ?_
  refine vv_aload_n (pc := 408) 0 dL_law_408 rfl rfl ?_
  refine vv_iload_n (pc := 409) 3 dL_law_409 rfl rfl ?_
  refine vv_iconst (pc := 410) (v := 2) dL_law_410 (by decide) ?_
  refine vv_iadd (pc := 411) dL_law_411 ?_
  refine vl_law (pc := 412) (by rw [e3]; exact lw_in (k := 2) hi hL (by decide)) dL_law_412 ?_
  refine vc_Vi (pc := 413) (c_X5_known l G _ hg hm.1 _ _) mw_M_L_52 my_X5_known mm_rv_X5 ⟨by decide, by decide⟩ rfl rfl (Nat.le_of_ble_eq_true rfl) dL_law_413 (fun r413 S413 h413 => ?_)
  refine vv_icmp_eq (pc := 416) (tgt := 766) dL_law_416 (by decide) (fun c416 => ?_) (fun c416 => absurd ((h399.2).trans h413.2.symm) c416)
  exact K _ ⟨q, kk, Lp, hs, sl, LI_mono (LI_rd h h399.1 h413.1) (by omega)⟩
set_option maxRecDepth 100000 in
set_option maxHeartbeats 4000000 in
theorem law_9 (l : Launch) (G : gG) {b L : Nat} {xs : Nat → Int32} (hL : L ≤ 3072) {i : Nat} {x3 : Int32} (hi : i + 6 ≤ L) (e3 : x3 = nI i) {d : Int} (hd : d + 6000 ≤ 1000000000) {S : Mem} (h : LE d S) (K : ∀ S2, LE (d + 6000) S2 → mm_V l G RL cL_law 4 ret room_1 600000 7302250 (lXt b L xs) lA lw_Z S2 766 [(0, .ref b), (1, .ref (gad G 0)), (2, .ref (gad G 7)), (3, .int x3)] []) : mm_V l G RL cL_law 4 ret room_1 600000 7302250 (lXt b L xs) lA lw_Z S 421 [(0, .ref b), (1, .ref (gad G 0)), (2, .ref (gad G 7)), (3, .int x3)] [] := by
  obtain ⟨q, kk, Lp, hs, sl, h⟩ := h
  have hg := h.1.1.1
  have hq := h.2.1.1
  have hh := h.2.1.2.1
  refine vv_aload_n (pc := 421) 1 dL_law_421 rfl rfl ?_
  refine vv_aload_n (pc := 422) 0 dL_law_422 rfl rfl ?_
  refine vv_iload_n (pc := 423) 3 dL_law_423 rfl rfl ?_
  refine vv_iconst (pc := 424) (v := 1) dL_law_424 (by decide) ?_
  refine vv_iadd (pc := 425) dL_law_425 ?_
  refine vl_law (pc := 426) (by rw [e3]; exact lw_in (k := 1) hi hL (by decide)) dL_law_426 ?_
  refine vc_Vi (pc := 427) (c_X4_count l G _ hg hq _) mw_M_L_53 my_X4_count mm_rv_X4 ⟨by decide, by decide⟩ rfl rfl (Nat.le_of_ble_eq_true rfl) dL_law_427 (fun r427 S427 h427 => ?_)
  obtain ⟨qS427, h427⟩ := h427
  replace qS427 := qS427.symm
  subst qS427
  have hm := h.2.2
  refine vv_aload_n (pc := 430) 2 dL_law_430 rfl rfl ?_
  refine vv_aload_n (pc := 431) 0 dL_law_431 rfl rfl ?_
  refine vv_iload_n (pc := 432) 3 dL_law_432 rfl rfl ?_
  refine vv_iconst (pc := 433) (v := 1) dL_law_433 (by decide) ?_
  refine vv_iadd (pc := 434) dL_law_434 ?_
  refine vl_law (pc := 435) (by rw [e3]; exact lw_in (k := 1) hi hL (by decide)) dL_law_435 ?_
  refine vc_Vi (pc := 436) (c_X5_count l G _ hg hm.1 _) mw_M_L_56 my_X5_count mm_rv_X5 ⟨by decide, by decide⟩ rfl rfl (Nat.le_of_ble_eq_true rfl) dL_law_436 (fun r436 S436 h436 => ?_)
  refine vv_icmp_eq (pc := 439) (tgt := 766) dL_law_439 (by decide) (fun c439 => ?_) (fun c439 => absurd ((h427).trans (by rw [h436.2, h.2.1.2.2.1, h.2.2.2.2.1, hh.2.1, h.2.2.2.1.1])) c439)
  exact K _ ⟨q, kk, Lp, hs, sl, LI_mono (LI_rd h (fr_refl 1 S) h436.1) (by omega)⟩
set_option maxRecDepth 100000 in
set_option maxHeartbeats 4000000 in
theorem law_10 (l : Launch) (G : gG) {b L : Nat} {xs : Nat → Int32} (hL : L ≤ 3072) {i : Nat} {x3 : Int32} (hi : i + 6 ≤ L) (e3 : x3 = nI i) {d : Int} (hd : d + 6000 ≤ 1000000000) {S : Mem} (h : LE d S) (K : ∀ S2, LE (d + 6000) S2 → mm_V l G RL cL_law 4 ret room_1 600000 7302250 (lXt b L xs) lA lw_Z S2 766 [(0, .ref b), (1, .ref (gad G 0)), (2, .ref (gad G 7)), (3, .int x3)] []) : mm_V l G RL cL_law 4 ret room_1 600000 7302250 (lXt b L xs) lA lw_Z S 444 [(0, .ref b), (1, .ref (gad G 0)), (2, .ref (gad G 7)), (3, .int x3)] [] := by
  obtain ⟨q, kk, Lp, hs, sl, h⟩ := h
  have hg := h.1.1.1
  have hq := h.2.1.1
  have hh := h.2.1.2.1
  refine vv_aload_n (pc := 444) 1 dL_law_444 rfl rfl ?_
  refine vv_aload_n (pc := 445) 0 dL_law_445 rfl rfl ?_
  refine vv_iload_n (pc := 446) 3 dL_law_446 rfl rfl ?_
  refine vv_iconst (pc := 447) (v := 1) dL_law_447 (by decide) ?_
  refine vv_iadd (pc := 448) dL_law_448 ?_
  refine vl_law (pc := 449) (by rw [e3]; exact lw_in (k := 1) hi hL (by decide)) dL_law_449 ?_
  refine vv_aload_n (pc := 450) 0 dL_law_450 rfl rfl ?_
  refine vv_iload_n (pc := 451) 3 dL_law_451 rfl rfl ?_
  refine vv_iconst (pc := 452) (v := 2) dL_law_452 (by decide) ?_
  refine vv_iadd (pc := 453) dL_law_453 ?_
  refine vl_law (pc := 454) (by rw [e3]; exact lw_in (k := 2) hi hL (by decide)) dL_law_454 ?_
  refine vc_Vi (pc := 455) (c_X4_pitchAt l G _ hg hq _ _) mw_M_L_57 my_X4_pitchAt mm_rv_X4 ⟨by decide, by decide⟩ rfl rfl (Nat.le_of_ble_eq_true rfl) dL_law_455 (fun r455 S455 h455 => ?_)
  obtain ⟨qS455, h455⟩ := h455
  replace qS455 := qS455.symm
  subst qS455
  have hm := h.2.2
  refine vv_aload_n (pc := 458) 2 dL_law_458 rfl rfl ?_
  refine vv_aload_n (pc := 459) 0 dL_law_459 rfl rfl ?_
  refine vv_iload_n (pc := 460) 3 dL_law_460 rfl rfl ?_
  refine vv_iconst (pc := 461) (v := 1) dL_law_461 (by decide) ?_
  refine vv_iadd (pc := 462) dL_law_462 ?_
  refine vl_law (pc := 463) (by rw [e3]; exact lw_in (k := 1) hi hL (by decide)) dL_law_463 ?_
  refine vv_aload_n (pc := 464) 0 dL_law_464 rfl rfl ?_
  refine vv_iload_n (pc := 465) 3 dL_law_465 rfl rfl ?_
  refine vv_iconst (pc := 466) (v := 2) dL_law_466 (by decide) ?_
  refine vv_iadd (pc := 467) dL_law_467 ?_
  refine vl_law (pc := 468) (by rw [e3]; exact lw_in (k := 2) hi hL (by decide)) dL_law_468 ?_
  refine vc_Vi (pc := 469) (c_X5_pitchAt l G _ hg hm.1 _ _) mw_M_L_60 my_X5_pitchAt mm_rv_X5 ⟨by decide, by decide⟩ rfl rfl (Nat.le_of_ble_eq_true rfl) dL_law_469 (fun r469 S469 h469 => ?_)
  refine vv_icmp_eq (pc := 472) (tgt := 766) dL_law_472 (by decide) (fun c472 => ?_) (fun c472 => absurd ((h455).trans h469.2.symm) c472)
  exact K _ ⟨q, kk, Lp, hs, sl, LI_mono (LI_rd h (fr_refl 1 S) (by rw [h469.1]; exact fun _ _ _ => rfl)) (by omega)⟩
set_option maxRecDepth 100000 in
set_option maxHeartbeats 4000000 in
theorem law_11 (l : Launch) (G : gG) {b L : Nat} {xs : Nat → Int32} (hL : L ≤ 3072) {i : Nat} {x3 : Int32} (hi : i + 6 ≤ L) (e3 : x3 = nI i) {d : Int} (hd : d + 6000 ≤ 1000000000) {S : Mem} (h : LE d S) (K : ∀ S2, LE (d + 6000) S2 → mm_V l G RL cL_law 4 ret room_1 600000 7302250 (lXt b L xs) lA lw_Z S2 766 [(0, .ref b), (1, .ref (gad G 0)), (2, .ref (gad G 7)), (3, .int x3)] []) : mm_V l G RL cL_law 4 ret room_1 600000 7302250 (lXt b L xs) lA lw_Z S 477 [(0, .ref b), (1, .ref (gad G 0)), (2, .ref (gad G 7)), (3, .int x3)] [] := by
  obtain ⟨q, kk, Lp, hs, sl, h⟩ := h
  have hg := h.1.1.1
  have hq := h.2.1.1
  have hh := h.2.1.2.1
  refine vv_aload_n (pc := 477) 1 dL_law_477 rfl rfl ?_
  refine vv_aload_n (pc := 478) 0 dL_law_478 rfl rfl ?_
  refine vv_iload_n (pc := 479) 3 dL_law_479 rfl rfl ?_
  refine vv_iconst (pc := 480) (v := 1) dL_law_480 (by decide) ?_
  refine vv_iadd (pc := 481) dL_law_481 ?_
  refine vl_law (pc := 482) (by rw [e3]; exact lw_in (k := 1) hi hL (by decide)) dL_law_482 ?_
  refine vv_aload_n (pc := 483) 0 dL_law_483 rfl rfl ?_
  refine vv_iload_n (pc := 484) 3 dL_law_484 rfl rfl ?_
  refine vv_iconst (pc := 485) (v := 2) dL_law_485 (by decide) ?_
  refine vv_iadd (pc := 486) dL_law_486 ?_
  refine vl_law (pc := 487) (by rw [e3]; exact lw_in (k := 2) hi hL (by decide)) dL_law_487 ?_
  refine vc_Vi (pc := 488) (c_X4_tensionFor l G _ hg hq _ _) mw_M_L_61 my_X4_tensionFor mm_rv_X4 ⟨by decide, by decide⟩ rfl rfl (Nat.le_of_ble_eq_true rfl) dL_law_488 (fun r488 S488 h488 => ?_)
  obtain ⟨qS488, h488⟩ := h488
  replace qS488 := qS488.symm
  subst qS488
  have hm := h.2.2
  refine vv_aload_n (pc := 491) 2 dL_law_491 rfl rfl ?_
  refine vv_aload_n (pc := 492) 0 dL_law_492 rfl rfl ?_
  refine vv_iload_n (pc := 493) 3 dL_law_493 rfl rfl ?_
  refine vv_iconst (pc := 494) (v := 1) dL_law_494 (by decide) ?_
  refine vv_iadd (pc := 495) dL_law_495 ?_
  refine vl_law (pc := 496) (by rw [e3]; exact lw_in (k := 1) hi hL (by decide)) dL_law_496 ?_
  refine vv_aload_n (pc := 497) 0 dL_law_497 rfl rfl ?_
  refine vv_iload_n (pc := 498) 3 dL_law_498 rfl rfl ?_
  refine vv_iconst (pc := 499) (v := 2) dL_law_499 (by decide) ?_
  refine vv_iadd (pc := 500) dL_law_500 ?_
  refine vl_law (pc := 501) (by rw [e3]; exact lw_in (k := 2) hi hL (by decide)) dL_law_501 ?_
  refine vc_Vi (pc := 502) (c_X5_tensionFor l G _ hg hm.1 _ _) mw_M_L_64 my_X5_tensionFor mm_rv_X5 ⟨by decide, by decide⟩ rfl rfl (Nat.le_of_ble_eq_true rfl) dL_law_502 (fun r502 S502 h502 => ?_)
  refine vv_icmp_eq (pc := 505) (tgt := 766) dL_law_505 (by decide) (fun c505 => ?_) (fun c505 => absurd ((h488).trans h502.2.symm) c505)
  exact K _ ⟨q, kk, Lp, hs, sl, LI_mono (LI_rd h (fr_refl 1 S) (by rw [h502.1]; exact fun _ _ _ => rfl)) (by omega)⟩
set_option maxRecDepth 100000 in
set_option maxHeartbeats 4000000 in
theorem law_12 (l : Launch) (G : gG) {b L : Nat} {xs : Nat → Int32} (hL : L ≤ 3072) {i : Nat} {x3 : Int32} (hi : i + 6 ≤ L) (e3 : x3 = nI i) {d : Int} (hd : d + 6000 ≤ 1000000000) {S : Mem} (h : LE d S) (K : ∀ S2, LE (d + 6000) S2 → mm_V l G RL cL_law 4 ret room_1 600000 7302250 (lXt b L xs) lA lw_Z S2 766 [(0, .ref b), (1, .ref (gad G 0)), (2, .ref (gad G 7)), (3, .int x3)] []) : mm_V l G RL cL_law 4 ret room_1 600000 7302250 (lXt b L xs) lA lw_Z S 510 [(0, .ref b), (1, .ref (gad G 0)), (2, .ref (gad G 7)), (3, .int x3)] [] := by
  obtain ⟨q, kk, Lp, hs, sl, h⟩ := h
  have hg := h.1.1.1
  have hq := h.2.1.1
  have hh := h.2.1.2.1
  refine vv_aload_n (pc := 510) 1 dL_law_510 rfl rfl ?_
  refine vv_aload_n (pc := 511) 0 dL_law_511 rfl rfl ?_
  refine vv_iload_n (pc := 512) 3 dL_law_512 rfl rfl ?_
  refine vv_iconst (pc := 513) (v := 1) dL_law_513 (by decide) ?_
  refine vv_iadd (pc := 514) dL_law_514 ?_
  refine vl_law (pc := 515) (by rw [e3]; exact lw_in (k := 1) hi hL (by decide)) dL_law_515 ?_
  refine vc_Vi (pc := 516) (c_X4_fallsWith l G _ hg hq _) mw_M_L_65 my_X4_fallsWith mm_rv_X4 ⟨by decide, by decide⟩ rfl rfl (Nat.le_of_ble_eq_true rfl) dL_law_516 (fun r516 S516 h516 => ?_)
  have hm := LIm_fr h.2.2 (fr_mod h516.1)
  refine vv_aload_n (pc := 519) 2 dL_law_519 rfl rfl ?_
  refine vv_aload_n (pc := 520) 0 dL_law_520 rfl rfl ?_
  refine vv_iload_n (pc := 521) 3 dL_law_521 rfl rfl ?_
  refine vv_iconst (pc := 522) (v := 1) dL_law_522 (by decide) ?_
  refine vv_iadd (pc := 523) dL_law_523 ?_
  refine vl_law (pc := 524) (by rw [e3]; exact lw_in (k := 1) hi hL (by decide)) dL_law_524 ?_
  refine vc_Vi (pc := 525) (c_X5_fallsWith l G _ hg hm.1 _) mw_M_L_68 my_X5_fallsWith mm_rv_X5 ⟨by decide, by decide⟩ rfl rfl (Nat.le_of_ble_eq_true rfl) dL_law_525 (fun r525 S525 h525 => ?_)
  refine vv_icmp_eq (pc := 528) (tgt := 766) dL_law_528 (by decide) (fun c528 => ?_) (fun c528 => absurd ((h516.2).trans h525.2.symm) c528)
  exact K _ ⟨q, kk, Lp, hs, sl, LI_mono (LI_rd h h516.1 h525.1) (by omega)⟩
set_option maxRecDepth 100000 in
set_option maxHeartbeats 4000000 in
theorem law_13 (l : Launch) (G : gG) {b L : Nat} {xs : Nat → Int32} (hL : L ≤ 3072) {i : Nat} {x3 : Int32} (hi : i + 6 ≤ L) (e3 : x3 = nI i) {d : Int} (hd : d + 6000 ≤ 1000000000) {S : Mem} (h : LE d S) (K : ∀ S2, LE (d + 6000) S2 → mm_V l G RL cL_law 4 ret room_1 600000 7302250 (lXt b L xs) lA lw_Z S2 766 [(0, .ref b), (1, .ref (gad G 0)), (2, .ref (gad G 7)), (3, .int x3)] []) : mm_V l G RL cL_law 4 ret room_1 600000 7302250 (lXt b L xs) lA lw_Z S 533 [(0, .ref b), (1, .ref (gad G 0)), (2, .ref (gad G 7)), (3, .int x3)] [] := by
  obtain ⟨q, kk, Lp, hs, sl, h⟩ := h
  have hg := h.1.1.1
  have hq := h.2.1.1
  have hh := h.2.1.2.1
  refine vv_aload_n (pc := 533) 1 dL_law_533 rfl rfl ?_
  refine vv_aload_n (pc := 534) 0 dL_law_534 rfl rfl ?_
  refine vv_iload_n (pc := 535) 3 dL_law_535 rfl rfl ?_
  refine vv_iconst (pc := 536) (v := 1) dL_law_536 (by decide) ?_
  refine vv_iadd (pc := 537) dL_law_537 ?_
  refine vl_law (pc := 538) (by rw [e3]; exact lw_in (k := 1) hi hL (by decide)) dL_law_538 ?_
  refine vc_Vi (pc := 539) (c_X4_mostAt l G _ hg hq _) mw_M_L_69 my_X4_mostAt mm_rv_X4 ⟨by decide, by decide⟩ rfl rfl (Nat.le_of_ble_eq_true rfl) dL_law_539 (fun r539 S539 h539 => ?_)
  have hm := LIm_fr h.2.2 (fr_mod h539.1)
  refine vv_aload_n (pc := 542) 2 dL_law_542 rfl rfl ?_
  refine vv_aload_n (pc := 543) 0 dL_law_543 rfl rfl ?_
  refine vv_iload_n (pc := 544) 3 dL_law_544 rfl rfl ?_
  refine vv_iconst (pc := 545) (v := 1) dL_law_545 (by decide) ?_
  refine vv_iadd (pc := 546) dL_law_546 ?_
  refine vl_law (pc := 547) (by rw [e3]; exact lw_in (k := 1) hi hL (by decide)) dL_law_547 ?_
  refine vc_Vi (pc := 548) (c_X5_mostAt l G _ hg hm.1 _) mw_M_L_72 my_X5_mostAt mm_rv_X5 ⟨by decide, by decide⟩ rfl rfl (Nat.le_of_ble_eq_true rfl) dL_law_548 (fun r548 S548 h548 => ?_)
  refine vv_icmp_eq (pc := 551) (tgt := 766) dL_law_551 (by decide) (fun c551 => ?_) (fun c551 => absurd ((h539.2).trans h548.2.symm) c551)
  exact K _ ⟨q, kk, Lp, hs, sl, LI_mono (LI_rd h h539.1 h548.1) (by omega)⟩
set_option maxRecDepth 100000 in
set_option maxHeartbeats 4000000 in
theorem law_14 (l : Launch) (G : gG) {b L : Nat} {xs : Nat → Int32} (hL : L ≤ 3072) {i : Nat} {x3 : Int32} (hi : i + 6 ≤ L) (e3 : x3 = nI i) {d : Int} (hd : d + 6000 ≤ 1000000000) {S : Mem} (h : LE d S) (K : ∀ S2, LE (d + 6000) S2 → mm_V l G RL cL_law 4 ret room_1 600000 7302250 (lXt b L xs) lA lw_Z S2 766 [(0, .ref b), (1, .ref (gad G 0)), (2, .ref (gad G 7)), (3, .int x3)] []) : mm_V l G RL cL_law 4 ret room_1 600000 7302250 (lXt b L xs) lA lw_Z S 556 [(0, .ref b), (1, .ref (gad G 0)), (2, .ref (gad G 7)), (3, .int x3)] [] := by
  obtain ⟨q, kk, Lp, hs, sl, h⟩ := h
  have hg := h.1.1.1
  have hq := h.2.1.1
  have hh := h.2.1.2.1
  refine vv_aload_n (pc := 556) 1 dL_law_556 rfl rfl ?_
  refine vv_aload_n (pc := 557) 0 dL_law_557 rfl rfl ?_
  refine vv_iload_n (pc := 558) 3 dL_law_558 rfl rfl ?_
  refine vv_iconst (pc := 559) (v := 1) dL_law_559 (by decide) ?_
  refine vv_iadd (pc := 560) dL_law_560 ?_
  refine vl_law (pc := 561) (by rw [e3]; exact lw_in (k := 1) hi hL (by decide)) dL_law_561 ?_
  refine vc_Vi (pc := 562) (c_X4_slackIn l G _ hg hq _) mw_M_L_73 my_X4_slackIn mm_rv_X4 ⟨by decide, by decide⟩ rfl rfl (Nat.le_of_ble_eq_true rfl) dL_law_562 (fun r562 S562 h562 => ?_)
  obtain ⟨qS562, h562⟩ := h562
  replace qS562 := qS562.symm
  subst qS562
  have hm := h.2.2
  refine vv_aload_n (pc := 565) 2 dL_law_565 rfl rfl ?_
  refine vv_aload_n (pc := 566) 0 dL_law_566 rfl rfl ?_
  refine vv_iload_n (pc := 567) 3 dL_law_567 rfl rfl ?_
  refine vv_iconst (pc := 568) (v := 1) dL_law_568 (by decide) ?_
  refine vv_iadd (pc := 569) dL_law_569 ?_
  refine vl_law (pc := 570) (by rw [e3]; exact lw_in (k := 1) hi hL (by decide)) dL_law_570 ?_
  refine vc_Vi (pc := 571) (c_X5_slackIn l G _ hg hm.1 (by have := h.1.1.2.1; omega) _) mw_M_L_76 my_X5_slackIn mm_rv_X5 ⟨by decide, by decide⟩ rfl rfl (Nat.le_of_ble_eq_true rfl) dL_law_571 (fun r571 S571 h571 => ?_)
  refine vv_icmp_eq (pc := 574) (tgt := 766) dL_law_574 (by decide) (fun c574 => ?_) (fun c574 => absurd ((h562).trans h571.2.symm) c574)
  exact K _ ⟨q, kk, Lp, hs, sl, LI_mono (LI_rd h (fr_refl 1 S) h571.1) (by omega)⟩
set_option maxRecDepth 100000 in
set_option maxHeartbeats 4000000 in
theorem law_15 (l : Launch) (G : gG) {b L : Nat} {xs : Nat → Int32} (hL : L ≤ 3072) {i : Nat} {x3 : Int32} (hi : i + 6 ≤ L) (e3 : x3 = nI i) {d : Int} (hd : d + 6000 ≤ 1000000000) {S : Mem} (h : LE d S) (K : ∀ S2, LE (d + 6000) S2 → mm_V l G RL cL_law 4 ret room_1 600000 7302250 (lXt b L xs) lA lw_Z S2 766 [(0, .ref b), (1, .ref (gad G 0)), (2, .ref (gad G 7)), (3, .int x3)] []) : mm_V l G RL cL_law 4 ret room_1 600000 7302250 (lXt b L xs) lA lw_Z S 579 [(0, .ref b), (1, .ref (gad G 0)), (2, .ref (gad G 7)), (3, .int x3)] [] := by
  obtain ⟨q, kk, Lp, hs, sl, h⟩ := h
  have hg := h.1.1.1
  have hq := h.2.1.1
  have hh := h.2.1.2.1
  refine vv_aload_n (pc := 579) 1 dL_law_579 rfl rfl ?_
  refine vc_Vi (pc := 580) (c_X4_round l G _ hg hq) mw_M_L_77 my_X4_round mm_rv_X4 ⟨by decide, by decide⟩ rfl rfl (Nat.le_of_ble_eq_true rfl) dL_law_580 (fun r580 S580 h580 => ?_)
  have hm := LIm_fr h.2.2 (fr_mod h580.1)
  refine vv_aload_n (pc := 583) 2 dL_law_583 rfl rfl ?_
  refine vc_Vi (pc := 584) (c_X5_round l G _ hg hm.1) mw_M_L_80 my_X5_round mm_rv_X5 ⟨by decide, by decide⟩ rfl rfl (Nat.le_of_ble_eq_true rfl) dL_law_584 (fun r584 S584 h584 => ?_)
  refine vv_icmp_eq (pc := 587) (tgt := 766) dL_law_587 (by decide) (fun c587 => ?_) (fun c587 => absurd ((h580.2).trans h584.2.symm) c587)
  exact K _ ⟨q, kk, Lp, hs, sl, LI_mono (LI_rd h h580.1 h584.1) (by omega)⟩
set_option maxRecDepth 100000 in
set_option maxHeartbeats 4000000 in
theorem law_16 (l : Launch) (G : gG) {b L : Nat} {xs : Nat → Int32} (hL : L ≤ 3072) {i : Nat} {x3 : Int32} (hi : i + 6 ≤ L) (e3 : x3 = nI i) {d : Int} (hd : d + 6000 ≤ 1000000000) {S : Mem} (h : LE d S) (K : ∀ S2, LE (d + 6000) S2 → mm_V l G RL cL_law 4 ret room_1 600000 7302250 (lXt b L xs) lA lw_Z S2 766 [(0, .ref b), (1, .ref (gad G 0)), (2, .ref (gad G 7)), (3, .int x3)] []) : mm_V l G RL cL_law 4 ret room_1 600000 7302250 (lXt b L xs) lA lw_Z S 592 [(0, .ref b), (1, .ref (gad G 0)), (2, .ref (gad G 7)), (3, .int x3)] [] := by
  obtain ⟨q, kk, Lp, hs, sl, h⟩ := h
  have hg := h.1.1.1
  have hq := h.2.1.1
  have hh := h.2.1.2.1
  refine vv_aload_n (pc := 592) 1 dL_law_592 rfl rfl ?_
  refine vv_aload_n (pc := 593) 0 dL_law_593 rfl rfl ?_
  refine vv_iload_n (pc := 594) 3 dL_law_594 rfl rfl ?_
  refine vv_iconst (pc := 595) (v := 1) dL_law_595 (by decide) ?_
  refine vv_iadd (pc := 596) dL_law_596 ?_
  refine vl_law (pc := 597) (by rw [e3]; exact lw_in (k := 1) hi hL (by decide)) dL_law_597 ?_
  refine vc_Vi (pc := 598) (c_X4_weakest l G _ hg hq _) mw_M_L_81 my_X4_weakest mm_rv_X4 ⟨by decide, by decide⟩ rfl rfl (Nat.le_of_ble_eq_true rfl) dL_law_598 (fun r598 S598 h598 => ?_)
  have hm := LIm_fr h.2.2 (fr_mod h598.1)
  refine vv_aload_n (pc := 601) 2 dL_law_601 rfl rfl ?_
  refine vv_aload_n (pc := 602) 0 dL_law_602 rfl rfl ?_
  refine vv_iload_n (pc := 603) 3 dL_law_603 rfl rfl ?_
  refine vv_iconst (pc := 604) (v := 1) dL_law_604 (by decide) ?_
  refine vv_iadd (pc := 605) dL_law_605 ?_
  refine vl_law (pc := 606) (by rw [e3]; exact lw_in (k := 1) hi hL (by decide)) dL_law_606 ?_
  refine vc_Vi (pc := 607) (c_X5_weakest l G _ hg hm.1 _) mw_M_L_84 my_X5_weakest mm_rv_X5 ⟨by decide, by decide⟩ rfl rfl (Nat.le_of_ble_eq_true rfl) dL_law_607 (fun r607 S607 h607 => ?_)
  refine vv_icmp_eq (pc := 610) (tgt := 766) dL_law_610 (by decide) (fun c610 => ?_) (fun c610 => absurd ((h598.2).trans h607.2.symm) c610)
  exact K _ ⟨q, kk, Lp, hs, sl, LI_mono (LI_rd h h598.1 h607.1) (by omega)⟩
set_option maxRecDepth 100000 in
set_option maxHeartbeats 4000000 in
theorem law_17 (l : Launch) (G : gG) {b L : Nat} {xs : Nat → Int32} (hL : L ≤ 3072) {i : Nat} {x3 : Int32} (hi : i + 6 ≤ L) (e3 : x3 = nI i) {d : Int} (hd : d + 6000 ≤ 1000000000) {S : Mem} (h : LE d S) (K : ∀ S2, LE (d + 6000) S2 → mm_V l G RL cL_law 4 ret room_1 600000 7302250 (lXt b L xs) lA lw_Z S2 766 [(0, .ref b), (1, .ref (gad G 0)), (2, .ref (gad G 7)), (3, .int x3)] []) : mm_V l G RL cL_law 4 ret room_1 600000 7302250 (lXt b L xs) lA lw_Z S 615 [(0, .ref b), (1, .ref (gad G 0)), (2, .ref (gad G 7)), (3, .int x3)] [] := by
  obtain ⟨q, kk, Lp, hs, sl, h⟩ := h
  have hg := h.1.1.1
  have hq := h.2.1.1
  have hh := h.2.1.2.1
  refine vv_aload_n (pc := 615) 1 dL_law_615 rfl rfl ?_
  refine vv_aload_n (pc := 616) 0 dL_law_616 rfl rfl ?_
  refine vv_iload_n (pc := 617) 3 dL_law_617 rfl rfl ?_
  refine vv_iconst (pc := 618) (v := 1) dL_law_618 (by decide) ?_
  refine vv_iadd (pc := 619) dL_law_619 ?_
  refine vl_law (pc := 620) (by rw [e3]; exact lw_in (k := 1) hi hL (by decide)) dL_law_620 ?_
  refine vv_i2l (pc := 621) dL_law_621 ?_
  refine vv_bipush (pc := 622) (v := 32) dL_law_622 (by decide) ?_
  refine vv_lshl (pc := 624) dL_law_624 rfl ?_
  refine vv_aload_n (pc := 625) 0 dL_law_625 rfl rfl ?_
  refine vv_iload_n (pc := 626) 3 dL_law_626 rfl rfl ?_
  refine vv_iconst (pc := 627) (v := 2) dL_law_627 (by decide) ?_
  refine vv_iadd (pc := 628) dL_law_628 ?_
  refine vl_law (pc := 629) (by rw [e3]; exact lw_in (k := 2) hi hL (by decide)) dL_law_629 ?_
  refine vv_i2l (pc := 630) dL_law_630 ?_
  refine vv_ldc2 (pc := 631) mw_L_L_85 dL_law_631 ?_
  refine vv_land (pc := 634) dL_law_634 ?_
  refine vv_lor (pc := 635) dL_law_635 ?_
  refine vv_topl (fun y1 ey1 => ?_)
  obtain ⟨u, hu, hxu⟩ := wb_of y1
  refine vc_Vi (pc := 636) (c_X4_put l G _ hxu hu h.2.1.2.2.1 h.1.2.2.1) mw_M_L_87 my_X4_put mm_rv_X4 ⟨by decide, by decide⟩ rfl rfl (Nat.le_of_ble_eq_true rfl) dL_law_636 (fun r636 S636 h636 => ?_)
  have e7 : S636 7 7 = nI Lp := by rw [h636.2.2.2 7 7 (Or.inl (by decide)) (by decide)]; exact h.2.2.2.2.1
  refine vv_aload_n (pc := 639) 2 dL_law_639 rfl rfl ?_
  refine vv_aload_n (pc := 640) 0 dL_law_640 rfl rfl ?_
  refine vv_iload_n (pc := 641) 3 dL_law_641 rfl rfl ?_
  refine vv_iconst (pc := 642) (v := 1) dL_law_642 (by decide) ?_
  refine vv_iadd (pc := 643) dL_law_643 ?_
  refine vl_law (pc := 644) (by rw [e3]; exact lw_in (k := 1) hi hL (by decide)) dL_law_644 ?_
  refine vv_i2l (pc := 645) dL_law_645 ?_
  refine vv_bipush (pc := 646) (v := 32) dL_law_646 (by decide) ?_
  refine vv_lshl (pc := 648) dL_law_648 rfl ?_
  refine vv_aload_n (pc := 649) 0 dL_law_649 rfl rfl ?_
  refine vv_iload_n (pc := 650) 3 dL_law_650 rfl rfl ?_
  refine vv_iconst (pc := 651) (v := 2) dL_law_651 (by decide) ?_
  refine vv_iadd (pc := 652) dL_law_652 ?_
  refine vl_law (pc := 653) (by rw [e3]; exact lw_in (k := 2) hi hL (by decide)) dL_law_653 ?_
  refine vv_i2l (pc := 654) dL_law_654 ?_
  refine vv_ldc2 (pc := 655) mw_L_L_85 dL_law_655 ?_
  refine vv_land (pc := 658) dL_law_658 ?_
  refine vv_lor (pc := 659) dL_law_659 ?_
  refine vv_topl (fun y2 ey2 => ?_)
  have hxu2 : y2 = lN u := (ey2.trans ey1.symm).trans hxu
  refine vc_Vi (pc := 660) (c_X5_put l G _ hxu2 hu e7 h.1.2.2.1) mw_M_L_91 my_X5_put mm_rv_X5 ⟨by decide, by decide⟩ rfl rfl (Nat.le_of_ble_eq_true rfl) dL_law_660 (fun r660 S660 h660 => ?_)
  refine vv_icmp_eq (pc := 663) (tgt := 766) dL_law_663 (by decide) (fun c663 => ?_) (fun c663 => absurd ((LI_put h h636 h660).1) c663)
  exact K _ (by obtain ⟨q2, k2, L2, hs2, sl2, hh2⟩ := (LI_put h h636 h660).2; exact ⟨q2, k2, L2, hs2, sl2, LI_mono hh2 (by omega)⟩)
set_option maxRecDepth 100000 in
set_option maxHeartbeats 4000000 in
theorem law_18 (l : Launch) (G : gG) {b L : Nat} {xs : Nat → Int32} (hL : L ≤ 3072) {i : Nat} {x3 : Int32} (hi : i + 6 ≤ L) (e3 : x3 = nI i) {d : Int} (hd : d + 6000 ≤ 1000000000) {S : Mem} (h : LE d S) (K : ∀ S2, LE (d + 6000) S2 → mm_V l G RL cL_law 4 ret room_1 600000 7302250 (lXt b L xs) lA lw_Z S2 766 [(0, .ref b), (1, .ref (gad G 0)), (2, .ref (gad G 7)), (3, .int x3)] []) : mm_V l G RL cL_law 4 ret room_1 600000 7302250 (lXt b L xs) lA lw_Z S 668 [(0, .ref b), (1, .ref (gad G 0)), (2, .ref (gad G 7)), (3, .int x3)] [] := by
  obtain ⟨q, kk, Lp, hs, sl, h⟩ := h
  have hg := h.1.1.1
  have hq := h.2.1.1
  have hh := h.2.1.2.1
  refine vv_aload_n (pc := 668) 1 dL_law_668 rfl rfl ?_
  refine vc_Vi (pc := 669) (c_X4_wipe l G _) mw_M_L_92 my_X4_wipe mm_rv_X4 ⟨by decide, by decide⟩ rfl rfl (Nat.le_of_ble_eq_true rfl) dL_law_669 (fun r669 S669 h669 => ?_)
  refine vv_aload_n (pc := 672) 2 dL_law_672 rfl rfl ?_
  refine vc_Vi (pc := 673) (c_X5_wipe l G _) mw_M_L_95 my_X5_wipe mm_rv_X5 ⟨by decide, by decide⟩ rfl rfl (Nat.le_of_ble_eq_true rfl) dL_law_673 (fun r673 S673 h673 => ?_)
  refine vv_icmp_eq (pc := 676) (tgt := 766) dL_law_676 (by decide) (fun c676 => ?_) (fun c676 => absurd ((h669.1).trans (by rw [h673.1, h669.2, mm_wr_orow _ _ (by decide), h.2.1.2.2.1, h.2.2.2.2.1])) c676)
  exact K _ ⟨q, kk, 0, hs, sl, by rw [h673.2, h669.2]; exact LI_mono (LI_wipe h) (by omega)⟩
set_option maxRecDepth 100000 in
set_option maxHeartbeats 4000000 in
theorem law_19 (l : Launch) (G : gG) {b L : Nat} {xs : Nat → Int32} (hL : L ≤ 3072) {i : Nat} {x3 : Int32} (hi : i + 6 ≤ L) (e3 : x3 = nI i) {d : Int} (hd : d + 6000 ≤ 1000000000) {S : Mem} (h : LE d S) (K : ∀ S2, LE (d + 6000) S2 → mm_V l G RL cL_law 4 ret room_1 600000 7302250 (lXt b L xs) lA lw_Z S2 766 [(0, .ref b), (1, .ref (gad G 0)), (2, .ref (gad G 7)), (3, .int x3)] []) : mm_V l G RL cL_law 4 ret room_1 600000 7302250 (lXt b L xs) lA lw_Z S 681 [(0, .ref b), (1, .ref (gad G 0)), (2, .ref (gad G 7)), (3, .int x3)] [] := by
  obtain ⟨q, kk, Lp, hs, sl, h⟩ := h
  have hg := h.1.1.1
  have hq := h.2.1.1
  have hh := h.2.1.2.1
  refine vv_aload_n (pc := 681) 1 dL_law_681 rfl rfl ?_
  refine vc_Vi (pc := 682) (c_X4_fault l G _ h.2.1.2.2.1 h.1.2.2.1) mw_M_L_96 my_X4_fault mm_rv_X4 ⟨by decide, by decide⟩ rfl rfl (Nat.le_of_ble_eq_true rfl) dL_law_682 (fun r682 S682 h682 => ?_)
  obtain ⟨hr1, fa, fb, fc, eS1⟩ := h682
  have e13 : S682 13 = S 13 := by rw [eS1, mm_pd_o _ _ _ _ (by decide)]
  have e7 : S682 7 7 = nI Lp := by rw [eS1, mm_pd_o _ _ _ _ (by decide)]; exact h.2.2.2.2.1
  refine vv_aload_n (pc := 685) 2 dL_law_685 rfl rfl ?_
  refine vc_Vi (pc := 686) (c_X5_fault l G _ e7 h.1.2.2.1 (by rw [e13]; exact h.1.2.2.2.1)) mw_M_L_99 my_X5_fault mm_rv_X5 ⟨by decide, by decide⟩ rfl rfl (Nat.le_of_ble_eq_true rfl) dL_law_686 (fun r686 S686 h686 => ?_)
  refine vv_icmp_eq (pc := 689) (tgt := 766) dL_law_689 (by decide) (fun c689 => ?_) (fun c689 => absurd (hr1.trans (by rw [h686.1, ff_v, e13, h.1.2.2.2.2.1])) c689)
  exact K _ ⟨q, kk, Lp, hs, sl, LI_mono (LI_fault h ⟨fa, fb, fc, eS1⟩ h686.2) (by omega)⟩
set_option maxRecDepth 100000 in
set_option maxHeartbeats 4000000 in
theorem law_20 (l : Launch) (G : gG) {b L : Nat} {xs : Nat → Int32} (hL : L ≤ 3072) {i : Nat} {x3 : Int32} (hi : i + 6 ≤ L) (e3 : x3 = nI i) {d : Int} (hd : d + 6000 ≤ 1000000000) {S : Mem} (h : LE d S) (K : ∀ S2, LE (d + 6000) S2 → mm_V l G RL cL_law 4 ret room_1 600000 7302250 (lXt b L xs) lA lw_Z S2 766 [(0, .ref b), (1, .ref (gad G 0)), (2, .ref (gad G 7)), (3, .int x3)] []) : mm_V l G RL cL_law 4 ret room_1 600000 7302250 (lXt b L xs) lA lw_Z S 694 [(0, .ref b), (1, .ref (gad G 0)), (2, .ref (gad G 7)), (3, .int x3)] [] := by
  obtain ⟨q, kk, Lp, hs, sl, h⟩ := h
  have hg := h.1.1.1
  have hq := h.2.1.1
  have hh := h.2.1.2.1
  refine vv_aload_n (pc := 694) 1 dL_law_694 rfl rfl ?_
  refine vc_Vi (pc := 695) (c_X4_carryOut l G _ hg hq hh (by have := h.1.1.2.1; omega) h.2.1.2.2.1 h.1.2.2.1) mw_M_L_100 my_X4_carryOut mm_rv_X4 ⟨by decide, by decide⟩ rfl rfl (Nat.le_of_ble_eq_true rfl) dL_law_695 (fun r695 S695 h695 => ?_)
  have hmj : ∀ j, 7 ≤ j → j < 16 → S695 j = S j := by
    obtain ⟨v, p1, p2⟩ := h695
    intro j j1 j2
    by_cases c : op_ff (S 6) Lp v = -6
    · exact (p2 c).2.2.2.2 j (by omega) (by omega)
    · obtain ⟨-, a1, a2, a3, e⟩ := p1 c
      rw [e, mm_pd_o _ _ _ _ (by omega)]
  have hm := LIm_fr h.2.2 hmj
  refine vv_aload_n (pc := 698) 2 dL_law_698 rfl rfl ?_
  refine vc_Vi (pc := 699) (c_X5_carryOut l G _ hg hm.1 hm.2.1 (by have := h.1.1.2.1; omega) hm.2.2.2.1 hm.2.2.1 h.1.2.2.1 (by rw [hmj 13 (by decide) (by decide)]; exact h.1.2.2.2.1)) mw_M_L_103 my_X5_carryOut mm_rv_X5 ⟨by decide, by decide⟩ rfl rfl (Nat.le_of_ble_eq_true rfl) dL_law_699 (fun r699 S699 h699 => ?_)
  refine vv_icmp_eq (pc := 702) (tgt := 766) dL_law_702 (by decide) (fun c702 => ?_) (fun c702 => absurd ((LI_carry hd h h695 h699).1) c702)
  exact K _ (LI_carry hd h h695 h699).2
set_option maxRecDepth 100000 in
set_option maxHeartbeats 4000000 in
theorem law_21 (l : Launch) (G : gG) {b L : Nat} {xs : Nat → Int32} (hL : L ≤ 3072) {i : Nat} {x3 : Int32} (hi : i + 6 ≤ L) (e3 : x3 = nI i) {d : Int} (hd : d + 6000 ≤ 1000000000) {S : Mem} (h : LE d S) (K : ∀ S2, LE (d + 6000) S2 → mm_V l G RL cL_law 4 ret room_1 600000 7302250 (lXt b L xs) lA lw_Z S2 766 [(0, .ref b), (1, .ref (gad G 0)), (2, .ref (gad G 7)), (3, .int x3)] []) : mm_V l G RL cL_law 4 ret room_1 600000 7302250 (lXt b L xs) lA lw_Z S 707 [(0, .ref b), (1, .ref (gad G 0)), (2, .ref (gad G 7)), (3, .int x3)] [] := by
  obtain ⟨q, kk, Lp, hs, sl, h⟩ := h
  have hg := h.1.1.1
  have hq := h.2.1.1
  have hh := h.2.1.2.1
  refine vv_aload_n (pc := 707) 1 dL_law_707 rfl rfl ?_
  refine vc_Vi (pc := 708) (c_X4_undo l G _ hh) mw_M_L_104 my_X4_undo mm_rv_X4 ⟨by decide, by decide⟩ rfl rfl (Nat.le_of_ble_eq_true rfl) dL_law_708 (fun r708 S708 h708 => ?_)
  have hmj : ∀ j, 7 ≤ j → j < 16 → S708 j = S j := by
    intro j j1 j2
    rcases kk with _ | k
    · rw [(h708.1 rfl).2]
    · exact fX_mod (h708.2 k rfl).2.2.2 j j1 j2
  have hm := LIm_fr h.2.2 hmj
  refine vv_aload_n (pc := 711) 2 dL_law_711 rfl rfl ?_
  refine vc_Vi (pc := 712) (c_X5_undo l G _ hm.2.1) mw_M_L_107 my_X5_undo mm_rv_X5 ⟨by decide, by decide⟩ rfl rfl (Nat.le_of_ble_eq_true rfl) dL_law_712 (fun r712 S712 h712 => ?_)
  refine vv_icmp_eq (pc := 715) (tgt := 766) dL_law_715 (by decide) (fun c715 => ?_) (fun c715 => absurd ((LI_undo h h708 h712).1) c715)
  exact K _ (by obtain ⟨q2, k2, L2, hs2, sl2, hh2⟩ := (LI_undo h h708 h712).2; exact ⟨q2, k2, L2, hs2, sl2, LI_mono hh2 (by omega)⟩)
set_option maxRecDepth 100000 in
set_option maxHeartbeats 4000000 in
theorem law_22 (l : Launch) (G : gG) {b L : Nat} {xs : Nat → Int32} (hL : L ≤ 3072) {i : Nat} {x3 : Int32} (hi : i + 6 ≤ L) (e3 : x3 = nI i) {d : Int} (hd : d + 6000 ≤ 1000000000) {S : Mem} (h : LE d S) (K : ∀ S2, LE (d + 6000) S2 → mm_V l G RL cL_law 4 ret room_1 600000 7302250 (lXt b L xs) lA lw_Z S2 766 [(0, .ref b), (1, .ref (gad G 0)), (2, .ref (gad G 7)), (3, .int x3)] []) : mm_V l G RL cL_law 4 ret room_1 600000 7302250 (lXt b L xs) lA lw_Z S 720 [(0, .ref b), (1, .ref (gad G 0)), (2, .ref (gad G 7)), (3, .int x3)] [] := by
  obtain ⟨q, kk, Lp, hs, sl, h⟩ := h
  have hg := h.1.1.1
  have hq := h.2.1.1
  have hh := h.2.1.2.1
  refine vv_aload_n (pc := 720) 1 dL_law_720 rfl rfl ?_
  refine vv_aload_n (pc := 721) 0 dL_law_721 rfl rfl ?_
  refine vv_iload_n (pc := 722) 3 dL_law_722 rfl rfl ?_
  refine vv_iconst (pc := 723) (v := 1) dL_law_723 (by decide) ?_
  refine vv_iadd (pc := 724) dL_law_724 ?_
  refine vl_law (pc := 725) (by rw [e3]; exact lw_in (k := 1) hi hL (by decide)) dL_law_725 ?_
  refine vc_Vi (pc := 726) (c_X4_save l G _ hq _) mw_M_L_108 my_X4_save mm_rv_X4 ⟨by decide, by decide⟩ rfl rfl (Nat.le_of_ble_eq_true rfl) dL_law_726 (fun r726 S726 h726 => ?_)
  refine vv_aload_n (pc := 729) 2 dL_law_729 rfl rfl ?_
  refine vv_aload_n (pc := 730) 0 dL_law_730 rfl rfl ?_
  refine vv_iload_n (pc := 731) 3 dL_law_731 rfl rfl ?_
  refine vv_iconst (pc := 732) (v := 1) dL_law_732 (by decide) ?_
  refine vv_iadd (pc := 733) dL_law_733 ?_
  refine vl_law (pc := 734) (by rw [e3]; exact lw_in (k := 1) hi hL (by decide)) dL_law_734 ?_
  refine vc_Vi (pc := 735) (c_X5_save l G _ _) mw_M_L_111 my_X5_save mm_rv_X5 ⟨by decide, by decide⟩ rfl rfl (Nat.le_of_ble_eq_true rfl) dL_law_735 (fun r735 S735 h735 => ?_)
  refine vv_icmp_eq (pc := 738) (tgt := 766) dL_law_738 (by decide) (fun c738 => ?_) (fun c738 => absurd ((LI_save h h726 h735).1) c738)
  exact K _ (by obtain ⟨q2, k2, L2, hs2, sl2, hh2⟩ := (LI_save h h726 h735).2; exact ⟨q2, k2, L2, hs2, sl2, LI_mono hh2 (by omega)⟩)
set_option maxRecDepth 100000 in
set_option maxHeartbeats 4000000 in
theorem law_23 (l : Launch) (G : gG) {b L : Nat} {xs : Nat → Int32} (hL : L ≤ 3072) {i : Nat} {x3 : Int32} (hi : i + 6 ≤ L) (e3 : x3 = nI i) {d : Int} (hd : d + 6000 ≤ 1000000000) {S : Mem} (h : LE d S) (K : ∀ S2, LE (d + 6000) S2 → mm_V l G RL cL_law 4 ret room_1 600000 7302250 (lXt b L xs) lA lw_Z S2 766 [(0, .ref b), (1, .ref (gad G 0)), (2, .ref (gad G 7)), (3, .int x3)] []) : mm_V l G RL cL_law 4 ret room_1 600000 7302250 (lXt b L xs) lA lw_Z S 743 [(0, .ref b), (1, .ref (gad G 0)), (2, .ref (gad G 7)), (3, .int x3)] [] := by
  obtain ⟨q, kk, Lp, hs, sl, h⟩ := h
  have hg := h.1.1.1
  have hq := h.2.1.1
  have hh := h.2.1.2.1
  refine vv_aload_n (pc := 743) 1 dL_law_743 rfl rfl ?_
  refine vv_aload_n (pc := 744) 0 dL_law_744 rfl rfl ?_
  refine vv_iload_n (pc := 745) 3 dL_law_745 rfl rfl ?_
  refine vv_iconst (pc := 746) (v := 1) dL_law_746 (by decide) ?_
  refine vv_iadd (pc := 747) dL_law_747 ?_
  refine vl_law (pc := 748) (by rw [e3]; exact lw_in (k := 1) hi hL (by decide)) dL_law_748 ?_
  refine vc_Vi (pc := 749) (c_X4_restore l G _ hq hh (xs (x3 + 1).toNatClampNeg) (q2 := sl (xs (x3 + 1).toNatClampNeg).toNatClampNeg) (fun hi2 hn => ⟨h.2.1.2.2.2 _ (in01 hi2) hn, day_err ((h.1.2.2.2.2.2 _ (in01 hi2)).2 hn)⟩)) mw_M_L_112 my_X4_restore mm_rv_X4 ⟨by decide, by decide⟩ rfl rfl (Nat.le_of_ble_eq_true rfl) dL_law_749 (fun r749 S749 h749 => ?_)
  have hmj : ∀ j, 7 ≤ j → j < 16 → S749 j = S j := by
    intro j j1 j2
    by_cases c : sp_in (xs (x3 + 1).toNatClampNeg) 0 1 = 0
    · rw [(h749.1 c).2]
    · by_cases c2 : S 2 (xs (x3 + 1).toNatClampNeg).toNatClampNeg = 0
      · rw [((h749.2 c).1 c2).2]
      · exact fX_mod ((h749.2 c).2 c2).2.2.2 j j1 j2
  have hm := LIm_fr h.2.2 hmj
  refine vv_aload_n (pc := 752) 2 dL_law_752 rfl rfl ?_
  refine vv_aload_n (pc := 753) 0 dL_law_753 rfl rfl ?_
  refine vv_iload_n (pc := 754) 3 dL_law_754 rfl rfl ?_
  refine vv_iconst (pc := 755) (v := 1) dL_law_755 (by decide) ?_
  refine vv_iadd (pc := 756) dL_law_756 ?_
  refine vl_law (pc := 757) (by rw [e3]; exact lw_in (k := 1) hi hL (by decide)) dL_law_757 ?_
  refine vc_Vi (pc := 758) (c_X5_restore l G _ hm.1 hm.2.1 (xs (x3 + 1).toNatClampNeg) (q2 := sl (xs (x3 + 1).toNatClampNeg).toNatClampNeg) (fun hi2 hn => ⟨hm.2.2.2.2 _ (in01 hi2) hn, fun j hj => by rw [← hm.1, h.1.1.2.2 j hj, ((h.1.2.2.2.2.2 _ (in01 hi2)).2 (by rw [(h.1.2.2.2.2.2 _ (in01 hi2)).1, ← hmj 12 (by decide) (by decide)]; exact hn)).2.2 j hj], day_err ((h.1.2.2.2.2.2 _ (in01 hi2)).2 (by rw [(h.1.2.2.2.2.2 _ (in01 hi2)).1, ← hmj 12 (by decide) (by decide)]; exact hn))⟩)) mw_M_L_115 my_X5_restore mm_rv_X5 ⟨by decide, by decide⟩ rfl rfl (Nat.le_of_ble_eq_true rfl) dL_law_758 (fun r758 S758 h758 => ?_)
  refine vv_icmp_eq (pc := 761) (tgt := 766) dL_law_761 (by decide) (fun c761 => ?_) (fun c761 => absurd ((LI_restore h h749 h758).1) c761)
  exact K _ (LI_restore h h749 h758).2
