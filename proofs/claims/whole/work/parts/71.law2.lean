/-! LazyPagesLaw.law: a case of its switch each. -/
theorem SO_of {S : Nat → Prop} {out : Nat} {h h1 : mh_T} (hF : SF S h h1) (hn : ¬ S out) : SO S out h h1 := ⟨fun a ha => hF a (fun q => ha (Or.inl q)), (hF out hn).1, (hF out hn).2.1⟩
theorem md_eq {h : mh_T} {S : Nat → Prop} {mo ka va za sa ki fi la aa : Nat} {V : Nat → List En} {sv : Nat → Bool} {nm nk : Nat} (hm : md h S mo ka va za sa ki fi la aa V sv nm nk) (e : nk = nm) : up1 V 5 (V 4) = V := by
  have h8 := hm.2.2.2.2.2.2.2.1
  have h9 := hm.2.2.2.2.2.2.2.2
  rw [e, h8] at h9
  rw [h9]
  exact up1_id V 5
section GG
variable {G : mv_G} {d i kc ks : Nat} {h : mh_T} {x : Nat} {S : Nat → Prop} {vs sa : Nat} {T : Nat → Nat} {SS : Nat → Nat → Prop} {mo : Nat} {Sm : Nat → Prop} {ka va za sm ki fi la aa out : Nat} {V : Nat → List En} {sv : Nat → Bool} {nm nk : Nat} {R : mv_O → mh_T → Prop}
set_option maxHeartbeats 4000000 in
set_option maxRecDepth 100000 in
theorem g_put (hW : LW h x S vs sa T SS mo Sm ka va za sm ki fi la aa out V sv nm nk) (hi : i + 8 ≤ mg_L G) (hL4 : mg_L G ≤ 4096) (nx : ∀ h' V' sv' nm' nk', LW h' x S vs sa T SS mo Sm ka va za sm ki fi la aa out V' sv' nm' nk' → mv_V G jL_law (d + 11) 1513 [(0, .ref (mg_b G)), (1, .ref x), (2, .ref mo), (3, .ref out), (4, .int (nI i))] [] h' kc ks R) : mv_V G jL_law (d + 11) 140 [(0, .ref (mg_b G)), (1, .ref x), (2, .ref mo), (3, .ref out), (4, .int (nI i))] [] h (kc + 8) (ks + 48) R := by
  obtain ⟨hL, hm, ⟨ho, hl, o0⟩, hn, hn2, hdj⟩ := id hW
  have em := hm.1.1.1
  have ex := hL.1.1
  refine v_aload_n (pc := 140) dL_law_140 rfl rfl ?_
  refine v_aload_n (pc := 141) dL_law_141 rfl rfl ?_
  refine v_iload (pc := 142) dL_law_142 rfl ?_
  refine v_iconst (pc := 144) (v := 1) dL_law_144 (by decide) ?_
  refine v_iadd (pc := 145) dL_law_145 ?_
  refine v_eqi (y := nI (i + 1)) (nI_add i 1) ?_
  refine n_sld (i + 1) (pc := 146) dL_law_146 rfl (by omega) hL4 ?_
  refine v_aload_n (pc := 147) dL_law_147 rfl rfl ?_
  refine v_iload (pc := 148) dL_law_148 rfl ?_
  refine v_iconst (pc := 150) (v := 2) dL_law_150 (by decide) ?_
  refine v_iadd (pc := 151) dL_law_151 ?_
  refine v_eqi (y := nI (i + 2)) (nI_add i 2) ?_
  refine n_sld (i + 2) (pc := 152) dL_law_152 rfl (by omega) hL4 ?_
  refine v_i2l (pc := 153) dL_law_153 ?_
  refine v_bipush (pc := 154) (v := 32) dL_law_154 (by decide) ?_
  refine v_lshl (pc := 156) dL_law_156 ?_
  refine v_aload_n (pc := 157) dL_law_157 rfl rfl ?_
  refine v_iload (pc := 158) dL_law_158 rfl ?_
  refine v_iconst (pc := 160) (v := 3) dL_law_160 (by decide) ?_
  refine v_iadd (pc := 161) dL_law_161 ?_
  refine v_eqi (y := nI (i + 3)) (nI_add i 3) ?_
  refine n_sld (i + 3) (pc := 162) dL_law_162 rfl (by omega) hL4 ?_
  refine v_i2l (pc := 163) dL_law_163 ?_
  refine v_ldc2 (pc := 164) (v := 4294967295) dL_law_164 cL_79 ?_
  refine v_land (pc := 167) dL_law_167 ?_
  refine v_lor (pc := 168) dL_law_168 ?_
  refine v_aload_n (pc := 169) dL_law_169 rfl rfl ?_
  refine v_callS 8 48 (pc := 170) kL_81 dL_law_170 (Nat.le_of_ble_eq_true rfl) (by omega) (by omega) (Nat.le_of_ble_eq_true rfl) (Nat.le_of_ble_eq_true rfl) ?_
  refine z_put hL ho hl hn (fun c h1 u1 u2 u3 => ?_) (fun c => ?_)
  · have hm1 := LW_a hW u2
    have em1 := hm1.1.1.1
    refine v_istore (pc := 173) dL_law_173 rfl rfl (by decide) ?_
    refine v_aload_n (pc := 175) dL_law_175 rfl rfl ?_
    refine v_aload_n (pc := 176) dL_law_176 rfl rfl ?_
    refine v_iload (pc := 177) dL_law_177 rfl ?_
    refine v_iconst (pc := 179) (v := 1) dL_law_179 (by decide) ?_
    refine v_iadd (pc := 180) dL_law_180 ?_
    refine v_eqi (y := nI (i + 1)) (nI_add i 1) ?_
    refine n_sld (i + 1) (pc := 181) dL_law_181 rfl (by omega) hL4 ?_
    refine v_aload_n (pc := 182) dL_law_182 rfl rfl ?_
    refine v_iload (pc := 183) dL_law_183 rfl ?_
    refine v_iconst (pc := 185) (v := 2) dL_law_185 (by decide) ?_
    refine v_iadd (pc := 186) dL_law_186 ?_
    refine v_eqi (y := nI (i + 2)) (nI_add i 2) ?_
    refine n_sld (i + 2) (pc := 187) dL_law_187 rfl (by omega) hL4 ?_
    refine v_i2l (pc := 188) dL_law_188 ?_
    refine v_bipush (pc := 189) (v := 32) dL_law_189 (by decide) ?_
    refine v_lshl (pc := 191) dL_law_191 ?_
    refine v_aload_n (pc := 192) dL_law_192 rfl rfl ?_
    refine v_iload (pc := 193) dL_law_193 rfl ?_
    refine v_iconst (pc := 195) (v := 3) dL_law_195 (by decide) ?_
    refine v_iadd (pc := 196) dL_law_196 ?_
    refine v_eqi (y := nI (i + 3)) (nI_add i 3) ?_
    refine n_sld (i + 3) (pc := 197) dL_law_197 rfl (by omega) hL4 ?_
    refine v_i2l (pc := 198) dL_law_198 ?_
    refine v_ldc2 (pc := 199) (v := 4294967295) dL_law_199 cL_79 ?_
    refine v_land (pc := 202) dL_law_202 ?_
    refine v_lor (pc := 203) dL_law_203 ?_
    refine v_callV 0 0 (pc := 204) kL_86 dL_law_204 rfl (by assumption) (Nat.zero_le _) (Nat.zero_le _) (Nat.le_of_ble_eq_true rfl) (Nat.le_of_ble_eq_true rfl) ?_
    refine w_put hm1 (fun c2 h2 p1 p2 p3 => ?_) (fun c2 => absurd c c2)
    have hW2 := LW_ah hW u2 u1 p1 p2
    have em2 := p1.1.1.1
    have ho2 := hW2.2.2.1.1
    have hl2 := hW2.2.2.1.2.1
    have hv2 := ((p2 out hn2).2.2.2.2.2.2.1 0).trans u3
    refine v_istore (pc := 207) dL_law_207 rfl rfl (by decide) ?_
    refine v_aload_n (pc := 209) dL_law_209 rfl rfl ?_
    refine v_callV 0 0 (pc := 210) kL_87 dL_law_210 rfl (by assumption) (Nat.zero_le _) (Nat.zero_le _) (Nat.le_of_ble_eq_true rfl) (Nat.le_of_ble_eq_true rfl) ?_
    refine w_thrown em2 p3 ?_
    refine v_iload (pc := 213) dL_law_213 rfl ?_
    refine v_icmp_eq 220 (pc := 215) dL_law_215 (by decide) (fun hb => ?_) (fun hb => ?_)
    · refine v_iload (pc := 220) dL_law_220 rfl ?_
      refine v_if_ne 237 (pc := 222) dL_law_222 (by decide) (fun hb => ?_) (fun hb => ?_)
      · exact absurd rfl hb
      · refine v_aload_n (pc := 225) dL_law_225 rfl rfl ?_
        refine v_iconst (pc := 226) (v := 0) dL_law_226 (by decide) ?_
        refine n_lald (0) _ (pc := 227) dL_law_227 (by assumption) (by assumption) rfl (by omega) (by decide) hv2 ?_
        refine v_iload (pc := 228) dL_law_228 rfl ?_
        refine v_i2l (pc := 230) dL_law_230 ?_
        refine v_lcmp (pc := 231) dL_law_231 ?_
        refine v_if_eq 237 (pc := 232) dL_law_232 (by decide) (fun hb => ?_) (fun hb => ?_)
        · refine v_goto 1513 (pc := 237) dL_law_237 (by decide) ?_
          refine v_loc [0, 1, 2, 3, 4] rfl ?_
          exact v_kle (by omega) (by omega) (nx h2 _ _ _ _ hW2)
        · exact absurd (lg_cmp0.mpr rfl) hb
    · exact absurd rfl hb
  · skip
    refine v_istore (pc := 173) dL_law_173 rfl rfl (by decide) ?_
    refine v_aload_n (pc := 175) dL_law_175 rfl rfl ?_
    refine v_aload_n (pc := 176) dL_law_176 rfl rfl ?_
    refine v_iload (pc := 177) dL_law_177 rfl ?_
    refine v_iconst (pc := 179) (v := 1) dL_law_179 (by decide) ?_
    refine v_iadd (pc := 180) dL_law_180 ?_
    refine v_eqi (y := nI (i + 1)) (nI_add i 1) ?_
    refine n_sld (i + 1) (pc := 181) dL_law_181 rfl (by omega) hL4 ?_
    refine v_aload_n (pc := 182) dL_law_182 rfl rfl ?_
    refine v_iload (pc := 183) dL_law_183 rfl ?_
    refine v_iconst (pc := 185) (v := 2) dL_law_185 (by decide) ?_
    refine v_iadd (pc := 186) dL_law_186 ?_
    refine v_eqi (y := nI (i + 2)) (nI_add i 2) ?_
    refine n_sld (i + 2) (pc := 187) dL_law_187 rfl (by omega) hL4 ?_
    refine v_i2l (pc := 188) dL_law_188 ?_
    refine v_bipush (pc := 189) (v := 32) dL_law_189 (by decide) ?_
    refine v_lshl (pc := 191) dL_law_191 ?_
    refine v_aload_n (pc := 192) dL_law_192 rfl rfl ?_
    refine v_iload (pc := 193) dL_law_193 rfl ?_
    refine v_iconst (pc := 195) (v := 3) dL_law_195 (by decide) ?_
    refine v_iadd (pc := 196) dL_law_196 ?_
    refine v_eqi (y := nI (i + 3)) (nI_add i 3) ?_
    refine n_sld (i + 3) (pc := 197) dL_law_197 rfl (by omega) hL4 ?_
    refine v_i2l (pc := 198) dL_law_198 ?_
    refine v_ldc2 (pc := 199) (v := 4294967295) dL_law_199 cL_79 ?_
    refine v_land (pc := 202) dL_law_202 ?_
    refine v_lor (pc := 203) dL_law_203 ?_
    refine v_callV 0 0 (pc := 204) kL_86 dL_law_204 rfl (by assumption) (Nat.zero_le _) (Nat.zero_le _) (Nat.le_of_ble_eq_true rfl) (Nat.le_of_ble_eq_true rfl) ?_
    refine w_put hm (fun c2 => absurd c2 c) (fun c2 h2 p1 p2 p3 => ?_)
    have hW2 := LW_m hW p1 p2
    have em2 := p1.1.1.1
    refine v_istore (pc := 207) dL_law_207 rfl rfl (by decide) ?_
    refine v_aload_n (pc := 209) dL_law_209 rfl rfl ?_
    refine v_callV 0 0 (pc := 210) kL_87 dL_law_210 rfl (by assumption) (Nat.zero_le _) (Nat.zero_le _) (Nat.le_of_ble_eq_true rfl) (Nat.le_of_ble_eq_true rfl) ?_
    refine w_thrown em2 p3 ?_
    refine v_iload (pc := 213) dL_law_213 rfl ?_
    refine v_icmp_eq 220 (pc := 215) dL_law_215 (by decide) (fun hb => ?_) (fun hb => ?_)
    · refine v_iload (pc := 220) dL_law_220 rfl ?_
      refine v_if_ne 237 (pc := 222) dL_law_222 (by decide) (fun hb => ?_) (fun hb => ?_)
      · refine v_goto 1513 (pc := 237) dL_law_237 (by decide) ?_
        refine v_loc [0, 1, 2, 3, 4] rfl ?_
        exact v_kle (by omega) (by omega) (nx h2 _ _ _ _ hW2)
      · exact absurd hb (by decide)
    · exact absurd rfl hb
set_option maxHeartbeats 4000000 in
set_option maxRecDepth 100000 in
theorem g_add (hW : LW h x S vs sa T SS mo Sm ka va za sm ki fi la aa out V sv nm nk) (hi : i + 8 ≤ mg_L G) (hL4 : mg_L G ≤ 4096) (nx : ∀ h' V' sv' nm' nk', LW h' x S vs sa T SS mo Sm ka va za sm ki fi la aa out V' sv' nm' nk' → mv_V G jL_law (d + 11) 1513 [(0, .ref (mg_b G)), (1, .ref x), (2, .ref mo), (3, .ref out), (4, .int (nI i))] [] h' kc ks R) : mv_V G jL_law (d + 11) 240 [(0, .ref (mg_b G)), (1, .ref x), (2, .ref mo), (3, .ref out), (4, .int (nI i))] [] h (kc + 8) (ks + 48) R := by
  obtain ⟨hL, hm, ⟨ho, hl, o0⟩, hn, hn2, hdj⟩ := id hW
  have em := hm.1.1.1
  have ex := hL.1.1
  refine v_aload_n (pc := 240) dL_law_240 rfl rfl ?_
  refine v_aload_n (pc := 241) dL_law_241 rfl rfl ?_
  refine v_iload (pc := 242) dL_law_242 rfl ?_
  refine v_iconst (pc := 244) (v := 1) dL_law_244 (by decide) ?_
  refine v_iadd (pc := 245) dL_law_245 ?_
  refine v_eqi (y := nI (i + 1)) (nI_add i 1) ?_
  refine n_sld (i + 1) (pc := 246) dL_law_246 rfl (by omega) hL4 ?_
  refine v_aload_n (pc := 247) dL_law_247 rfl rfl ?_
  refine v_iload (pc := 248) dL_law_248 rfl ?_
  refine v_iconst (pc := 250) (v := 2) dL_law_250 (by decide) ?_
  refine v_iadd (pc := 251) dL_law_251 ?_
  refine v_eqi (y := nI (i + 2)) (nI_add i 2) ?_
  refine n_sld (i + 2) (pc := 252) dL_law_252 rfl (by omega) hL4 ?_
  refine v_i2l (pc := 253) dL_law_253 ?_
  refine v_bipush (pc := 254) (v := 32) dL_law_254 (by decide) ?_
  refine v_lshl (pc := 256) dL_law_256 ?_
  refine v_aload_n (pc := 257) dL_law_257 rfl rfl ?_
  refine v_iload (pc := 258) dL_law_258 rfl ?_
  refine v_iconst (pc := 260) (v := 3) dL_law_260 (by decide) ?_
  refine v_iadd (pc := 261) dL_law_261 ?_
  refine v_eqi (y := nI (i + 3)) (nI_add i 3) ?_
  refine n_sld (i + 3) (pc := 262) dL_law_262 rfl (by omega) hL4 ?_
  refine v_i2l (pc := 263) dL_law_263 ?_
  refine v_ldc2 (pc := 264) (v := 4294967295) dL_law_264 cL_79 ?_
  refine v_land (pc := 267) dL_law_267 ?_
  refine v_lor (pc := 268) dL_law_268 ?_
  refine v_aload_n (pc := 269) dL_law_269 rfl rfl ?_
  refine v_callS 8 48 (pc := 270) kL_91 dL_law_270 (Nat.le_of_ble_eq_true rfl) (by omega) (by omega) (Nat.le_of_ble_eq_true rfl) (Nat.le_of_ble_eq_true rfl) ?_
  refine z_add hL ho hl hn (fun c h1 u1 u2 u3 => ?_) (fun c => ?_)
  · have hm1 := LW_a hW u2
    have em1 := hm1.1.1.1
    refine v_istore (pc := 273) dL_law_273 rfl rfl (by decide) ?_
    refine v_aload_n (pc := 275) dL_law_275 rfl rfl ?_
    refine v_aload_n (pc := 276) dL_law_276 rfl rfl ?_
    refine v_iload (pc := 277) dL_law_277 rfl ?_
    refine v_iconst (pc := 279) (v := 1) dL_law_279 (by decide) ?_
    refine v_iadd (pc := 280) dL_law_280 ?_
    refine v_eqi (y := nI (i + 1)) (nI_add i 1) ?_
    refine n_sld (i + 1) (pc := 281) dL_law_281 rfl (by omega) hL4 ?_
    refine v_aload_n (pc := 282) dL_law_282 rfl rfl ?_
    refine v_iload (pc := 283) dL_law_283 rfl ?_
    refine v_iconst (pc := 285) (v := 2) dL_law_285 (by decide) ?_
    refine v_iadd (pc := 286) dL_law_286 ?_
    refine v_eqi (y := nI (i + 2)) (nI_add i 2) ?_
    refine n_sld (i + 2) (pc := 287) dL_law_287 rfl (by omega) hL4 ?_
    refine v_i2l (pc := 288) dL_law_288 ?_
    refine v_bipush (pc := 289) (v := 32) dL_law_289 (by decide) ?_
    refine v_lshl (pc := 291) dL_law_291 ?_
    refine v_aload_n (pc := 292) dL_law_292 rfl rfl ?_
    refine v_iload (pc := 293) dL_law_293 rfl ?_
    refine v_iconst (pc := 295) (v := 3) dL_law_295 (by decide) ?_
    refine v_iadd (pc := 296) dL_law_296 ?_
    refine v_eqi (y := nI (i + 3)) (nI_add i 3) ?_
    refine n_sld (i + 3) (pc := 297) dL_law_297 rfl (by omega) hL4 ?_
    refine v_i2l (pc := 298) dL_law_298 ?_
    refine v_ldc2 (pc := 299) (v := 4294967295) dL_law_299 cL_79 ?_
    refine v_land (pc := 302) dL_law_302 ?_
    refine v_lor (pc := 303) dL_law_303 ?_
    refine v_callV 0 0 (pc := 304) kL_93 dL_law_304 rfl (by assumption) (Nat.zero_le _) (Nat.zero_le _) (Nat.le_of_ble_eq_true rfl) (Nat.le_of_ble_eq_true rfl) ?_
    refine w_add hm1 (fun c2 h2 p1 p2 p3 => ?_) (fun c2 => absurd c c2)
    have hW2 := LW_ah hW u2 u1 p1 p2
    have em2 := p1.1.1.1
    have ho2 := hW2.2.2.1.1
    have hl2 := hW2.2.2.1.2.1
    have hv2 := ((p2 out hn2).2.2.2.2.2.2.1 0).trans u3
    refine v_lstore (pc := 307) dL_law_307 rfl rfl rfl (by decide) ?_
    refine v_aload_n (pc := 309) dL_law_309 rfl rfl ?_
    refine v_callV 0 0 (pc := 310) kL_87 dL_law_310 rfl (by assumption) (Nat.zero_le _) (Nat.zero_le _) (Nat.le_of_ble_eq_true rfl) (Nat.le_of_ble_eq_true rfl) ?_
    refine w_thrown em2 p3 ?_
    refine v_iload (pc := 313) dL_law_313 rfl ?_
    refine v_icmp_eq 320 (pc := 315) dL_law_315 (by decide) (fun hb => ?_) (fun hb => ?_)
    · refine v_iload (pc := 320) dL_law_320 rfl ?_
      refine v_if_ne 336 (pc := 322) dL_law_322 (by decide) (fun hb => ?_) (fun hb => ?_)
      · exact absurd rfl hb
      · refine v_aload_n (pc := 325) dL_law_325 rfl rfl ?_
        refine v_iconst (pc := 326) (v := 0) dL_law_326 (by decide) ?_
        refine n_lald (0) _ (pc := 327) dL_law_327 (by assumption) (by assumption) rfl (by omega) (by decide) hv2 ?_
        refine v_lload (pc := 328) dL_law_328 rfl ?_
        refine v_lcmp (pc := 330) dL_law_330 ?_
        refine v_if_eq 336 (pc := 331) dL_law_331 (by decide) (fun hb => ?_) (fun hb => ?_)
        · refine v_goto 1513 (pc := 336) dL_law_336 (by decide) ?_
          refine v_loc [0, 1, 2, 3, 4] rfl ?_
          exact v_kle (by omega) (by omega) (nx h2 _ _ _ _ hW2)
        · exact absurd (lg_cmp0.mpr rfl) hb
    · exact absurd rfl hb
  · skip
    refine v_istore (pc := 273) dL_law_273 rfl rfl (by decide) ?_
    refine v_aload_n (pc := 275) dL_law_275 rfl rfl ?_
    refine v_aload_n (pc := 276) dL_law_276 rfl rfl ?_
    refine v_iload (pc := 277) dL_law_277 rfl ?_
    refine v_iconst (pc := 279) (v := 1) dL_law_279 (by decide) ?_
    refine v_iadd (pc := 280) dL_law_280 ?_
    refine v_eqi (y := nI (i + 1)) (nI_add i 1) ?_
    refine n_sld (i + 1) (pc := 281) dL_law_281 rfl (by omega) hL4 ?_
    refine v_aload_n (pc := 282) dL_law_282 rfl rfl ?_
    refine v_iload (pc := 283) dL_law_283 rfl ?_
    refine v_iconst (pc := 285) (v := 2) dL_law_285 (by decide) ?_
    refine v_iadd (pc := 286) dL_law_286 ?_
    refine v_eqi (y := nI (i + 2)) (nI_add i 2) ?_
    refine n_sld (i + 2) (pc := 287) dL_law_287 rfl (by omega) hL4 ?_
    refine v_i2l (pc := 288) dL_law_288 ?_
    refine v_bipush (pc := 289) (v := 32) dL_law_289 (by decide) ?_
    refine v_lshl (pc := 291) dL_law_291 ?_
    refine v_aload_n (pc := 292) dL_law_292 rfl rfl ?_
    refine v_iload (pc := 293) dL_law_293 rfl ?_
    refine v_iconst (pc := 295) (v := 3) dL_law_295 (by decide) ?_
    refine v_iadd (pc := 296) dL_law_296 ?_
    refine v_eqi (y := nI (i + 3)) (nI_add i 3) ?_
    refine n_sld (i + 3) (pc := 297) dL_law_297 rfl (by omega) hL4 ?_
    refine v_i2l (pc := 298) dL_law_298 ?_
    refine v_ldc2 (pc := 299) (v := 4294967295) dL_law_299 cL_79 ?_
    refine v_land (pc := 302) dL_law_302 ?_
    refine v_lor (pc := 303) dL_law_303 ?_
    refine v_callV 0 0 (pc := 304) kL_93 dL_law_304 rfl (by assumption) (Nat.zero_le _) (Nat.zero_le _) (Nat.le_of_ble_eq_true rfl) (Nat.le_of_ble_eq_true rfl) ?_
    refine w_add hm (fun c2 => absurd c2 c) (fun c2 h2 p1 p2 p3 => ?_)
    have hW2 := LW_m hW p1 p2
    have em2 := p1.1.1.1
    refine v_lstore (pc := 307) dL_law_307 rfl rfl rfl (by decide) ?_
    refine v_aload_n (pc := 309) dL_law_309 rfl rfl ?_
    refine v_callV 0 0 (pc := 310) kL_87 dL_law_310 rfl (by assumption) (Nat.zero_le _) (Nat.zero_le _) (Nat.le_of_ble_eq_true rfl) (Nat.le_of_ble_eq_true rfl) ?_
    refine w_thrown em2 p3 ?_
    refine v_iload (pc := 313) dL_law_313 rfl ?_
    refine v_icmp_eq 320 (pc := 315) dL_law_315 (by decide) (fun hb => ?_) (fun hb => ?_)
    · refine v_iload (pc := 320) dL_law_320 rfl ?_
      refine v_if_ne 336 (pc := 322) dL_law_322 (by decide) (fun hb => ?_) (fun hb => ?_)
      · refine v_goto 1513 (pc := 336) dL_law_336 (by decide) ?_
        refine v_loc [0, 1, 2, 3, 4] rfl ?_
        exact v_kle (by omega) (by omega) (nx h2 _ _ _ _ hW2)
      · exact absurd hb (by decide)
    · exact absurd rfl hb
set_option maxHeartbeats 4000000 in
set_option maxRecDepth 100000 in
theorem g_most (hW : LW h x S vs sa T SS mo Sm ka va za sm ki fi la aa out V sv nm nk) (hi : i + 8 ≤ mg_L G) (hL4 : mg_L G ≤ 4096) (nx : ∀ h' V' sv' nm' nk', LW h' x S vs sa T SS mo Sm ka va za sm ki fi la aa out V' sv' nm' nk' → mv_V G jL_law (d + 11) 1513 [(0, .ref (mg_b G)), (1, .ref x), (2, .ref mo), (3, .ref out), (4, .int (nI i))] [] h' kc ks R) : mv_V G jL_law (d + 11) 339 [(0, .ref (mg_b G)), (1, .ref x), (2, .ref mo), (3, .ref out), (4, .int (nI i))] [] h (kc + 8) (ks + 48) R := by
  obtain ⟨hL, hm, ⟨ho, hl, o0⟩, hn, hn2, hdj⟩ := id hW
  have em := hm.1.1.1
  have ex := hL.1.1
  refine v_aload_n (pc := 339) dL_law_339 rfl rfl ?_
  refine v_aload_n (pc := 340) dL_law_340 rfl rfl ?_
  refine v_iload (pc := 341) dL_law_341 rfl ?_
  refine v_iconst (pc := 343) (v := 1) dL_law_343 (by decide) ?_
  refine v_iadd (pc := 344) dL_law_344 ?_
  refine v_eqi (y := nI (i + 1)) (nI_add i 1) ?_
  refine n_sld (i + 1) (pc := 345) dL_law_345 rfl (by omega) hL4 ?_
  refine v_aload_n (pc := 346) dL_law_346 rfl rfl ?_
  refine v_iload (pc := 347) dL_law_347 rfl ?_
  refine v_iconst (pc := 349) (v := 2) dL_law_349 (by decide) ?_
  refine v_iadd (pc := 350) dL_law_350 ?_
  refine v_eqi (y := nI (i + 2)) (nI_add i 2) ?_
  refine n_sld (i + 2) (pc := 351) dL_law_351 rfl (by omega) hL4 ?_
  refine v_i2l (pc := 352) dL_law_352 ?_
  refine v_bipush (pc := 353) (v := 32) dL_law_353 (by decide) ?_
  refine v_lshl (pc := 355) dL_law_355 ?_
  refine v_aload_n (pc := 356) dL_law_356 rfl rfl ?_
  refine v_iload (pc := 357) dL_law_357 rfl ?_
  refine v_iconst (pc := 359) (v := 3) dL_law_359 (by decide) ?_
  refine v_iadd (pc := 360) dL_law_360 ?_
  refine v_eqi (y := nI (i + 3)) (nI_add i 3) ?_
  refine n_sld (i + 3) (pc := 361) dL_law_361 rfl (by omega) hL4 ?_
  refine v_i2l (pc := 362) dL_law_362 ?_
  refine v_ldc2 (pc := 363) (v := 4294967295) dL_law_363 cL_79 ?_
  refine v_land (pc := 366) dL_law_366 ?_
  refine v_lor (pc := 367) dL_law_367 ?_
  refine v_aload_n (pc := 368) dL_law_368 rfl rfl ?_
  refine v_callS 8 48 (pc := 369) kL_94 dL_law_369 (Nat.le_of_ble_eq_true rfl) (by omega) (by omega) (Nat.le_of_ble_eq_true rfl) (Nat.le_of_ble_eq_true rfl) ?_
  refine z_most hL ho hl hn (fun c h1 u1 u2 u3 => ?_) (fun c => ?_)
  · have hm1 := LW_a hW u2
    have em1 := hm1.1.1.1
    refine v_istore (pc := 372) dL_law_372 rfl rfl (by decide) ?_
    refine v_aload_n (pc := 374) dL_law_374 rfl rfl ?_
    refine v_aload_n (pc := 375) dL_law_375 rfl rfl ?_
    refine v_iload (pc := 376) dL_law_376 rfl ?_
    refine v_iconst (pc := 378) (v := 1) dL_law_378 (by decide) ?_
    refine v_iadd (pc := 379) dL_law_379 ?_
    refine v_eqi (y := nI (i + 1)) (nI_add i 1) ?_
    refine n_sld (i + 1) (pc := 380) dL_law_380 rfl (by omega) hL4 ?_
    refine v_aload_n (pc := 381) dL_law_381 rfl rfl ?_
    refine v_iload (pc := 382) dL_law_382 rfl ?_
    refine v_iconst (pc := 384) (v := 2) dL_law_384 (by decide) ?_
    refine v_iadd (pc := 385) dL_law_385 ?_
    refine v_eqi (y := nI (i + 2)) (nI_add i 2) ?_
    refine n_sld (i + 2) (pc := 386) dL_law_386 rfl (by omega) hL4 ?_
    refine v_i2l (pc := 387) dL_law_387 ?_
    refine v_bipush (pc := 388) (v := 32) dL_law_388 (by decide) ?_
    refine v_lshl (pc := 390) dL_law_390 ?_
    refine v_aload_n (pc := 391) dL_law_391 rfl rfl ?_
    refine v_iload (pc := 392) dL_law_392 rfl ?_
    refine v_iconst (pc := 394) (v := 3) dL_law_394 (by decide) ?_
    refine v_iadd (pc := 395) dL_law_395 ?_
    refine v_eqi (y := nI (i + 3)) (nI_add i 3) ?_
    refine n_sld (i + 3) (pc := 396) dL_law_396 rfl (by omega) hL4 ?_
    refine v_i2l (pc := 397) dL_law_397 ?_
    refine v_ldc2 (pc := 398) (v := 4294967295) dL_law_398 cL_79 ?_
    refine v_land (pc := 401) dL_law_401 ?_
    refine v_lor (pc := 402) dL_law_402 ?_
    refine v_callV 0 0 (pc := 403) kL_96 dL_law_403 rfl (by assumption) (Nat.zero_le _) (Nat.zero_le _) (Nat.le_of_ble_eq_true rfl) (Nat.le_of_ble_eq_true rfl) ?_
    refine w_most hm1 (fun c2 h2 p1 p2 p3 => ?_) (fun c2 => absurd c c2)
    have hW2 := LW_ah hW u2 u1 p1 p2
    have em2 := p1.1.1.1
    have ho2 := hW2.2.2.1.1
    have hl2 := hW2.2.2.1.2.1
    have hv2 := ((p2 out hn2).2.2.2.2.2.2.1 0).trans u3
    refine v_lstore (pc := 406) dL_law_406 rfl rfl rfl (by decide) ?_
    refine v_aload_n (pc := 408) dL_law_408 rfl rfl ?_
    refine v_callV 0 0 (pc := 409) kL_87 dL_law_409 rfl (by assumption) (Nat.zero_le _) (Nat.zero_le _) (Nat.le_of_ble_eq_true rfl) (Nat.le_of_ble_eq_true rfl) ?_
    refine w_thrown em2 p3 ?_
    refine v_iload (pc := 412) dL_law_412 rfl ?_
    refine v_icmp_eq 419 (pc := 414) dL_law_414 (by decide) (fun hb => ?_) (fun hb => ?_)
    · refine v_iload (pc := 419) dL_law_419 rfl ?_
      refine v_if_ne 435 (pc := 421) dL_law_421 (by decide) (fun hb => ?_) (fun hb => ?_)
      · exact absurd rfl hb
      · refine v_aload_n (pc := 424) dL_law_424 rfl rfl ?_
        refine v_iconst (pc := 425) (v := 0) dL_law_425 (by decide) ?_
        refine n_lald (0) _ (pc := 426) dL_law_426 (by assumption) (by assumption) rfl (by omega) (by decide) hv2 ?_
        refine v_lload (pc := 427) dL_law_427 rfl ?_
        refine v_lcmp (pc := 429) dL_law_429 ?_
        refine v_if_eq 435 (pc := 430) dL_law_430 (by decide) (fun hb => ?_) (fun hb => ?_)
        · refine v_goto 1513 (pc := 435) dL_law_435 (by decide) ?_
          refine v_loc [0, 1, 2, 3, 4] rfl ?_
          exact v_kle (by omega) (by omega) (nx h2 _ _ _ _ hW2)
        · exact absurd (lg_cmp0.mpr rfl) hb
    · exact absurd rfl hb
  · skip
    refine v_istore (pc := 372) dL_law_372 rfl rfl (by decide) ?_
    refine v_aload_n (pc := 374) dL_law_374 rfl rfl ?_
    refine v_aload_n (pc := 375) dL_law_375 rfl rfl ?_
    refine v_iload (pc := 376) dL_law_376 rfl ?_
    refine v_iconst (pc := 378) (v := 1) dL_law_378 (by decide) ?_
    refine v_iadd (pc := 379) dL_law_379 ?_
    refine v_eqi (y := nI (i + 1)) (nI_add i 1) ?_
    refine n_sld (i + 1) (pc := 380) dL_law_380 rfl (by omega) hL4 ?_
    refine v_aload_n (pc := 381) dL_law_381 rfl rfl ?_
    refine v_iload (pc := 382) dL_law_382 rfl ?_
    refine v_iconst (pc := 384) (v := 2) dL_law_384 (by decide) ?_
    refine v_iadd (pc := 385) dL_law_385 ?_
    refine v_eqi (y := nI (i + 2)) (nI_add i 2) ?_
    refine n_sld (i + 2) (pc := 386) dL_law_386 rfl (by omega) hL4 ?_
    refine v_i2l (pc := 387) dL_law_387 ?_
    refine v_bipush (pc := 388) (v := 32) dL_law_388 (by decide) ?_
    refine v_lshl (pc := 390) dL_law_390 ?_
    refine v_aload_n (pc := 391) dL_law_391 rfl rfl ?_
    refine v_iload (pc := 392) dL_law_392 rfl ?_
    refine v_iconst (pc := 394) (v := 3) dL_law_394 (by decide) ?_
    refine v_iadd (pc := 395) dL_law_395 ?_
    refine v_eqi (y := nI (i + 3)) (nI_add i 3) ?_
    refine n_sld (i + 3) (pc := 396) dL_law_396 rfl (by omega) hL4 ?_
    refine v_i2l (pc := 397) dL_law_397 ?_
    refine v_ldc2 (pc := 398) (v := 4294967295) dL_law_398 cL_79 ?_
    refine v_land (pc := 401) dL_law_401 ?_
    refine v_lor (pc := 402) dL_law_402 ?_
    refine v_callV 0 0 (pc := 403) kL_96 dL_law_403 rfl (by assumption) (Nat.zero_le _) (Nat.zero_le _) (Nat.le_of_ble_eq_true rfl) (Nat.le_of_ble_eq_true rfl) ?_
    refine w_most hm (fun c2 => absurd c2 c) (fun c2 h2 p1 p2 p3 => ?_)
    have hW2 := LW_m hW p1 p2
    have em2 := p1.1.1.1
    refine v_lstore (pc := 406) dL_law_406 rfl rfl rfl (by decide) ?_
    refine v_aload_n (pc := 408) dL_law_408 rfl rfl ?_
    refine v_callV 0 0 (pc := 409) kL_87 dL_law_409 rfl (by assumption) (Nat.zero_le _) (Nat.zero_le _) (Nat.le_of_ble_eq_true rfl) (Nat.le_of_ble_eq_true rfl) ?_
    refine w_thrown em2 p3 ?_
    refine v_iload (pc := 412) dL_law_412 rfl ?_
    refine v_icmp_eq 419 (pc := 414) dL_law_414 (by decide) (fun hb => ?_) (fun hb => ?_)
    · refine v_iload (pc := 419) dL_law_419 rfl ?_
      refine v_if_ne 435 (pc := 421) dL_law_421 (by decide) (fun hb => ?_) (fun hb => ?_)
      · refine v_goto 1513 (pc := 435) dL_law_435 (by decide) ?_
        refine v_loc [0, 1, 2, 3, 4] rfl ?_
        exact v_kle (by omega) (by omega) (nx h2 _ _ _ _ hW2)
      · exact absurd hb (by decide)
    · exact absurd rfl hb
set_option maxHeartbeats 4000000 in
set_option maxRecDepth 100000 in
theorem g_delete (hW : LW h x S vs sa T SS mo Sm ka va za sm ki fi la aa out V sv nm nk) (hi : i + 8 ≤ mg_L G) (hL4 : mg_L G ≤ 4096) (nx : ∀ h' V' sv' nm' nk', LW h' x S vs sa T SS mo Sm ka va za sm ki fi la aa out V' sv' nm' nk' → mv_V G jL_law (d + 11) 1513 [(0, .ref (mg_b G)), (1, .ref x), (2, .ref mo), (3, .ref out), (4, .int (nI i))] [] h' kc ks R) : mv_V G jL_law (d + 11) 438 [(0, .ref (mg_b G)), (1, .ref x), (2, .ref mo), (3, .ref out), (4, .int (nI i))] [] h (kc + 8) (ks + 48) R := by
  obtain ⟨hL, hm, ⟨ho, hl, o0⟩, hn, hn2, hdj⟩ := id hW
  have em := hm.1.1.1
  have ex := hL.1.1
  refine v_aload_n (pc := 438) dL_law_438 rfl rfl ?_
  refine v_aload_n (pc := 439) dL_law_439 rfl rfl ?_
  refine v_iload (pc := 440) dL_law_440 rfl ?_
  refine v_iconst (pc := 442) (v := 1) dL_law_442 (by decide) ?_
  refine v_iadd (pc := 443) dL_law_443 ?_
  refine v_eqi (y := nI (i + 1)) (nI_add i 1) ?_
  refine n_sld (i + 1) (pc := 444) dL_law_444 rfl (by omega) hL4 ?_
  refine v_aload_n (pc := 445) dL_law_445 rfl rfl ?_
  refine v_iload (pc := 446) dL_law_446 rfl ?_
  refine v_iconst (pc := 448) (v := 2) dL_law_448 (by decide) ?_
  refine v_iadd (pc := 449) dL_law_449 ?_
  refine v_eqi (y := nI (i + 2)) (nI_add i 2) ?_
  refine n_sld (i + 2) (pc := 450) dL_law_450 rfl (by omega) hL4 ?_
  refine v_aload_n (pc := 451) dL_law_451 rfl rfl ?_
  refine v_callS 8 48 (pc := 452) kL_97 dL_law_452 (Nat.le_of_ble_eq_true rfl) (by omega) (by omega) (Nat.le_of_ble_eq_true rfl) (Nat.le_of_ble_eq_true rfl) ?_
  refine z_delete hL ho hl hn (fun c c2 h1 u1 u2 u3 => ?_) (fun c => ?_) (fun c c2 => ?_)
  · have hm1 := LW_a hW u2
    have em1 := hm1.1.1.1
    refine v_istore (pc := 455) dL_law_455 rfl rfl (by decide) ?_
    refine v_aload_n (pc := 457) dL_law_457 rfl rfl ?_
    refine v_aload_n (pc := 458) dL_law_458 rfl rfl ?_
    refine v_iload (pc := 459) dL_law_459 rfl ?_
    refine v_iconst (pc := 461) (v := 1) dL_law_461 (by decide) ?_
    refine v_iadd (pc := 462) dL_law_462 ?_
    refine v_eqi (y := nI (i + 1)) (nI_add i 1) ?_
    refine n_sld (i + 1) (pc := 463) dL_law_463 rfl (by omega) hL4 ?_
    refine v_aload_n (pc := 464) dL_law_464 rfl rfl ?_
    refine v_iload (pc := 465) dL_law_465 rfl ?_
    refine v_iconst (pc := 467) (v := 2) dL_law_467 (by decide) ?_
    refine v_iadd (pc := 468) dL_law_468 ?_
    refine v_eqi (y := nI (i + 2)) (nI_add i 2) ?_
    refine n_sld (i + 2) (pc := 469) dL_law_469 rfl (by omega) hL4 ?_
    refine v_callV 0 0 (pc := 470) kL_100 dL_law_470 rfl (by assumption) (Nat.zero_le _) (Nat.zero_le _) (Nat.le_of_ble_eq_true rfl) (Nat.le_of_ble_eq_true rfl) ?_
    refine w_delete hm1 (fun c3 c4 h2 p1 p2 p3 => ?_) (fun c3 => absurd c c3) (fun c3 c4 => absurd c2 c4)
    have hW2 := LW_ah hW u2 u1 p1 p2
    have em2 := p1.1.1.1
    have ho2 := hW2.2.2.1.1
    have hl2 := hW2.2.2.1.2.1
    have hv2 := ((p2 out hn2).2.2.2.2.2.2.1 0).trans u3
    refine v_istore (pc := 473) dL_law_473 rfl rfl (by decide) ?_
    refine v_aload_n (pc := 475) dL_law_475 rfl rfl ?_
    refine v_callV 0 0 (pc := 476) kL_87 dL_law_476 rfl (by assumption) (Nat.zero_le _) (Nat.zero_le _) (Nat.le_of_ble_eq_true rfl) (Nat.le_of_ble_eq_true rfl) ?_
    refine w_thrown em2 p3 ?_
    refine v_iload (pc := 479) dL_law_479 rfl ?_
    refine v_icmp_eq 486 (pc := 481) dL_law_481 (by decide) (fun hb => ?_) (fun hb => ?_)
    · refine v_iload (pc := 486) dL_law_486 rfl ?_
      refine v_if_ne 503 (pc := 488) dL_law_488 (by decide) (fun hb => ?_) (fun hb => ?_)
      · exact absurd rfl hb
      · refine v_aload_n (pc := 491) dL_law_491 rfl rfl ?_
        refine v_iconst (pc := 492) (v := 0) dL_law_492 (by decide) ?_
        refine n_lald (0) _ (pc := 493) dL_law_493 (by assumption) (by assumption) rfl (by omega) (by decide) hv2 ?_
        refine v_iload (pc := 494) dL_law_494 rfl ?_
        refine v_i2l (pc := 496) dL_law_496 ?_
        refine v_lcmp (pc := 497) dL_law_497 ?_
        refine v_if_eq 503 (pc := 498) dL_law_498 (by decide) (fun hb => ?_) (fun hb => ?_)
        · refine v_goto 1513 (pc := 503) dL_law_503 (by decide) ?_
          refine v_loc [0, 1, 2, 3, 4] rfl ?_
          exact v_kle (by omega) (by omega) (nx h2 _ _ _ _ hW2)
        · exact absurd (lg_cmp0.mpr rfl) hb
    · exact absurd rfl hb
  · skip
    refine v_istore (pc := 455) dL_law_455 rfl rfl (by decide) ?_
    refine v_aload_n (pc := 457) dL_law_457 rfl rfl ?_
    refine v_aload_n (pc := 458) dL_law_458 rfl rfl ?_
    refine v_iload (pc := 459) dL_law_459 rfl ?_
    refine v_iconst (pc := 461) (v := 1) dL_law_461 (by decide) ?_
    refine v_iadd (pc := 462) dL_law_462 ?_
    refine v_eqi (y := nI (i + 1)) (nI_add i 1) ?_
    refine n_sld (i + 1) (pc := 463) dL_law_463 rfl (by omega) hL4 ?_
    refine v_aload_n (pc := 464) dL_law_464 rfl rfl ?_
    refine v_iload (pc := 465) dL_law_465 rfl ?_
    refine v_iconst (pc := 467) (v := 2) dL_law_467 (by decide) ?_
    refine v_iadd (pc := 468) dL_law_468 ?_
    refine v_eqi (y := nI (i + 2)) (nI_add i 2) ?_
    refine n_sld (i + 2) (pc := 469) dL_law_469 rfl (by omega) hL4 ?_
    refine v_callV 0 0 (pc := 470) kL_100 dL_law_470 rfl (by assumption) (Nat.zero_le _) (Nat.zero_le _) (Nat.le_of_ble_eq_true rfl) (Nat.le_of_ble_eq_true rfl) ?_
    refine w_delete hm (fun c3 => absurd c3 c) (fun c3 h2 p1 p2 p3 => ?_) (fun c3 => absurd c3 c)
    have hW2 := LW_m hW p1 p2
    have em2 := p1.1.1.1
    refine v_istore (pc := 473) dL_law_473 rfl rfl (by decide) ?_
    refine v_aload_n (pc := 475) dL_law_475 rfl rfl ?_
    refine v_callV 0 0 (pc := 476) kL_87 dL_law_476 rfl (by assumption) (Nat.zero_le _) (Nat.zero_le _) (Nat.le_of_ble_eq_true rfl) (Nat.le_of_ble_eq_true rfl) ?_
    refine w_thrown em2 p3 ?_
    refine v_iload (pc := 479) dL_law_479 rfl ?_
    refine v_icmp_eq 486 (pc := 481) dL_law_481 (by decide) (fun hb => ?_) (fun hb => ?_)
    · refine v_iload (pc := 486) dL_law_486 rfl ?_
      refine v_if_ne 503 (pc := 488) dL_law_488 (by decide) (fun hb => ?_) (fun hb => ?_)
      · refine v_goto 1513 (pc := 503) dL_law_503 (by decide) ?_
        refine v_loc [0, 1, 2, 3, 4] rfl ?_
        exact v_kle (by omega) (by omega) (nx h2 _ _ _ _ hW2)
      · exact absurd hb (by decide)
    · exact absurd rfl hb
  · skip
    refine v_istore (pc := 455) dL_law_455 rfl rfl (by decide) ?_
    refine v_aload_n (pc := 457) dL_law_457 rfl rfl ?_
    refine v_aload_n (pc := 458) dL_law_458 rfl rfl ?_
    refine v_iload (pc := 459) dL_law_459 rfl ?_
    refine v_iconst (pc := 461) (v := 1) dL_law_461 (by decide) ?_
    refine v_iadd (pc := 462) dL_law_462 ?_
    refine v_eqi (y := nI (i + 1)) (nI_add i 1) ?_
    refine n_sld (i + 1) (pc := 463) dL_law_463 rfl (by omega) hL4 ?_
    refine v_aload_n (pc := 464) dL_law_464 rfl rfl ?_
    refine v_iload (pc := 465) dL_law_465 rfl ?_
    refine v_iconst (pc := 467) (v := 2) dL_law_467 (by decide) ?_
    refine v_iadd (pc := 468) dL_law_468 ?_
    refine v_eqi (y := nI (i + 2)) (nI_add i 2) ?_
    refine n_sld (i + 2) (pc := 469) dL_law_469 rfl (by omega) hL4 ?_
    refine v_callV 0 0 (pc := 470) kL_100 dL_law_470 rfl (by assumption) (Nat.zero_le _) (Nat.zero_le _) (Nat.le_of_ble_eq_true rfl) (Nat.le_of_ble_eq_true rfl) ?_
    refine w_delete hm (fun c3 c4 => absurd c4 c2) (fun c3 => absurd c c3) (fun c3 c4 h2 p1 p2 p3 => ?_)
    have hW2 := LW_m hW p1 p2
    have em2 := p1.1.1.1
    refine v_istore (pc := 473) dL_law_473 rfl rfl (by decide) ?_
    refine v_aload_n (pc := 475) dL_law_475 rfl rfl ?_
    refine v_callV 0 0 (pc := 476) kL_87 dL_law_476 rfl (by assumption) (Nat.zero_le _) (Nat.zero_le _) (Nat.le_of_ble_eq_true rfl) (Nat.le_of_ble_eq_true rfl) ?_
    refine w_thrown em2 p3 ?_
    refine v_iload (pc := 479) dL_law_479 rfl ?_
    refine v_icmp_eq 486 (pc := 481) dL_law_481 (by decide) (fun hb => ?_) (fun hb => ?_)
    · refine v_iload (pc := 486) dL_law_486 rfl ?_
      refine v_if_ne 503 (pc := 488) dL_law_488 (by decide) (fun hb => ?_) (fun hb => ?_)
      · refine v_goto 1513 (pc := 503) dL_law_503 (by decide) ?_
        refine v_loc [0, 1, 2, 3, 4] rfl ?_
        exact v_kle (by omega) (by omega) (nx h2 _ _ _ _ hW2)
      · exact absurd hb (by decide)
    · exact absurd rfl hb
set_option maxHeartbeats 4000000 in
set_option maxRecDepth 100000 in
theorem g_raise (hW : LW h x S vs sa T SS mo Sm ka va za sm ki fi la aa out V sv nm nk) (hi : i + 8 ≤ mg_L G) (hL4 : mg_L G ≤ 4096) (nx : ∀ h' V' sv' nm' nk', LW h' x S vs sa T SS mo Sm ka va za sm ki fi la aa out V' sv' nm' nk' → mv_V G jL_law (d + 11) 1513 [(0, .ref (mg_b G)), (1, .ref x), (2, .ref mo), (3, .ref out), (4, .int (nI i))] [] h' kc ks R) : mv_V G jL_law (d + 11) 506 [(0, .ref (mg_b G)), (1, .ref x), (2, .ref mo), (3, .ref out), (4, .int (nI i))] [] h (kc + 8) (ks + 48) R := by
  obtain ⟨hL, hm, ⟨ho, hl, o0⟩, hn, hn2, hdj⟩ := id hW
  have em := hm.1.1.1
  have ex := hL.1.1
  refine v_aload_n (pc := 506) dL_law_506 rfl rfl ?_
  refine v_aload_n (pc := 507) dL_law_507 rfl rfl ?_
  refine v_iload (pc := 508) dL_law_508 rfl ?_
  refine v_iconst (pc := 510) (v := 1) dL_law_510 (by decide) ?_
  refine v_iadd (pc := 511) dL_law_511 ?_
  refine v_eqi (y := nI (i + 1)) (nI_add i 1) ?_
  refine n_sld (i + 1) (pc := 512) dL_law_512 rfl (by omega) hL4 ?_
  refine v_aload_n (pc := 513) dL_law_513 rfl rfl ?_
  refine v_iload (pc := 514) dL_law_514 rfl ?_
  refine v_iconst (pc := 516) (v := 2) dL_law_516 (by decide) ?_
  refine v_iadd (pc := 517) dL_law_517 ?_
  refine v_eqi (y := nI (i + 2)) (nI_add i 2) ?_
  refine n_sld (i + 2) (pc := 518) dL_law_518 rfl (by omega) hL4 ?_
  refine v_aload_n (pc := 519) dL_law_519 rfl rfl ?_
  refine v_iload (pc := 520) dL_law_520 rfl ?_
  refine v_iconst (pc := 522) (v := 3) dL_law_522 (by decide) ?_
  refine v_iadd (pc := 523) dL_law_523 ?_
  refine v_eqi (y := nI (i + 3)) (nI_add i 3) ?_
  refine n_sld (i + 3) (pc := 524) dL_law_524 rfl (by omega) hL4 ?_
  refine v_i2l (pc := 525) dL_law_525 ?_
  refine v_bipush (pc := 526) (v := 32) dL_law_526 (by decide) ?_
  refine v_lshl (pc := 528) dL_law_528 ?_
  refine v_aload_n (pc := 529) dL_law_529 rfl rfl ?_
  refine v_iload (pc := 530) dL_law_530 rfl ?_
  refine v_iconst (pc := 532) (v := 4) dL_law_532 (by decide) ?_
  refine v_iadd (pc := 533) dL_law_533 ?_
  refine v_eqi (y := nI (i + 4)) (nI_add i 4) ?_
  refine n_sld (i + 4) (pc := 534) dL_law_534 rfl (by omega) hL4 ?_
  refine v_i2l (pc := 535) dL_law_535 ?_
  refine v_ldc2 (pc := 536) (v := 4294967295) dL_law_536 cL_79 ?_
  refine v_land (pc := 539) dL_law_539 ?_
  refine v_lor (pc := 540) dL_law_540 ?_
  refine v_aload_n (pc := 541) dL_law_541 rfl rfl ?_
  refine v_callS 8 48 (pc := 542) kL_101 dL_law_542 (Nat.le_of_ble_eq_true rfl) (by omega) (by omega) (Nat.le_of_ble_eq_true rfl) (Nat.le_of_ble_eq_true rfl) ?_
  refine z_raise hL ho hl hn (fun c c2 h1 u1 u2 u3 => ?_) (fun c => ?_) (fun c c2 => ?_)
  · have hm1 := LW_a hW u2
    have em1 := hm1.1.1.1
    refine v_istore (pc := 545) dL_law_545 rfl rfl (by decide) ?_
    refine v_aload_n (pc := 547) dL_law_547 rfl rfl ?_
    refine v_aload_n (pc := 548) dL_law_548 rfl rfl ?_
    refine v_iload (pc := 549) dL_law_549 rfl ?_
    refine v_iconst (pc := 551) (v := 1) dL_law_551 (by decide) ?_
    refine v_iadd (pc := 552) dL_law_552 ?_
    refine v_eqi (y := nI (i + 1)) (nI_add i 1) ?_
    refine n_sld (i + 1) (pc := 553) dL_law_553 rfl (by omega) hL4 ?_
    refine v_aload_n (pc := 554) dL_law_554 rfl rfl ?_
    refine v_iload (pc := 555) dL_law_555 rfl ?_
    refine v_iconst (pc := 557) (v := 2) dL_law_557 (by decide) ?_
    refine v_iadd (pc := 558) dL_law_558 ?_
    refine v_eqi (y := nI (i + 2)) (nI_add i 2) ?_
    refine n_sld (i + 2) (pc := 559) dL_law_559 rfl (by omega) hL4 ?_
    refine v_aload_n (pc := 560) dL_law_560 rfl rfl ?_
    refine v_iload (pc := 561) dL_law_561 rfl ?_
    refine v_iconst (pc := 563) (v := 3) dL_law_563 (by decide) ?_
    refine v_iadd (pc := 564) dL_law_564 ?_
    refine v_eqi (y := nI (i + 3)) (nI_add i 3) ?_
    refine n_sld (i + 3) (pc := 565) dL_law_565 rfl (by omega) hL4 ?_
    refine v_i2l (pc := 566) dL_law_566 ?_
    refine v_bipush (pc := 567) (v := 32) dL_law_567 (by decide) ?_
    refine v_lshl (pc := 569) dL_law_569 ?_
    refine v_aload_n (pc := 570) dL_law_570 rfl rfl ?_
    refine v_iload (pc := 571) dL_law_571 rfl ?_
    refine v_iconst (pc := 573) (v := 4) dL_law_573 (by decide) ?_
    refine v_iadd (pc := 574) dL_law_574 ?_
    refine v_eqi (y := nI (i + 4)) (nI_add i 4) ?_
    refine n_sld (i + 4) (pc := 575) dL_law_575 rfl (by omega) hL4 ?_
    refine v_i2l (pc := 576) dL_law_576 ?_
    refine v_ldc2 (pc := 577) (v := 4294967295) dL_law_577 cL_79 ?_
    refine v_land (pc := 580) dL_law_580 ?_
    refine v_lor (pc := 581) dL_law_581 ?_
    refine v_callV 0 0 (pc := 582) kL_104 dL_law_582 rfl (by assumption) (Nat.zero_le _) (Nat.zero_le _) (Nat.le_of_ble_eq_true rfl) (Nat.le_of_ble_eq_true rfl) ?_
    refine w_raise hm1 (fun c3 c4 h2 p1 p2 p3 => ?_) (fun c3 => absurd c c3) (fun c3 c4 => absurd c2 c4)
    have hW2 := LW_ah hW u2 u1 p1 p2
    have em2 := p1.1.1.1
    have ho2 := hW2.2.2.1.1
    have hl2 := hW2.2.2.1.2.1
    have hv2 := ((p2 out hn2).2.2.2.2.2.2.1 0).trans u3
    refine v_istore (pc := 585) dL_law_585 rfl rfl (by decide) ?_
    refine v_aload_n (pc := 587) dL_law_587 rfl rfl ?_
    refine v_callV 0 0 (pc := 588) kL_87 dL_law_588 rfl (by assumption) (Nat.zero_le _) (Nat.zero_le _) (Nat.le_of_ble_eq_true rfl) (Nat.le_of_ble_eq_true rfl) ?_
    refine w_thrown em2 p3 ?_
    refine v_iload (pc := 591) dL_law_591 rfl ?_
    refine v_icmp_eq 598 (pc := 593) dL_law_593 (by decide) (fun hb => ?_) (fun hb => ?_)
    · refine v_iload (pc := 598) dL_law_598 rfl ?_
      refine v_if_ne 615 (pc := 600) dL_law_600 (by decide) (fun hb => ?_) (fun hb => ?_)
      · exact absurd rfl hb
      · refine v_aload_n (pc := 603) dL_law_603 rfl rfl ?_
        refine v_iconst (pc := 604) (v := 0) dL_law_604 (by decide) ?_
        refine n_lald (0) _ (pc := 605) dL_law_605 (by assumption) (by assumption) rfl (by omega) (by decide) hv2 ?_
        refine v_iload (pc := 606) dL_law_606 rfl ?_
        refine v_i2l (pc := 608) dL_law_608 ?_
        refine v_lcmp (pc := 609) dL_law_609 ?_
        refine v_if_eq 615 (pc := 610) dL_law_610 (by decide) (fun hb => ?_) (fun hb => ?_)
        · refine v_goto 1513 (pc := 615) dL_law_615 (by decide) ?_
          refine v_loc [0, 1, 2, 3, 4] rfl ?_
          exact v_kle (by omega) (by omega) (nx h2 _ _ _ _ hW2)
        · exact absurd (lg_cmp0.mpr rfl) hb
    · exact absurd rfl hb
  · skip
    refine v_istore (pc := 545) dL_law_545 rfl rfl (by decide) ?_
    refine v_aload_n (pc := 547) dL_law_547 rfl rfl ?_
    refine v_aload_n (pc := 548) dL_law_548 rfl rfl ?_
    refine v_iload (pc := 549) dL_law_549 rfl ?_
    refine v_iconst (pc := 551) (v := 1) dL_law_551 (by decide) ?_
    refine v_iadd (pc := 552) dL_law_552 ?_
    refine v_eqi (y := nI (i + 1)) (nI_add i 1) ?_
    refine n_sld (i + 1) (pc := 553) dL_law_553 rfl (by omega) hL4 ?_
    refine v_aload_n (pc := 554) dL_law_554 rfl rfl ?_
    refine v_iload (pc := 555) dL_law_555 rfl ?_
    refine v_iconst (pc := 557) (v := 2) dL_law_557 (by decide) ?_
    refine v_iadd (pc := 558) dL_law_558 ?_
    refine v_eqi (y := nI (i + 2)) (nI_add i 2) ?_
    refine n_sld (i + 2) (pc := 559) dL_law_559 rfl (by omega) hL4 ?_
    refine v_aload_n (pc := 560) dL_law_560 rfl rfl ?_
    refine v_iload (pc := 561) dL_law_561 rfl ?_
    refine v_iconst (pc := 563) (v := 3) dL_law_563 (by decide) ?_
    refine v_iadd (pc := 564) dL_law_564 ?_
    refine v_eqi (y := nI (i + 3)) (nI_add i 3) ?_
    refine n_sld (i + 3) (pc := 565) dL_law_565 rfl (by omega) hL4 ?_
    refine v_i2l (pc := 566) dL_law_566 ?_
    refine v_bipush (pc := 567) (v := 32) dL_law_567 (by decide) ?_
    refine v_lshl (pc := 569) dL_law_569 ?_
    refine v_aload_n (pc := 570) dL_law_570 rfl rfl ?_
    refine v_iload (pc := 571) dL_law_571 rfl ?_
    refine v_iconst (pc := 573) (v := 4) dL_law_573 (by decide) ?_
    refine v_iadd (pc := 574) dL_law_574 ?_
    refine v_eqi (y := nI (i + 4)) (nI_add i 4) ?_
    refine n_sld (i + 4) (pc := 575) dL_law_575 rfl (by omega) hL4 ?_
    refine v_i2l (pc := 576) dL_law_576 ?_
    refine v_ldc2 (pc := 577) (v := 4294967295) dL_law_577 cL_79 ?_
    refine v_land (pc := 580) dL_law_580 ?_
    refine v_lor (pc := 581) dL_law_581 ?_
    refine v_callV 0 0 (pc := 582) kL_104 dL_law_582 rfl (by assumption) (Nat.zero_le _) (Nat.zero_le _) (Nat.le_of_ble_eq_true rfl) (Nat.le_of_ble_eq_true rfl) ?_
    refine w_raise hm (fun c3 => absurd c3 c) (fun c3 h2 p1 p2 p3 => ?_) (fun c3 => absurd c3 c)
    have hW2 := LW_m hW p1 p2
    have em2 := p1.1.1.1
    refine v_istore (pc := 585) dL_law_585 rfl rfl (by decide) ?_
    refine v_aload_n (pc := 587) dL_law_587 rfl rfl ?_
    refine v_callV 0 0 (pc := 588) kL_87 dL_law_588 rfl (by assumption) (Nat.zero_le _) (Nat.zero_le _) (Nat.le_of_ble_eq_true rfl) (Nat.le_of_ble_eq_true rfl) ?_
    refine w_thrown em2 p3 ?_
    refine v_iload (pc := 591) dL_law_591 rfl ?_
    refine v_icmp_eq 598 (pc := 593) dL_law_593 (by decide) (fun hb => ?_) (fun hb => ?_)
    · refine v_iload (pc := 598) dL_law_598 rfl ?_
      refine v_if_ne 615 (pc := 600) dL_law_600 (by decide) (fun hb => ?_) (fun hb => ?_)
      · refine v_goto 1513 (pc := 615) dL_law_615 (by decide) ?_
        refine v_loc [0, 1, 2, 3, 4] rfl ?_
        exact v_kle (by omega) (by omega) (nx h2 _ _ _ _ hW2)
      · exact absurd hb (by decide)
    · exact absurd rfl hb
  · skip
    refine v_istore (pc := 545) dL_law_545 rfl rfl (by decide) ?_
    refine v_aload_n (pc := 547) dL_law_547 rfl rfl ?_
    refine v_aload_n (pc := 548) dL_law_548 rfl rfl ?_
    refine v_iload (pc := 549) dL_law_549 rfl ?_
    refine v_iconst (pc := 551) (v := 1) dL_law_551 (by decide) ?_
    refine v_iadd (pc := 552) dL_law_552 ?_
    refine v_eqi (y := nI (i + 1)) (nI_add i 1) ?_
    refine n_sld (i + 1) (pc := 553) dL_law_553 rfl (by omega) hL4 ?_
    refine v_aload_n (pc := 554) dL_law_554 rfl rfl ?_
    refine v_iload (pc := 555) dL_law_555 rfl ?_
    refine v_iconst (pc := 557) (v := 2) dL_law_557 (by decide) ?_
    refine v_iadd (pc := 558) dL_law_558 ?_
    refine v_eqi (y := nI (i + 2)) (nI_add i 2) ?_
    refine n_sld (i + 2) (pc := 559) dL_law_559 rfl (by omega) hL4 ?_
    refine v_aload_n (pc := 560) dL_law_560 rfl rfl ?_
    refine v_iload (pc := 561) dL_law_561 rfl ?_
    refine v_iconst (pc := 563) (v := 3) dL_law_563 (by decide) ?_
    refine v_iadd (pc := 564) dL_law_564 ?_
    refine v_eqi (y := nI (i + 3)) (nI_add i 3) ?_
    refine n_sld (i + 3) (pc := 565) dL_law_565 rfl (by omega) hL4 ?_
    refine v_i2l (pc := 566) dL_law_566 ?_
    refine v_bipush (pc := 567) (v := 32) dL_law_567 (by decide) ?_
    refine v_lshl (pc := 569) dL_law_569 ?_
    refine v_aload_n (pc := 570) dL_law_570 rfl rfl ?_
    refine v_iload (pc := 571) dL_law_571 rfl ?_
    refine v_iconst (pc := 573) (v := 4) dL_law_573 (by decide) ?_
    refine v_iadd (pc := 574) dL_law_574 ?_
    refine v_eqi (y := nI (i + 4)) (nI_add i 4) ?_
    refine n_sld (i + 4) (pc := 575) dL_law_575 rfl (by omega) hL4 ?_
    refine v_i2l (pc := 576) dL_law_576 ?_
    refine v_ldc2 (pc := 577) (v := 4294967295) dL_law_577 cL_79 ?_
    refine v_land (pc := 580) dL_law_580 ?_
    refine v_lor (pc := 581) dL_law_581 ?_
    refine v_callV 0 0 (pc := 582) kL_104 dL_law_582 rfl (by assumption) (Nat.zero_le _) (Nat.zero_le _) (Nat.le_of_ble_eq_true rfl) (Nat.le_of_ble_eq_true rfl) ?_
    refine w_raise hm (fun c3 c4 => absurd c4 c2) (fun c3 => absurd c c3) (fun c3 c4 h2 p1 p2 p3 => ?_)
    have hW2 := LW_m hW p1 p2
    have em2 := p1.1.1.1
    refine v_istore (pc := 585) dL_law_585 rfl rfl (by decide) ?_
    refine v_aload_n (pc := 587) dL_law_587 rfl rfl ?_
    refine v_callV 0 0 (pc := 588) kL_87 dL_law_588 rfl (by assumption) (Nat.zero_le _) (Nat.zero_le _) (Nat.le_of_ble_eq_true rfl) (Nat.le_of_ble_eq_true rfl) ?_
    refine w_thrown em2 p3 ?_
    refine v_iload (pc := 591) dL_law_591 rfl ?_
    refine v_icmp_eq 598 (pc := 593) dL_law_593 (by decide) (fun hb => ?_) (fun hb => ?_)
    · refine v_iload (pc := 598) dL_law_598 rfl ?_
      refine v_if_ne 615 (pc := 600) dL_law_600 (by decide) (fun hb => ?_) (fun hb => ?_)
      · refine v_goto 1513 (pc := 615) dL_law_615 (by decide) ?_
        refine v_loc [0, 1, 2, 3, 4] rfl ?_
        exact v_kle (by omega) (by omega) (nx h2 _ _ _ _ hW2)
      · exact absurd hb (by decide)
    · exact absurd rfl hb
set_option maxHeartbeats 4000000 in
set_option maxRecDepth 100000 in
theorem g_putAll (hW : LW h x S vs sa T SS mo Sm ka va za sm ki fi la aa out V sv nm nk) (hi : i + 8 ≤ mg_L G) (hL4 : mg_L G ≤ 4096) (nx : ∀ h' V' sv' nm' nk', LW h' x S vs sa T SS mo Sm ka va za sm ki fi la aa out V' sv' nm' nk' → mv_V G jL_law (d + 11) 1513 [(0, .ref (mg_b G)), (1, .ref x), (2, .ref mo), (3, .ref out), (4, .int (nI i))] [] h' kc ks R) : mv_V G jL_law (d + 11) 618 [(0, .ref (mg_b G)), (1, .ref x), (2, .ref mo), (3, .ref out), (4, .int (nI i))] [] h (kc + 8) (ks + 48) R := by
  obtain ⟨hL, hm, ⟨ho, hl, o0⟩, hn, hn2, hdj⟩ := id hW
  have em := hm.1.1.1
  have ex := hL.1.1
  refine v_aload_n (pc := 618) dL_law_618 rfl rfl ?_
  refine v_aload_n (pc := 619) dL_law_619 rfl rfl ?_
  refine v_iload (pc := 620) dL_law_620 rfl ?_
  refine v_iconst (pc := 622) (v := 1) dL_law_622 (by decide) ?_
  refine v_iadd (pc := 623) dL_law_623 ?_
  refine v_eqi (y := nI (i + 1)) (nI_add i 1) ?_
  refine n_sld (i + 1) (pc := 624) dL_law_624 rfl (by omega) hL4 ?_
  refine v_aload_n (pc := 625) dL_law_625 rfl rfl ?_
  refine v_iload (pc := 626) dL_law_626 rfl ?_
  refine v_iconst (pc := 628) (v := 2) dL_law_628 (by decide) ?_
  refine v_iadd (pc := 629) dL_law_629 ?_
  refine v_eqi (y := nI (i + 2)) (nI_add i 2) ?_
  refine n_sld (i + 2) (pc := 630) dL_law_630 rfl (by omega) hL4 ?_
  refine v_aload_n (pc := 631) dL_law_631 rfl rfl ?_
  refine v_iload (pc := 632) dL_law_632 rfl ?_
  refine v_iconst (pc := 634) (v := 3) dL_law_634 (by decide) ?_
  refine v_iadd (pc := 635) dL_law_635 ?_
  refine v_eqi (y := nI (i + 3)) (nI_add i 3) ?_
  refine n_sld (i + 3) (pc := 636) dL_law_636 rfl (by omega) hL4 ?_
  refine v_i2l (pc := 637) dL_law_637 ?_
  refine v_bipush (pc := 638) (v := 32) dL_law_638 (by decide) ?_
  refine v_lshl (pc := 640) dL_law_640 ?_
  refine v_aload_n (pc := 641) dL_law_641 rfl rfl ?_
  refine v_iload (pc := 642) dL_law_642 rfl ?_
  refine v_iconst (pc := 644) (v := 4) dL_law_644 (by decide) ?_
  refine v_iadd (pc := 645) dL_law_645 ?_
  refine v_eqi (y := nI (i + 4)) (nI_add i 4) ?_
  refine n_sld (i + 4) (pc := 646) dL_law_646 rfl (by omega) hL4 ?_
  refine v_i2l (pc := 647) dL_law_647 ?_
  refine v_ldc2 (pc := 648) (v := 4294967295) dL_law_648 cL_79 ?_
  refine v_land (pc := 651) dL_law_651 ?_
  refine v_lor (pc := 652) dL_law_652 ?_
  refine v_aload_n (pc := 653) dL_law_653 rfl rfl ?_
  refine v_iload (pc := 654) dL_law_654 rfl ?_
  refine v_iconst (pc := 656) (v := 5) dL_law_656 (by decide) ?_
  refine v_iadd (pc := 657) dL_law_657 ?_
  refine v_eqi (y := nI (i + 5)) (nI_add i 5) ?_
  refine n_sld (i + 5) (pc := 658) dL_law_658 rfl (by omega) hL4 ?_
  refine v_i2l (pc := 659) dL_law_659 ?_
  refine v_bipush (pc := 660) (v := 32) dL_law_660 (by decide) ?_
  refine v_lshl (pc := 662) dL_law_662 ?_
  refine v_aload_n (pc := 663) dL_law_663 rfl rfl ?_
  refine v_iload (pc := 664) dL_law_664 rfl ?_
  refine v_bipush (pc := 666) (v := 6) dL_law_666 (by decide) ?_
  refine v_iadd (pc := 668) dL_law_668 ?_
  refine v_eqi (y := nI (i + 6)) (nI_add i 6) ?_
  refine n_sld (i + 6) (pc := 669) dL_law_669 rfl (by omega) hL4 ?_
  refine v_i2l (pc := 670) dL_law_670 ?_
  refine v_ldc2 (pc := 671) (v := 4294967295) dL_law_671 cL_79 ?_
  refine v_land (pc := 674) dL_law_674 ?_
  refine v_lor (pc := 675) dL_law_675 ?_
  refine v_aload_n (pc := 676) dL_law_676 rfl rfl ?_
  refine v_iload (pc := 677) dL_law_677 rfl ?_
  refine v_bipush (pc := 679) (v := 7) dL_law_679 (by decide) ?_
  refine v_iadd (pc := 681) dL_law_681 ?_
  refine v_eqi (y := nI (i + 7)) (nI_add i 7) ?_
  refine n_sld (i + 7) (pc := 682) dL_law_682 rfl (by omega) hL4 ?_
  refine v_aload_n (pc := 683) dL_law_683 rfl rfl ?_
  refine v_callS 8 48 (pc := 684) kL_105 dL_law_684 (Nat.le_of_ble_eq_true rfl) (by omega) (by omega) (Nat.le_of_ble_eq_true rfl) (Nat.le_of_ble_eq_true rfl) ?_
  refine z_putAll hL ho hl hn (fun N c c2 h1 u1 u2 u3 => ?_) (fun c => ?_)
  · have hm1 := LW_a hW u2
    have em1 := hm1.1.1.1
    refine v_istore (pc := 687) dL_law_687 rfl rfl (by decide) ?_
    refine v_aload_n (pc := 689) dL_law_689 rfl rfl ?_
    refine v_aload_n (pc := 690) dL_law_690 rfl rfl ?_
    refine v_iload (pc := 691) dL_law_691 rfl ?_
    refine v_iconst (pc := 693) (v := 1) dL_law_693 (by decide) ?_
    refine v_iadd (pc := 694) dL_law_694 ?_
    refine v_eqi (y := nI (i + 1)) (nI_add i 1) ?_
    refine n_sld (i + 1) (pc := 695) dL_law_695 rfl (by omega) hL4 ?_
    refine v_aload_n (pc := 696) dL_law_696 rfl rfl ?_
    refine v_iload (pc := 697) dL_law_697 rfl ?_
    refine v_iconst (pc := 699) (v := 2) dL_law_699 (by decide) ?_
    refine v_iadd (pc := 700) dL_law_700 ?_
    refine v_eqi (y := nI (i + 2)) (nI_add i 2) ?_
    refine n_sld (i + 2) (pc := 701) dL_law_701 rfl (by omega) hL4 ?_
    refine v_aload_n (pc := 702) dL_law_702 rfl rfl ?_
    refine v_iload (pc := 703) dL_law_703 rfl ?_
    refine v_iconst (pc := 705) (v := 3) dL_law_705 (by decide) ?_
    refine v_iadd (pc := 706) dL_law_706 ?_
    refine v_eqi (y := nI (i + 3)) (nI_add i 3) ?_
    refine n_sld (i + 3) (pc := 707) dL_law_707 rfl (by omega) hL4 ?_
    refine v_i2l (pc := 708) dL_law_708 ?_
    refine v_bipush (pc := 709) (v := 32) dL_law_709 (by decide) ?_
    refine v_lshl (pc := 711) dL_law_711 ?_
    refine v_aload_n (pc := 712) dL_law_712 rfl rfl ?_
    refine v_iload (pc := 713) dL_law_713 rfl ?_
    refine v_iconst (pc := 715) (v := 4) dL_law_715 (by decide) ?_
    refine v_iadd (pc := 716) dL_law_716 ?_
    refine v_eqi (y := nI (i + 4)) (nI_add i 4) ?_
    refine n_sld (i + 4) (pc := 717) dL_law_717 rfl (by omega) hL4 ?_
    refine v_i2l (pc := 718) dL_law_718 ?_
    refine v_ldc2 (pc := 719) (v := 4294967295) dL_law_719 cL_79 ?_
    refine v_land (pc := 722) dL_law_722 ?_
    refine v_lor (pc := 723) dL_law_723 ?_
    refine v_aload_n (pc := 724) dL_law_724 rfl rfl ?_
    refine v_iload (pc := 725) dL_law_725 rfl ?_
    refine v_iconst (pc := 727) (v := 5) dL_law_727 (by decide) ?_
    refine v_iadd (pc := 728) dL_law_728 ?_
    refine v_eqi (y := nI (i + 5)) (nI_add i 5) ?_
    refine n_sld (i + 5) (pc := 729) dL_law_729 rfl (by omega) hL4 ?_
    refine v_i2l (pc := 730) dL_law_730 ?_
    refine v_bipush (pc := 731) (v := 32) dL_law_731 (by decide) ?_
    refine v_lshl (pc := 733) dL_law_733 ?_
    refine v_aload_n (pc := 734) dL_law_734 rfl rfl ?_
    refine v_iload (pc := 735) dL_law_735 rfl ?_
    refine v_bipush (pc := 737) (v := 6) dL_law_737 (by decide) ?_
    refine v_iadd (pc := 739) dL_law_739 ?_
    refine v_eqi (y := nI (i + 6)) (nI_add i 6) ?_
    refine n_sld (i + 6) (pc := 740) dL_law_740 rfl (by omega) hL4 ?_
    refine v_i2l (pc := 741) dL_law_741 ?_
    refine v_ldc2 (pc := 742) (v := 4294967295) dL_law_742 cL_79 ?_
    refine v_land (pc := 745) dL_law_745 ?_
    refine v_lor (pc := 746) dL_law_746 ?_
    refine v_aload_n (pc := 747) dL_law_747 rfl rfl ?_
    refine v_iload (pc := 748) dL_law_748 rfl ?_
    refine v_bipush (pc := 750) (v := 7) dL_law_750 (by decide) ?_
    refine v_iadd (pc := 752) dL_law_752 ?_
    refine v_eqi (y := nI (i + 7)) (nI_add i 7) ?_
    refine n_sld (i + 7) (pc := 753) dL_law_753 rfl (by omega) hL4 ?_
    refine v_callV 0 0 (pc := 754) kL_108 dL_law_754 rfl (by assumption) (Nat.zero_le _) (Nat.zero_le _) (Nat.le_of_ble_eq_true rfl) (Nat.le_of_ble_eq_true rfl) ?_
    refine w_putAll hm1 (fun N2 c3 c4 h2 p1 p2 p3 => ?_) (fun c3 => absurd c2 (c3 N c))
    obtain rfl : N2 = N := (nI_eq (by omega) (by omega)).mp (c4.symm.trans c2)
    have hW2 := LW_ah hW u2 u1 p1 p2
    have em2 := p1.1.1.1
    have ho2 := hW2.2.2.1.1
    have hl2 := hW2.2.2.1.2.1
    have hv2 := ((p2 out hn2).2.2.2.2.2.2.1 0).trans u3
    refine v_istore (pc := 757) dL_law_757 rfl rfl (by decide) ?_
    refine v_aload_n (pc := 759) dL_law_759 rfl rfl ?_
    refine v_callV 0 0 (pc := 760) kL_87 dL_law_760 rfl (by assumption) (Nat.zero_le _) (Nat.zero_le _) (Nat.le_of_ble_eq_true rfl) (Nat.le_of_ble_eq_true rfl) ?_
    refine w_thrown em2 p3 ?_
    refine v_iload (pc := 763) dL_law_763 rfl ?_
    refine v_icmp_eq 770 (pc := 765) dL_law_765 (by decide) (fun hb => ?_) (fun hb => ?_)
    · refine v_iload (pc := 770) dL_law_770 rfl ?_
      refine v_if_ne 787 (pc := 772) dL_law_772 (by decide) (fun hb => ?_) (fun hb => ?_)
      · exact absurd rfl hb
      · refine v_aload_n (pc := 775) dL_law_775 rfl rfl ?_
        refine v_iconst (pc := 776) (v := 0) dL_law_776 (by decide) ?_
        refine n_lald (0) _ (pc := 777) dL_law_777 (by assumption) (by assumption) rfl (by omega) (by decide) hv2 ?_
        refine v_iload (pc := 778) dL_law_778 rfl ?_
        refine v_i2l (pc := 780) dL_law_780 ?_
        refine v_lcmp (pc := 781) dL_law_781 ?_
        refine v_if_eq 787 (pc := 782) dL_law_782 (by decide) (fun hb => ?_) (fun hb => ?_)
        · refine v_goto 1513 (pc := 787) dL_law_787 (by decide) ?_
          refine v_loc [0, 1, 2, 3, 4] rfl ?_
          exact v_kle (by omega) (by omega) (nx h2 _ _ _ _ hW2)
        · exact absurd (lg_cmp0.mpr rfl) hb
    · exact absurd rfl hb
  · skip
    refine v_istore (pc := 687) dL_law_687 rfl rfl (by decide) ?_
    refine v_aload_n (pc := 689) dL_law_689 rfl rfl ?_
    refine v_aload_n (pc := 690) dL_law_690 rfl rfl ?_
    refine v_iload (pc := 691) dL_law_691 rfl ?_
    refine v_iconst (pc := 693) (v := 1) dL_law_693 (by decide) ?_
    refine v_iadd (pc := 694) dL_law_694 ?_
    refine v_eqi (y := nI (i + 1)) (nI_add i 1) ?_
    refine n_sld (i + 1) (pc := 695) dL_law_695 rfl (by omega) hL4 ?_
    refine v_aload_n (pc := 696) dL_law_696 rfl rfl ?_
    refine v_iload (pc := 697) dL_law_697 rfl ?_
    refine v_iconst (pc := 699) (v := 2) dL_law_699 (by decide) ?_
    refine v_iadd (pc := 700) dL_law_700 ?_
    refine v_eqi (y := nI (i + 2)) (nI_add i 2) ?_
    refine n_sld (i + 2) (pc := 701) dL_law_701 rfl (by omega) hL4 ?_
    refine v_aload_n (pc := 702) dL_law_702 rfl rfl ?_
    refine v_iload (pc := 703) dL_law_703 rfl ?_
    refine v_iconst (pc := 705) (v := 3) dL_law_705 (by decide) ?_
    refine v_iadd (pc := 706) dL_law_706 ?_
    refine v_eqi (y := nI (i + 3)) (nI_add i 3) ?_
    refine n_sld (i + 3) (pc := 707) dL_law_707 rfl (by omega) hL4 ?_
    refine v_i2l (pc := 708) dL_law_708 ?_
    refine v_bipush (pc := 709) (v := 32) dL_law_709 (by decide) ?_
    refine v_lshl (pc := 711) dL_law_711 ?_
    refine v_aload_n (pc := 712) dL_law_712 rfl rfl ?_
    refine v_iload (pc := 713) dL_law_713 rfl ?_
    refine v_iconst (pc := 715) (v := 4) dL_law_715 (by decide) ?_
    refine v_iadd (pc := 716) dL_law_716 ?_
    refine v_eqi (y := nI (i + 4)) (nI_add i 4) ?_
    refine n_sld (i + 4) (pc := 717) dL_law_717 rfl (by omega) hL4 ?_
    refine v_i2l (pc := 718) dL_law_718 ?_
    refine v_ldc2 (pc := 719) (v := 4294967295) dL_law_719 cL_79 ?_
    refine v_land (pc := 722) dL_law_722 ?_
    refine v_lor (pc := 723) dL_law_723 ?_
    refine v_aload_n (pc := 724) dL_law_724 rfl rfl ?_
    refine v_iload (pc := 725) dL_law_725 rfl ?_
    refine v_iconst (pc := 727) (v := 5) dL_law_727 (by decide) ?_
    refine v_iadd (pc := 728) dL_law_728 ?_
    refine v_eqi (y := nI (i + 5)) (nI_add i 5) ?_
    refine n_sld (i + 5) (pc := 729) dL_law_729 rfl (by omega) hL4 ?_
    refine v_i2l (pc := 730) dL_law_730 ?_
    refine v_bipush (pc := 731) (v := 32) dL_law_731 (by decide) ?_
    refine v_lshl (pc := 733) dL_law_733 ?_
    refine v_aload_n (pc := 734) dL_law_734 rfl rfl ?_
    refine v_iload (pc := 735) dL_law_735 rfl ?_
    refine v_bipush (pc := 737) (v := 6) dL_law_737 (by decide) ?_
    refine v_iadd (pc := 739) dL_law_739 ?_
    refine v_eqi (y := nI (i + 6)) (nI_add i 6) ?_
    refine n_sld (i + 6) (pc := 740) dL_law_740 rfl (by omega) hL4 ?_
    refine v_i2l (pc := 741) dL_law_741 ?_
    refine v_ldc2 (pc := 742) (v := 4294967295) dL_law_742 cL_79 ?_
    refine v_land (pc := 745) dL_law_745 ?_
    refine v_lor (pc := 746) dL_law_746 ?_
    refine v_aload_n (pc := 747) dL_law_747 rfl rfl ?_
    refine v_iload (pc := 748) dL_law_748 rfl ?_
    refine v_bipush (pc := 750) (v := 7) dL_law_750 (by decide) ?_
    refine v_iadd (pc := 752) dL_law_752 ?_
    refine v_eqi (y := nI (i + 7)) (nI_add i 7) ?_
    refine n_sld (i + 7) (pc := 753) dL_law_753 rfl (by omega) hL4 ?_
    refine v_callV 0 0 (pc := 754) kL_108 dL_law_754 rfl (by assumption) (Nat.zero_le _) (Nat.zero_le _) (Nat.le_of_ble_eq_true rfl) (Nat.le_of_ble_eq_true rfl) ?_
    refine w_putAll hm (fun N2 c3 c4 => absurd c4 (c N2 c3)) (fun c3 h2 p1 p2 p3 => ?_)
    have hW2 := LW_m hW p1 p2
    have em2 := p1.1.1.1
    refine v_istore (pc := 757) dL_law_757 rfl rfl (by decide) ?_
    refine v_aload_n (pc := 759) dL_law_759 rfl rfl ?_
    refine v_callV 0 0 (pc := 760) kL_87 dL_law_760 rfl (by assumption) (Nat.zero_le _) (Nat.zero_le _) (Nat.le_of_ble_eq_true rfl) (Nat.le_of_ble_eq_true rfl) ?_
    refine w_thrown em2 p3 ?_
    refine v_iload (pc := 763) dL_law_763 rfl ?_
    refine v_icmp_eq 770 (pc := 765) dL_law_765 (by decide) (fun hb => ?_) (fun hb => ?_)
    · refine v_iload (pc := 770) dL_law_770 rfl ?_
      refine v_if_ne 787 (pc := 772) dL_law_772 (by decide) (fun hb => ?_) (fun hb => ?_)
      · refine v_goto 1513 (pc := 787) dL_law_787 (by decide) ?_
        refine v_loc [0, 1, 2, 3, 4] rfl ?_
        exact v_kle (by omega) (by omega) (nx h2 _ _ _ _ hW2)
      · exact absurd hb (by decide)
    · exact absurd rfl hb
set_option maxHeartbeats 4000000 in
set_option maxRecDepth 100000 in
theorem g_has (hW : LW h x S vs sa T SS mo Sm ka va za sm ki fi la aa out V sv nm nk) (hi : i + 8 ≤ mg_L G) (hL4 : mg_L G ≤ 4096) (nx : ∀ h' V' sv' nm' nk', LW h' x S vs sa T SS mo Sm ka va za sm ki fi la aa out V' sv' nm' nk' → mv_V G jL_law (d + 11) 1513 [(0, .ref (mg_b G)), (1, .ref x), (2, .ref mo), (3, .ref out), (4, .int (nI i))] [] h' kc ks R) : mv_V G jL_law (d + 11) 790 [(0, .ref (mg_b G)), (1, .ref x), (2, .ref mo), (3, .ref out), (4, .int (nI i))] [] h (kc + 8) (ks + 48) R := by
  obtain ⟨hL, hm, ⟨ho, hl, o0⟩, hn, hn2, hdj⟩ := id hW
  have em := hm.1.1.1
  have ex := hL.1.1
  refine v_aload_n (pc := 790) dL_law_790 rfl rfl ?_
  refine v_aload_n (pc := 791) dL_law_791 rfl rfl ?_
  refine v_iload (pc := 792) dL_law_792 rfl ?_
  refine v_iconst (pc := 794) (v := 1) dL_law_794 (by decide) ?_
  refine v_iadd (pc := 795) dL_law_795 ?_
  refine v_eqi (y := nI (i + 1)) (nI_add i 1) ?_
  refine n_sld (i + 1) (pc := 796) dL_law_796 rfl (by omega) hL4 ?_
  refine v_aload_n (pc := 797) dL_law_797 rfl rfl ?_
  refine v_iload (pc := 798) dL_law_798 rfl ?_
  refine v_iconst (pc := 800) (v := 2) dL_law_800 (by decide) ?_
  refine v_iadd (pc := 801) dL_law_801 ?_
  refine v_eqi (y := nI (i + 2)) (nI_add i 2) ?_
  refine n_sld (i + 2) (pc := 802) dL_law_802 rfl (by omega) hL4 ?_
  refine v_aload_n (pc := 803) dL_law_803 rfl rfl ?_
  refine v_callS 8 48 (pc := 804) kL_109 dL_law_804 (Nat.le_of_ble_eq_true rfl) (by omega) (by omega) (Nat.le_of_ble_eq_true rfl) (Nat.le_of_ble_eq_true rfl) ?_
  refine z_has hL ho hl hn (fun j hj h1 u1 u2 u3 => ?_) (fun c => ?_)
  · have hm1 := LW_a hW u2
    have em1 := hm1.1.1.1
    refine v_istore (pc := 807) dL_law_807 rfl rfl (by decide) ?_
    refine v_aload_n (pc := 809) dL_law_809 rfl rfl ?_
    refine v_aload_n (pc := 810) dL_law_810 rfl rfl ?_
    refine v_iload (pc := 811) dL_law_811 rfl ?_
    refine v_iconst (pc := 813) (v := 1) dL_law_813 (by decide) ?_
    refine v_iadd (pc := 814) dL_law_814 ?_
    refine v_eqi (y := nI (i + 1)) (nI_add i 1) ?_
    refine n_sld (i + 1) (pc := 815) dL_law_815 rfl (by omega) hL4 ?_
    refine v_aload_n (pc := 816) dL_law_816 rfl rfl ?_
    refine v_iload (pc := 817) dL_law_817 rfl ?_
    refine v_iconst (pc := 819) (v := 2) dL_law_819 (by decide) ?_
    refine v_iadd (pc := 820) dL_law_820 ?_
    refine v_eqi (y := nI (i + 2)) (nI_add i 2) ?_
    refine n_sld (i + 2) (pc := 821) dL_law_821 rfl (by omega) hL4 ?_
    refine v_callV 0 0 (pc := 822) kL_111 dL_law_822 rfl (by assumption) (Nat.zero_le _) (Nat.zero_le _) (Nat.le_of_ble_eq_true rfl) (Nat.le_of_ble_eq_true rfl) ?_
    refine w_has hm1 (fun j2 hj2 h2 p1 p2 p3 => ?_) (fun c2 => absurd hj (c2 j))
    obtain rfl := isR_uniq hj2 hj
    have hW2 := LW_ah hW u2 u1 p1 p2
    have em2 := p1.1.1.1
    have ho2 := hW2.2.2.1.1
    have hl2 := hW2.2.2.1.2.1
    have hv2 := ((p2 out hn2).2.2.2.2.2.2.1 0).trans u3
    by_cases ck : hasK (V j2) (mg_x G (i + 2)) = true
    · rw [if_pos ck] at hv2 ⊢
      refine v_istore (pc := 825) dL_law_825 rfl rfl (by decide) ?_
      refine v_aload_n (pc := 827) dL_law_827 rfl rfl ?_
      refine v_callV 0 0 (pc := 828) kL_87 dL_law_828 rfl (by assumption) (Nat.zero_le _) (Nat.zero_le _) (Nat.le_of_ble_eq_true rfl) (Nat.le_of_ble_eq_true rfl) ?_
      refine w_thrown em2 p3 ?_
      refine v_iload (pc := 831) dL_law_831 rfl ?_
      refine v_icmp_eq 838 (pc := 833) dL_law_833 (by decide) (fun hb => ?_) (fun hb => ?_)
      · refine v_iload (pc := 838) dL_law_838 rfl ?_
        refine v_if_ne 862 (pc := 840) dL_law_840 (by decide) (fun hb => ?_) (fun hb => ?_)
        · exact absurd rfl hb
        · refine v_aload_n (pc := 843) dL_law_843 rfl rfl ?_
          refine v_iconst (pc := 844) (v := 0) dL_law_844 (by decide) ?_
          refine n_lald (0) _ (pc := 845) dL_law_845 (by assumption) (by assumption) rfl (by omega) (by decide) hv2 ?_
          refine v_iload (pc := 846) dL_law_846 rfl ?_
          refine v_if_eq 855 (pc := 848) dL_law_848 (by decide) (fun hb => ?_) (fun hb => ?_)
          · exact absurd hb (by decide)
          · refine v_lconst (pc := 851) (v := 1) dL_law_851 (by decide) ?_
            refine v_goto 856 (pc := 852) dL_law_852 (by decide) ?_
            refine v_lcmp (pc := 856) dL_law_856 ?_
            refine v_if_eq 862 (pc := 857) dL_law_857 (by decide) (fun hb => ?_) (fun hb => ?_)
            · refine v_goto 1513 (pc := 862) dL_law_862 (by decide) ?_
              refine v_loc [0, 1, 2, 3, 4] rfl ?_
              exact v_kle (by omega) (by omega) (nx h2 _ _ _ _ hW2)
            · exact absurd (lg_cmp0.mpr rfl) hb
      · exact absurd rfl hb
    · rw [if_neg ck] at hv2 ⊢
      refine v_istore (pc := 825) dL_law_825 rfl rfl (by decide) ?_
      refine v_aload_n (pc := 827) dL_law_827 rfl rfl ?_
      refine v_callV 0 0 (pc := 828) kL_87 dL_law_828 rfl (by assumption) (Nat.zero_le _) (Nat.zero_le _) (Nat.le_of_ble_eq_true rfl) (Nat.le_of_ble_eq_true rfl) ?_
      refine w_thrown em2 p3 ?_
      refine v_iload (pc := 831) dL_law_831 rfl ?_
      refine v_icmp_eq 838 (pc := 833) dL_law_833 (by decide) (fun hb => ?_) (fun hb => ?_)
      · refine v_iload (pc := 838) dL_law_838 rfl ?_
        refine v_if_ne 862 (pc := 840) dL_law_840 (by decide) (fun hb => ?_) (fun hb => ?_)
        · exact absurd rfl hb
        · refine v_aload_n (pc := 843) dL_law_843 rfl rfl ?_
          refine v_iconst (pc := 844) (v := 0) dL_law_844 (by decide) ?_
          refine n_lald (0) _ (pc := 845) dL_law_845 (by assumption) (by assumption) rfl (by omega) (by decide) hv2 ?_
          refine v_iload (pc := 846) dL_law_846 rfl ?_
          refine v_if_eq 855 (pc := 848) dL_law_848 (by decide) (fun hb => ?_) (fun hb => ?_)
          · refine v_lconst (pc := 855) (v := 0) dL_law_855 (by decide) ?_
            refine v_lcmp (pc := 856) dL_law_856 ?_
            refine v_if_eq 862 (pc := 857) dL_law_857 (by decide) (fun hb => ?_) (fun hb => ?_)
            · refine v_goto 1513 (pc := 862) dL_law_862 (by decide) ?_
              refine v_loc [0, 1, 2, 3, 4] rfl ?_
              exact v_kle (by omega) (by omega) (nx h2 _ _ _ _ hW2)
            · exact absurd (lg_cmp0.mpr rfl) hb
          · exact absurd rfl hb
      · exact absurd rfl hb
  · skip
    refine v_istore (pc := 807) dL_law_807 rfl rfl (by decide) ?_
    refine v_aload_n (pc := 809) dL_law_809 rfl rfl ?_
    refine v_aload_n (pc := 810) dL_law_810 rfl rfl ?_
    refine v_iload (pc := 811) dL_law_811 rfl ?_
    refine v_iconst (pc := 813) (v := 1) dL_law_813 (by decide) ?_
    refine v_iadd (pc := 814) dL_law_814 ?_
    refine v_eqi (y := nI (i + 1)) (nI_add i 1) ?_
    refine n_sld (i + 1) (pc := 815) dL_law_815 rfl (by omega) hL4 ?_
    refine v_aload_n (pc := 816) dL_law_816 rfl rfl ?_
    refine v_iload (pc := 817) dL_law_817 rfl ?_
    refine v_iconst (pc := 819) (v := 2) dL_law_819 (by decide) ?_
    refine v_iadd (pc := 820) dL_law_820 ?_
    refine v_eqi (y := nI (i + 2)) (nI_add i 2) ?_
    refine n_sld (i + 2) (pc := 821) dL_law_821 rfl (by omega) hL4 ?_
    refine v_callV 0 0 (pc := 822) kL_111 dL_law_822 rfl (by assumption) (Nat.zero_le _) (Nat.zero_le _) (Nat.le_of_ble_eq_true rfl) (Nat.le_of_ble_eq_true rfl) ?_
    refine w_has hm (fun j2 hj2 => absurd hj2 (c j2)) (fun c2 h2 p1 p2 p3 => ?_)
    have hW2 := LW_m hW p1 p2
    have em2 := p1.1.1.1
    refine v_istore (pc := 825) dL_law_825 rfl rfl (by decide) ?_
    refine v_aload_n (pc := 827) dL_law_827 rfl rfl ?_
    refine v_callV 0 0 (pc := 828) kL_87 dL_law_828 rfl (by assumption) (Nat.zero_le _) (Nat.zero_le _) (Nat.le_of_ble_eq_true rfl) (Nat.le_of_ble_eq_true rfl) ?_
    refine w_thrown em2 p3 ?_
    refine v_iload (pc := 831) dL_law_831 rfl ?_
    refine v_icmp_eq 838 (pc := 833) dL_law_833 (by decide) (fun hb => ?_) (fun hb => ?_)
    · refine v_iload (pc := 838) dL_law_838 rfl ?_
      refine v_if_ne 862 (pc := 840) dL_law_840 (by decide) (fun hb => ?_) (fun hb => ?_)
      · refine v_goto 1513 (pc := 862) dL_law_862 (by decide) ?_
        refine v_loc [0, 1, 2, 3, 4] rfl ?_
        exact v_kle (by omega) (by omega) (nx h2 _ _ _ _ hW2)
      · exact absurd hb (by decide)
    · exact absurd rfl hb
set_option maxHeartbeats 4000000 in
set_option maxRecDepth 100000 in
theorem g_get (hW : LW h x S vs sa T SS mo Sm ka va za sm ki fi la aa out V sv nm nk) (hi : i + 8 ≤ mg_L G) (hL4 : mg_L G ≤ 4096) (nx : ∀ h' V' sv' nm' nk', LW h' x S vs sa T SS mo Sm ka va za sm ki fi la aa out V' sv' nm' nk' → mv_V G jL_law (d + 11) 1513 [(0, .ref (mg_b G)), (1, .ref x), (2, .ref mo), (3, .ref out), (4, .int (nI i))] [] h' kc ks R) : mv_V G jL_law (d + 11) 865 [(0, .ref (mg_b G)), (1, .ref x), (2, .ref mo), (3, .ref out), (4, .int (nI i))] [] h (kc + 8) (ks + 48) R := by
  obtain ⟨hL, hm, ⟨ho, hl, o0⟩, hn, hn2, hdj⟩ := id hW
  have em := hm.1.1.1
  have ex := hL.1.1
  refine v_aload_n (pc := 865) dL_law_865 rfl rfl ?_
  refine v_aload_n (pc := 866) dL_law_866 rfl rfl ?_
  refine v_iload (pc := 867) dL_law_867 rfl ?_
  refine v_iconst (pc := 869) (v := 1) dL_law_869 (by decide) ?_
  refine v_iadd (pc := 870) dL_law_870 ?_
  refine v_eqi (y := nI (i + 1)) (nI_add i 1) ?_
  refine n_sld (i + 1) (pc := 871) dL_law_871 rfl (by omega) hL4 ?_
  refine v_aload_n (pc := 872) dL_law_872 rfl rfl ?_
  refine v_iload (pc := 873) dL_law_873 rfl ?_
  refine v_iconst (pc := 875) (v := 2) dL_law_875 (by decide) ?_
  refine v_iadd (pc := 876) dL_law_876 ?_
  refine v_eqi (y := nI (i + 2)) (nI_add i 2) ?_
  refine n_sld (i + 2) (pc := 877) dL_law_877 rfl (by omega) hL4 ?_
  refine v_aload_n (pc := 878) dL_law_878 rfl rfl ?_
  refine v_callS 8 48 (pc := 879) kL_112 dL_law_879 (Nat.le_of_ble_eq_true rfl) (by omega) (by omega) (Nat.le_of_ble_eq_true rfl) (Nat.le_of_ble_eq_true rfl) ?_
  refine z_get hL ho hl hn (fun j hj h1 u1 u2 u3 => ?_) (fun c => ?_)
  · have hm1 := LW_a hW u2
    have em1 := hm1.1.1.1
    refine v_istore (pc := 882) dL_law_882 rfl rfl (by decide) ?_
    refine v_aload_n (pc := 884) dL_law_884 rfl rfl ?_
    refine v_aload_n (pc := 885) dL_law_885 rfl rfl ?_
    refine v_iload (pc := 886) dL_law_886 rfl ?_
    refine v_iconst (pc := 888) (v := 1) dL_law_888 (by decide) ?_
    refine v_iadd (pc := 889) dL_law_889 ?_
    refine v_eqi (y := nI (i + 1)) (nI_add i 1) ?_
    refine n_sld (i + 1) (pc := 890) dL_law_890 rfl (by omega) hL4 ?_
    refine v_aload_n (pc := 891) dL_law_891 rfl rfl ?_
    refine v_iload (pc := 892) dL_law_892 rfl ?_
    refine v_iconst (pc := 894) (v := 2) dL_law_894 (by decide) ?_
    refine v_iadd (pc := 895) dL_law_895 ?_
    refine v_eqi (y := nI (i + 2)) (nI_add i 2) ?_
    refine n_sld (i + 2) (pc := 896) dL_law_896 rfl (by omega) hL4 ?_
    refine v_callV 0 0 (pc := 897) kL_114 dL_law_897 rfl (by assumption) (Nat.zero_le _) (Nat.zero_le _) (Nat.le_of_ble_eq_true rfl) (Nat.le_of_ble_eq_true rfl) ?_
    refine w_get hm1 (fun j2 hj2 h2 p1 p2 p3 => ?_) (fun c2 => absurd hj (c2 j))
    obtain rfl := isR_uniq hj2 hj
    have hW2 := LW_ah hW u2 u1 p1 p2
    have em2 := p1.1.1.1
    have ho2 := hW2.2.2.1.1
    have hl2 := hW2.2.2.1.2.1
    have hv2 := ((p2 out hn2).2.2.2.2.2.2.1 0).trans u3
    refine v_lstore (pc := 900) dL_law_900 rfl rfl rfl (by decide) ?_
    refine v_aload_n (pc := 902) dL_law_902 rfl rfl ?_
    refine v_callV 0 0 (pc := 903) kL_87 dL_law_903 rfl (by assumption) (Nat.zero_le _) (Nat.zero_le _) (Nat.le_of_ble_eq_true rfl) (Nat.le_of_ble_eq_true rfl) ?_
    refine w_thrown em2 p3 ?_
    refine v_iload (pc := 906) dL_law_906 rfl ?_
    refine v_icmp_eq 913 (pc := 908) dL_law_908 (by decide) (fun hb => ?_) (fun hb => ?_)
    · refine v_iload (pc := 913) dL_law_913 rfl ?_
      refine v_if_ne 929 (pc := 915) dL_law_915 (by decide) (fun hb => ?_) (fun hb => ?_)
      · exact absurd rfl hb
      · refine v_aload_n (pc := 918) dL_law_918 rfl rfl ?_
        refine v_iconst (pc := 919) (v := 0) dL_law_919 (by decide) ?_
        refine n_lald (0) _ (pc := 920) dL_law_920 (by assumption) (by assumption) rfl (by omega) (by decide) hv2 ?_
        refine v_lload (pc := 921) dL_law_921 rfl ?_
        refine v_lcmp (pc := 923) dL_law_923 ?_
        refine v_if_eq 929 (pc := 924) dL_law_924 (by decide) (fun hb => ?_) (fun hb => ?_)
        · refine v_goto 1513 (pc := 929) dL_law_929 (by decide) ?_
          refine v_loc [0, 1, 2, 3, 4] rfl ?_
          exact v_kle (by omega) (by omega) (nx h2 _ _ _ _ hW2)
        · exact absurd (lg_cmp0.mpr rfl) hb
    · exact absurd rfl hb
  · skip
    refine v_istore (pc := 882) dL_law_882 rfl rfl (by decide) ?_
    refine v_aload_n (pc := 884) dL_law_884 rfl rfl ?_
    refine v_aload_n (pc := 885) dL_law_885 rfl rfl ?_
    refine v_iload (pc := 886) dL_law_886 rfl ?_
    refine v_iconst (pc := 888) (v := 1) dL_law_888 (by decide) ?_
    refine v_iadd (pc := 889) dL_law_889 ?_
    refine v_eqi (y := nI (i + 1)) (nI_add i 1) ?_
    refine n_sld (i + 1) (pc := 890) dL_law_890 rfl (by omega) hL4 ?_
    refine v_aload_n (pc := 891) dL_law_891 rfl rfl ?_
    refine v_iload (pc := 892) dL_law_892 rfl ?_
    refine v_iconst (pc := 894) (v := 2) dL_law_894 (by decide) ?_
    refine v_iadd (pc := 895) dL_law_895 ?_
    refine v_eqi (y := nI (i + 2)) (nI_add i 2) ?_
    refine n_sld (i + 2) (pc := 896) dL_law_896 rfl (by omega) hL4 ?_
    refine v_callV 0 0 (pc := 897) kL_114 dL_law_897 rfl (by assumption) (Nat.zero_le _) (Nat.zero_le _) (Nat.le_of_ble_eq_true rfl) (Nat.le_of_ble_eq_true rfl) ?_
    refine w_get hm (fun j2 hj2 => absurd hj2 (c j2)) (fun c2 h2 p1 p2 p3 => ?_)
    have hW2 := LW_m hW p1 p2
    have em2 := p1.1.1.1
    refine v_lstore (pc := 900) dL_law_900 rfl rfl rfl (by decide) ?_
    refine v_aload_n (pc := 902) dL_law_902 rfl rfl ?_
    refine v_callV 0 0 (pc := 903) kL_87 dL_law_903 rfl (by assumption) (Nat.zero_le _) (Nat.zero_le _) (Nat.le_of_ble_eq_true rfl) (Nat.le_of_ble_eq_true rfl) ?_
    refine w_thrown em2 p3 ?_
    refine v_iload (pc := 906) dL_law_906 rfl ?_
    refine v_icmp_eq 913 (pc := 908) dL_law_908 (by decide) (fun hb => ?_) (fun hb => ?_)
    · refine v_iload (pc := 913) dL_law_913 rfl ?_
      refine v_if_ne 929 (pc := 915) dL_law_915 (by decide) (fun hb => ?_) (fun hb => ?_)
      · refine v_goto 1513 (pc := 929) dL_law_929 (by decide) ?_
        refine v_loc [0, 1, 2, 3, 4] rfl ?_
        exact v_kle (by omega) (by omega) (nx h2 _ _ _ _ hW2)
      · exact absurd hb (by decide)
    · exact absurd rfl hb
set_option maxHeartbeats 4000000 in
set_option maxRecDepth 100000 in
theorem g_count (hW : LW h x S vs sa T SS mo Sm ka va za sm ki fi la aa out V sv nm nk) (hi : i + 8 ≤ mg_L G) (hL4 : mg_L G ≤ 4096) (nx : ∀ h' V' sv' nm' nk', LW h' x S vs sa T SS mo Sm ka va za sm ki fi la aa out V' sv' nm' nk' → mv_V G jL_law (d + 11) 1513 [(0, .ref (mg_b G)), (1, .ref x), (2, .ref mo), (3, .ref out), (4, .int (nI i))] [] h' kc ks R) : mv_V G jL_law (d + 11) 932 [(0, .ref (mg_b G)), (1, .ref x), (2, .ref mo), (3, .ref out), (4, .int (nI i))] [] h (kc + 8) (ks + 48) R := by
  obtain ⟨hL, hm, ⟨ho, hl, o0⟩, hn, hn2, hdj⟩ := id hW
  have em := hm.1.1.1
  have ex := hL.1.1
  refine v_aload_n (pc := 932) dL_law_932 rfl rfl ?_
  refine v_aload_n (pc := 933) dL_law_933 rfl rfl ?_
  refine v_iload (pc := 934) dL_law_934 rfl ?_
  refine v_iconst (pc := 936) (v := 1) dL_law_936 (by decide) ?_
  refine v_iadd (pc := 937) dL_law_937 ?_
  refine v_eqi (y := nI (i + 1)) (nI_add i 1) ?_
  refine n_sld (i + 1) (pc := 938) dL_law_938 rfl (by omega) hL4 ?_
  refine v_aload_n (pc := 939) dL_law_939 rfl rfl ?_
  refine v_iload (pc := 940) dL_law_940 rfl ?_
  refine v_iconst (pc := 942) (v := 2) dL_law_942 (by decide) ?_
  refine v_iadd (pc := 943) dL_law_943 ?_
  refine v_eqi (y := nI (i + 2)) (nI_add i 2) ?_
  refine n_sld (i + 2) (pc := 944) dL_law_944 rfl (by omega) hL4 ?_
  refine v_aload_n (pc := 945) dL_law_945 rfl rfl ?_
  refine v_iload (pc := 946) dL_law_946 rfl ?_
  refine v_iconst (pc := 948) (v := 3) dL_law_948 (by decide) ?_
  refine v_iadd (pc := 949) dL_law_949 ?_
  refine v_eqi (y := nI (i + 3)) (nI_add i 3) ?_
  refine n_sld (i + 3) (pc := 950) dL_law_950 rfl (by omega) hL4 ?_
  refine v_aload_n (pc := 951) dL_law_951 rfl rfl ?_
  refine v_callS 8 48 (pc := 952) kL_115 dL_law_952 (Nat.le_of_ble_eq_true rfl) (by omega) (by omega) (Nat.le_of_ble_eq_true rfl) (Nat.le_of_ble_eq_true rfl) ?_
  refine z_count hL ho hl hn (fun j hj c h1 u1 u2 u3 => ?_) (fun c => ?_) (fun j hj c => ?_)
  · have hm1 := LW_a hW u2
    have em1 := hm1.1.1.1
    refine v_istore (pc := 955) dL_law_955 rfl rfl (by decide) ?_
    refine v_aload_n (pc := 957) dL_law_957 rfl rfl ?_
    refine v_aload_n (pc := 958) dL_law_958 rfl rfl ?_
    refine v_iload (pc := 959) dL_law_959 rfl ?_
    refine v_iconst (pc := 961) (v := 1) dL_law_961 (by decide) ?_
    refine v_iadd (pc := 962) dL_law_962 ?_
    refine v_eqi (y := nI (i + 1)) (nI_add i 1) ?_
    refine n_sld (i + 1) (pc := 963) dL_law_963 rfl (by omega) hL4 ?_
    refine v_aload_n (pc := 964) dL_law_964 rfl rfl ?_
    refine v_iload (pc := 965) dL_law_965 rfl ?_
    refine v_iconst (pc := 967) (v := 2) dL_law_967 (by decide) ?_
    refine v_iadd (pc := 968) dL_law_968 ?_
    refine v_eqi (y := nI (i + 2)) (nI_add i 2) ?_
    refine n_sld (i + 2) (pc := 969) dL_law_969 rfl (by omega) hL4 ?_
    refine v_aload_n (pc := 970) dL_law_970 rfl rfl ?_
    refine v_iload (pc := 971) dL_law_971 rfl ?_
    refine v_iconst (pc := 973) (v := 3) dL_law_973 (by decide) ?_
    refine v_iadd (pc := 974) dL_law_974 ?_
    refine v_eqi (y := nI (i + 3)) (nI_add i 3) ?_
    refine n_sld (i + 3) (pc := 975) dL_law_975 rfl (by omega) hL4 ?_
    refine v_callV 0 0 (pc := 976) kL_118 dL_law_976 rfl (by assumption) (Nat.zero_le _) (Nat.zero_le _) (Nat.le_of_ble_eq_true rfl) (Nat.le_of_ble_eq_true rfl) ?_
    refine w_count hm1 (fun j2 hj2 c2 h2 p1 p2 p3 => ?_) (fun c2 => absurd hj (c2 j)) (fun j2 hj2 c2 => absurd c c2)
    obtain rfl := isR_uniq hj2 hj
    have hW2 := LW_ah hW u2 u1 p1 p2
    have em2 := p1.1.1.1
    have ho2 := hW2.2.2.1.1
    have hl2 := hW2.2.2.1.2.1
    have hv2 := ((p2 out hn2).2.2.2.2.2.2.1 0).trans u3
    refine v_istore (pc := 979) dL_law_979 rfl rfl (by decide) ?_
    refine v_aload_n (pc := 981) dL_law_981 rfl rfl ?_
    refine v_callV 0 0 (pc := 982) kL_87 dL_law_982 rfl (by assumption) (Nat.zero_le _) (Nat.zero_le _) (Nat.le_of_ble_eq_true rfl) (Nat.le_of_ble_eq_true rfl) ?_
    refine w_thrown em2 p3 ?_
    refine v_iload (pc := 985) dL_law_985 rfl ?_
    refine v_icmp_eq 992 (pc := 987) dL_law_987 (by decide) (fun hb => ?_) (fun hb => ?_)
    · refine v_iload (pc := 992) dL_law_992 rfl ?_
      refine v_if_ne 1009 (pc := 994) dL_law_994 (by decide) (fun hb => ?_) (fun hb => ?_)
      · exact absurd rfl hb
      · refine v_aload_n (pc := 997) dL_law_997 rfl rfl ?_
        refine v_iconst (pc := 998) (v := 0) dL_law_998 (by decide) ?_
        refine n_lald (0) _ (pc := 999) dL_law_999 (by assumption) (by assumption) rfl (by omega) (by decide) hv2 ?_
        refine v_iload (pc := 1000) dL_law_1000 rfl ?_
        refine v_i2l (pc := 1002) dL_law_1002 ?_
        refine v_lcmp (pc := 1003) dL_law_1003 ?_
        refine v_if_eq 1009 (pc := 1004) dL_law_1004 (by decide) (fun hb => ?_) (fun hb => ?_)
        · refine v_goto 1513 (pc := 1009) dL_law_1009 (by decide) ?_
          refine v_loc [0, 1, 2, 3, 4] rfl ?_
          exact v_kle (by omega) (by omega) (nx h2 _ _ _ _ hW2)
        · exact absurd (lg_cmp0.mpr rfl) hb
    · exact absurd rfl hb
  · skip
    refine v_istore (pc := 955) dL_law_955 rfl rfl (by decide) ?_
    refine v_aload_n (pc := 957) dL_law_957 rfl rfl ?_
    refine v_aload_n (pc := 958) dL_law_958 rfl rfl ?_
    refine v_iload (pc := 959) dL_law_959 rfl ?_
    refine v_iconst (pc := 961) (v := 1) dL_law_961 (by decide) ?_
    refine v_iadd (pc := 962) dL_law_962 ?_
    refine v_eqi (y := nI (i + 1)) (nI_add i 1) ?_
    refine n_sld (i + 1) (pc := 963) dL_law_963 rfl (by omega) hL4 ?_
    refine v_aload_n (pc := 964) dL_law_964 rfl rfl ?_
    refine v_iload (pc := 965) dL_law_965 rfl ?_
    refine v_iconst (pc := 967) (v := 2) dL_law_967 (by decide) ?_
    refine v_iadd (pc := 968) dL_law_968 ?_
    refine v_eqi (y := nI (i + 2)) (nI_add i 2) ?_
    refine n_sld (i + 2) (pc := 969) dL_law_969 rfl (by omega) hL4 ?_
    refine v_aload_n (pc := 970) dL_law_970 rfl rfl ?_
    refine v_iload (pc := 971) dL_law_971 rfl ?_
    refine v_iconst (pc := 973) (v := 3) dL_law_973 (by decide) ?_
    refine v_iadd (pc := 974) dL_law_974 ?_
    refine v_eqi (y := nI (i + 3)) (nI_add i 3) ?_
    refine n_sld (i + 3) (pc := 975) dL_law_975 rfl (by omega) hL4 ?_
    refine v_callV 0 0 (pc := 976) kL_118 dL_law_976 rfl (by assumption) (Nat.zero_le _) (Nat.zero_le _) (Nat.le_of_ble_eq_true rfl) (Nat.le_of_ble_eq_true rfl) ?_
    refine w_count hm (fun j2 hj2 => absurd hj2 (c j2)) (fun c2 h2 p1 p2 p3 => ?_) (fun j2 hj2 => absurd hj2 (c j2))
    have hW2 := LW_m hW p1 p2
    have em2 := p1.1.1.1
    refine v_istore (pc := 979) dL_law_979 rfl rfl (by decide) ?_
    refine v_aload_n (pc := 981) dL_law_981 rfl rfl ?_
    refine v_callV 0 0 (pc := 982) kL_87 dL_law_982 rfl (by assumption) (Nat.zero_le _) (Nat.zero_le _) (Nat.le_of_ble_eq_true rfl) (Nat.le_of_ble_eq_true rfl) ?_
    refine w_thrown em2 p3 ?_
    refine v_iload (pc := 985) dL_law_985 rfl ?_
    refine v_icmp_eq 992 (pc := 987) dL_law_987 (by decide) (fun hb => ?_) (fun hb => ?_)
    · refine v_iload (pc := 992) dL_law_992 rfl ?_
      refine v_if_ne 1009 (pc := 994) dL_law_994 (by decide) (fun hb => ?_) (fun hb => ?_)
      · refine v_goto 1513 (pc := 1009) dL_law_1009 (by decide) ?_
        refine v_loc [0, 1, 2, 3, 4] rfl ?_
        exact v_kle (by omega) (by omega) (nx h2 _ _ _ _ hW2)
      · exact absurd hb (by decide)
    · exact absurd rfl hb
  · skip
    refine v_istore (pc := 955) dL_law_955 rfl rfl (by decide) ?_
    refine v_aload_n (pc := 957) dL_law_957 rfl rfl ?_
    refine v_aload_n (pc := 958) dL_law_958 rfl rfl ?_
    refine v_iload (pc := 959) dL_law_959 rfl ?_
    refine v_iconst (pc := 961) (v := 1) dL_law_961 (by decide) ?_
    refine v_iadd (pc := 962) dL_law_962 ?_
    refine v_eqi (y := nI (i + 1)) (nI_add i 1) ?_
    refine n_sld (i + 1) (pc := 963) dL_law_963 rfl (by omega) hL4 ?_
    refine v_aload_n (pc := 964) dL_law_964 rfl rfl ?_
    refine v_iload (pc := 965) dL_law_965 rfl ?_
    refine v_iconst (pc := 967) (v := 2) dL_law_967 (by decide) ?_
    refine v_iadd (pc := 968) dL_law_968 ?_
    refine v_eqi (y := nI (i + 2)) (nI_add i 2) ?_
    refine n_sld (i + 2) (pc := 969) dL_law_969 rfl (by omega) hL4 ?_
    refine v_aload_n (pc := 970) dL_law_970 rfl rfl ?_
    refine v_iload (pc := 971) dL_law_971 rfl ?_
    refine v_iconst (pc := 973) (v := 3) dL_law_973 (by decide) ?_
    refine v_iadd (pc := 974) dL_law_974 ?_
    refine v_eqi (y := nI (i + 3)) (nI_add i 3) ?_
    refine n_sld (i + 3) (pc := 975) dL_law_975 rfl (by omega) hL4 ?_
    refine v_callV 0 0 (pc := 976) kL_118 dL_law_976 rfl (by assumption) (Nat.zero_le _) (Nat.zero_le _) (Nat.le_of_ble_eq_true rfl) (Nat.le_of_ble_eq_true rfl) ?_
    refine w_count hm (fun j2 hj2 c2 => absurd c2 c) (fun c2 => absurd hj (c2 j)) (fun j2 hj2 c2 h2 p1 p2 p3 => ?_)
    have hW2 := LW_m hW p1 p2
    have em2 := p1.1.1.1
    refine v_istore (pc := 979) dL_law_979 rfl rfl (by decide) ?_
    refine v_aload_n (pc := 981) dL_law_981 rfl rfl ?_
    refine v_callV 0 0 (pc := 982) kL_87 dL_law_982 rfl (by assumption) (Nat.zero_le _) (Nat.zero_le _) (Nat.le_of_ble_eq_true rfl) (Nat.le_of_ble_eq_true rfl) ?_
    refine w_thrown em2 p3 ?_
    refine v_iload (pc := 985) dL_law_985 rfl ?_
    refine v_icmp_eq 992 (pc := 987) dL_law_987 (by decide) (fun hb => ?_) (fun hb => ?_)
    · refine v_iload (pc := 992) dL_law_992 rfl ?_
      refine v_if_ne 1009 (pc := 994) dL_law_994 (by decide) (fun hb => ?_) (fun hb => ?_)
      · refine v_goto 1513 (pc := 1009) dL_law_1009 (by decide) ?_
        refine v_loc [0, 1, 2, 3, 4] rfl ?_
        exact v_kle (by omega) (by omega) (nx h2 _ _ _ _ hW2)
      · exact absurd hb (by decide)
    · exact absurd rfl hb
set_option maxHeartbeats 4000000 in
set_option maxRecDepth 100000 in
theorem g_sum (hW : LW h x S vs sa T SS mo Sm ka va za sm ki fi la aa out V sv nm nk) (hi : i + 8 ≤ mg_L G) (hL4 : mg_L G ≤ 4096) (nx : ∀ h' V' sv' nm' nk', LW h' x S vs sa T SS mo Sm ka va za sm ki fi la aa out V' sv' nm' nk' → mv_V G jL_law (d + 11) 1513 [(0, .ref (mg_b G)), (1, .ref x), (2, .ref mo), (3, .ref out), (4, .int (nI i))] [] h' kc ks R) : mv_V G jL_law (d + 11) 1012 [(0, .ref (mg_b G)), (1, .ref x), (2, .ref mo), (3, .ref out), (4, .int (nI i))] [] h (kc + 8) (ks + 48) R := by
  obtain ⟨hL, hm, ⟨ho, hl, o0⟩, hn, hn2, hdj⟩ := id hW
  have em := hm.1.1.1
  have ex := hL.1.1
  refine v_aload_n (pc := 1012) dL_law_1012 rfl rfl ?_
  refine v_aload_n (pc := 1013) dL_law_1013 rfl rfl ?_
  refine v_iload (pc := 1014) dL_law_1014 rfl ?_
  refine v_iconst (pc := 1016) (v := 1) dL_law_1016 (by decide) ?_
  refine v_iadd (pc := 1017) dL_law_1017 ?_
  refine v_eqi (y := nI (i + 1)) (nI_add i 1) ?_
  refine n_sld (i + 1) (pc := 1018) dL_law_1018 rfl (by omega) hL4 ?_
  refine v_aload_n (pc := 1019) dL_law_1019 rfl rfl ?_
  refine v_iload (pc := 1020) dL_law_1020 rfl ?_
  refine v_iconst (pc := 1022) (v := 2) dL_law_1022 (by decide) ?_
  refine v_iadd (pc := 1023) dL_law_1023 ?_
  refine v_eqi (y := nI (i + 2)) (nI_add i 2) ?_
  refine n_sld (i + 2) (pc := 1024) dL_law_1024 rfl (by omega) hL4 ?_
  refine v_aload_n (pc := 1025) dL_law_1025 rfl rfl ?_
  refine v_iload (pc := 1026) dL_law_1026 rfl ?_
  refine v_iconst (pc := 1028) (v := 3) dL_law_1028 (by decide) ?_
  refine v_iadd (pc := 1029) dL_law_1029 ?_
  refine v_eqi (y := nI (i + 3)) (nI_add i 3) ?_
  refine n_sld (i + 3) (pc := 1030) dL_law_1030 rfl (by omega) hL4 ?_
  refine v_aload_n (pc := 1031) dL_law_1031 rfl rfl ?_
  refine v_callS 8 48 (pc := 1032) kL_119 dL_law_1032 (Nat.le_of_ble_eq_true rfl) (by omega) (by omega) (Nat.le_of_ble_eq_true rfl) (Nat.le_of_ble_eq_true rfl) ?_
  refine z_sum hL ho hl hn (fun j hj c h1 u1 u2 u3 => ?_) (fun c => ?_) (fun j hj c => ?_)
  · have hm1 := LW_a hW u2
    have em1 := hm1.1.1.1
    refine v_istore (pc := 1035) dL_law_1035 rfl rfl (by decide) ?_
    refine v_aload_n (pc := 1037) dL_law_1037 rfl rfl ?_
    refine v_aload_n (pc := 1038) dL_law_1038 rfl rfl ?_
    refine v_iload (pc := 1039) dL_law_1039 rfl ?_
    refine v_iconst (pc := 1041) (v := 1) dL_law_1041 (by decide) ?_
    refine v_iadd (pc := 1042) dL_law_1042 ?_
    refine v_eqi (y := nI (i + 1)) (nI_add i 1) ?_
    refine n_sld (i + 1) (pc := 1043) dL_law_1043 rfl (by omega) hL4 ?_
    refine v_aload_n (pc := 1044) dL_law_1044 rfl rfl ?_
    refine v_iload (pc := 1045) dL_law_1045 rfl ?_
    refine v_iconst (pc := 1047) (v := 2) dL_law_1047 (by decide) ?_
    refine v_iadd (pc := 1048) dL_law_1048 ?_
    refine v_eqi (y := nI (i + 2)) (nI_add i 2) ?_
    refine n_sld (i + 2) (pc := 1049) dL_law_1049 rfl (by omega) hL4 ?_
    refine v_aload_n (pc := 1050) dL_law_1050 rfl rfl ?_
    refine v_iload (pc := 1051) dL_law_1051 rfl ?_
    refine v_iconst (pc := 1053) (v := 3) dL_law_1053 (by decide) ?_
    refine v_iadd (pc := 1054) dL_law_1054 ?_
    refine v_eqi (y := nI (i + 3)) (nI_add i 3) ?_
    refine n_sld (i + 3) (pc := 1055) dL_law_1055 rfl (by omega) hL4 ?_
    refine v_callV 0 0 (pc := 1056) kL_121 dL_law_1056 rfl (by assumption) (Nat.zero_le _) (Nat.zero_le _) (Nat.le_of_ble_eq_true rfl) (Nat.le_of_ble_eq_true rfl) ?_
    refine w_sum hm1 (fun j2 hj2 c2 h2 p1 p2 p3 => ?_) (fun c2 => absurd hj (c2 j)) (fun j2 hj2 c2 => absurd c c2)
    obtain rfl := isR_uniq hj2 hj
    have hW2 := LW_ah hW u2 u1 p1 p2
    have em2 := p1.1.1.1
    have ho2 := hW2.2.2.1.1
    have hl2 := hW2.2.2.1.2.1
    have hv2 := ((p2 out hn2).2.2.2.2.2.2.1 0).trans u3
    refine v_lstore (pc := 1059) dL_law_1059 rfl rfl rfl (by decide) ?_
    refine v_aload_n (pc := 1061) dL_law_1061 rfl rfl ?_
    refine v_callV 0 0 (pc := 1062) kL_87 dL_law_1062 rfl (by assumption) (Nat.zero_le _) (Nat.zero_le _) (Nat.le_of_ble_eq_true rfl) (Nat.le_of_ble_eq_true rfl) ?_
    refine w_thrown em2 p3 ?_
    refine v_iload (pc := 1065) dL_law_1065 rfl ?_
    refine v_icmp_eq 1072 (pc := 1067) dL_law_1067 (by decide) (fun hb => ?_) (fun hb => ?_)
    · refine v_iload (pc := 1072) dL_law_1072 rfl ?_
      refine v_if_ne 1088 (pc := 1074) dL_law_1074 (by decide) (fun hb => ?_) (fun hb => ?_)
      · exact absurd rfl hb
      · refine v_aload_n (pc := 1077) dL_law_1077 rfl rfl ?_
        refine v_iconst (pc := 1078) (v := 0) dL_law_1078 (by decide) ?_
        refine n_lald (0) _ (pc := 1079) dL_law_1079 (by assumption) (by assumption) rfl (by omega) (by decide) hv2 ?_
        refine v_lload (pc := 1080) dL_law_1080 rfl ?_
        refine v_lcmp (pc := 1082) dL_law_1082 ?_
        refine v_if_eq 1088 (pc := 1083) dL_law_1083 (by decide) (fun hb => ?_) (fun hb => ?_)
        · refine v_goto 1513 (pc := 1088) dL_law_1088 (by decide) ?_
          refine v_loc [0, 1, 2, 3, 4] rfl ?_
          exact v_kle (by omega) (by omega) (nx h2 _ _ _ _ hW2)
        · exact absurd (lg_cmp0.mpr rfl) hb
    · exact absurd rfl hb
  · skip
    refine v_istore (pc := 1035) dL_law_1035 rfl rfl (by decide) ?_
    refine v_aload_n (pc := 1037) dL_law_1037 rfl rfl ?_
    refine v_aload_n (pc := 1038) dL_law_1038 rfl rfl ?_
    refine v_iload (pc := 1039) dL_law_1039 rfl ?_
    refine v_iconst (pc := 1041) (v := 1) dL_law_1041 (by decide) ?_
    refine v_iadd (pc := 1042) dL_law_1042 ?_
    refine v_eqi (y := nI (i + 1)) (nI_add i 1) ?_
    refine n_sld (i + 1) (pc := 1043) dL_law_1043 rfl (by omega) hL4 ?_
    refine v_aload_n (pc := 1044) dL_law_1044 rfl rfl ?_
    refine v_iload (pc := 1045) dL_law_1045 rfl ?_
    refine v_iconst (pc := 1047) (v := 2) dL_law_1047 (by decide) ?_
    refine v_iadd (pc := 1048) dL_law_1048 ?_
    refine v_eqi (y := nI (i + 2)) (nI_add i 2) ?_
    refine n_sld (i + 2) (pc := 1049) dL_law_1049 rfl (by omega) hL4 ?_
    refine v_aload_n (pc := 1050) dL_law_1050 rfl rfl ?_
    refine v_iload (pc := 1051) dL_law_1051 rfl ?_
    refine v_iconst (pc := 1053) (v := 3) dL_law_1053 (by decide) ?_
    refine v_iadd (pc := 1054) dL_law_1054 ?_
    refine v_eqi (y := nI (i + 3)) (nI_add i 3) ?_
    refine n_sld (i + 3) (pc := 1055) dL_law_1055 rfl (by omega) hL4 ?_
    refine v_callV 0 0 (pc := 1056) kL_121 dL_law_1056 rfl (by assumption) (Nat.zero_le _) (Nat.zero_le _) (Nat.le_of_ble_eq_true rfl) (Nat.le_of_ble_eq_true rfl) ?_
    refine w_sum hm (fun j2 hj2 => absurd hj2 (c j2)) (fun c2 h2 p1 p2 p3 => ?_) (fun j2 hj2 => absurd hj2 (c j2))
    have hW2 := LW_m hW p1 p2
    have em2 := p1.1.1.1
    refine v_lstore (pc := 1059) dL_law_1059 rfl rfl rfl (by decide) ?_
    refine v_aload_n (pc := 1061) dL_law_1061 rfl rfl ?_
    refine v_callV 0 0 (pc := 1062) kL_87 dL_law_1062 rfl (by assumption) (Nat.zero_le _) (Nat.zero_le _) (Nat.le_of_ble_eq_true rfl) (Nat.le_of_ble_eq_true rfl) ?_
    refine w_thrown em2 p3 ?_
    refine v_iload (pc := 1065) dL_law_1065 rfl ?_
    refine v_icmp_eq 1072 (pc := 1067) dL_law_1067 (by decide) (fun hb => ?_) (fun hb => ?_)
    · refine v_iload (pc := 1072) dL_law_1072 rfl ?_
      refine v_if_ne 1088 (pc := 1074) dL_law_1074 (by decide) (fun hb => ?_) (fun hb => ?_)
      · refine v_goto 1513 (pc := 1088) dL_law_1088 (by decide) ?_
        refine v_loc [0, 1, 2, 3, 4] rfl ?_
        exact v_kle (by omega) (by omega) (nx h2 _ _ _ _ hW2)
      · exact absurd hb (by decide)
    · exact absurd rfl hb
  · skip
    refine v_istore (pc := 1035) dL_law_1035 rfl rfl (by decide) ?_
    refine v_aload_n (pc := 1037) dL_law_1037 rfl rfl ?_
    refine v_aload_n (pc := 1038) dL_law_1038 rfl rfl ?_
    refine v_iload (pc := 1039) dL_law_1039 rfl ?_
    refine v_iconst (pc := 1041) (v := 1) dL_law_1041 (by decide) ?_
    refine v_iadd (pc := 1042) dL_law_1042 ?_
    refine v_eqi (y := nI (i + 1)) (nI_add i 1) ?_
    refine n_sld (i + 1) (pc := 1043) dL_law_1043 rfl (by omega) hL4 ?_
    refine v_aload_n (pc := 1044) dL_law_1044 rfl rfl ?_
    refine v_iload (pc := 1045) dL_law_1045 rfl ?_
    refine v_iconst (pc := 1047) (v := 2) dL_law_1047 (by decide) ?_
    refine v_iadd (pc := 1048) dL_law_1048 ?_
    refine v_eqi (y := nI (i + 2)) (nI_add i 2) ?_
    refine n_sld (i + 2) (pc := 1049) dL_law_1049 rfl (by omega) hL4 ?_
    refine v_aload_n (pc := 1050) dL_law_1050 rfl rfl ?_
    refine v_iload (pc := 1051) dL_law_1051 rfl ?_
    refine v_iconst (pc := 1053) (v := 3) dL_law_1053 (by decide) ?_
    refine v_iadd (pc := 1054) dL_law_1054 ?_
    refine v_eqi (y := nI (i + 3)) (nI_add i 3) ?_
    refine n_sld (i + 3) (pc := 1055) dL_law_1055 rfl (by omega) hL4 ?_
    refine v_callV 0 0 (pc := 1056) kL_121 dL_law_1056 rfl (by assumption) (Nat.zero_le _) (Nat.zero_le _) (Nat.le_of_ble_eq_true rfl) (Nat.le_of_ble_eq_true rfl) ?_
    refine w_sum hm (fun j2 hj2 c2 => absurd c2 c) (fun c2 => absurd hj (c2 j)) (fun j2 hj2 c2 h2 p1 p2 p3 => ?_)
    have hW2 := LW_m hW p1 p2
    have em2 := p1.1.1.1
    refine v_lstore (pc := 1059) dL_law_1059 rfl rfl rfl (by decide) ?_
    refine v_aload_n (pc := 1061) dL_law_1061 rfl rfl ?_
    refine v_callV 0 0 (pc := 1062) kL_87 dL_law_1062 rfl (by assumption) (Nat.zero_le _) (Nat.zero_le _) (Nat.le_of_ble_eq_true rfl) (Nat.le_of_ble_eq_true rfl) ?_
    refine w_thrown em2 p3 ?_
    refine v_iload (pc := 1065) dL_law_1065 rfl ?_
    refine v_icmp_eq 1072 (pc := 1067) dL_law_1067 (by decide) (fun hb => ?_) (fun hb => ?_)
    · refine v_iload (pc := 1072) dL_law_1072 rfl ?_
      refine v_if_ne 1088 (pc := 1074) dL_law_1074 (by decide) (fun hb => ?_) (fun hb => ?_)
      · refine v_goto 1513 (pc := 1088) dL_law_1088 (by decide) ?_
        refine v_loc [0, 1, 2, 3, 4] rfl ?_
        exact v_kle (by omega) (by omega) (nx h2 _ _ _ _ hW2)
      · exact absurd hb (by decide)
    · exact absurd rfl hb
set_option maxHeartbeats 4000000 in
set_option maxRecDepth 100000 in
theorem g_key (hW : LW h x S vs sa T SS mo Sm ka va za sm ki fi la aa out V sv nm nk) (hi : i + 8 ≤ mg_L G) (hL4 : mg_L G ≤ 4096) (nx : ∀ h' V' sv' nm' nk', LW h' x S vs sa T SS mo Sm ka va za sm ki fi la aa out V' sv' nm' nk' → mv_V G jL_law (d + 11) 1513 [(0, .ref (mg_b G)), (1, .ref x), (2, .ref mo), (3, .ref out), (4, .int (nI i))] [] h' kc ks R) : mv_V G jL_law (d + 11) 1091 [(0, .ref (mg_b G)), (1, .ref x), (2, .ref mo), (3, .ref out), (4, .int (nI i))] [] h (kc + 8) (ks + 48) R := by
  obtain ⟨hL, hm, ⟨ho, hl, o0⟩, hn, hn2, hdj⟩ := id hW
  have em := hm.1.1.1
  have ex := hL.1.1
  refine v_aload_n (pc := 1091) dL_law_1091 rfl rfl ?_
  refine v_aload_n (pc := 1092) dL_law_1092 rfl rfl ?_
  refine v_iload (pc := 1093) dL_law_1093 rfl ?_
  refine v_iconst (pc := 1095) (v := 1) dL_law_1095 (by decide) ?_
  refine v_iadd (pc := 1096) dL_law_1096 ?_
  refine v_eqi (y := nI (i + 1)) (nI_add i 1) ?_
  refine n_sld (i + 1) (pc := 1097) dL_law_1097 rfl (by omega) hL4 ?_
  refine v_aload_n (pc := 1098) dL_law_1098 rfl rfl ?_
  refine v_iload (pc := 1099) dL_law_1099 rfl ?_
  refine v_iconst (pc := 1101) (v := 2) dL_law_1101 (by decide) ?_
  refine v_iadd (pc := 1102) dL_law_1102 ?_
  refine v_eqi (y := nI (i + 2)) (nI_add i 2) ?_
  refine n_sld (i + 2) (pc := 1103) dL_law_1103 rfl (by omega) hL4 ?_
  refine v_aload_n (pc := 1104) dL_law_1104 rfl rfl ?_
  refine v_iload (pc := 1105) dL_law_1105 rfl ?_
  refine v_iconst (pc := 1107) (v := 3) dL_law_1107 (by decide) ?_
  refine v_iadd (pc := 1108) dL_law_1108 ?_
  refine v_eqi (y := nI (i + 3)) (nI_add i 3) ?_
  refine n_sld (i + 3) (pc := 1109) dL_law_1109 rfl (by omega) hL4 ?_
  refine v_aload_n (pc := 1110) dL_law_1110 rfl rfl ?_
  refine v_callS 8 48 (pc := 1111) kL_122 dL_law_1111 (Nat.le_of_ble_eq_true rfl) (by omega) (by omega) (Nat.le_of_ble_eq_true rfl) (Nat.le_of_ble_eq_true rfl) ?_
  refine z_key hL ho hl hn (fun j k e hj c c2 c3 h1 u1 u2 u3 => ?_) (fun c => ?_) (fun j hj c => ?_)
  · have hm1 := LW_a hW u2
    have em1 := hm1.1.1.1
    refine v_istore (pc := 1114) dL_law_1114 rfl rfl (by decide) ?_
    refine v_aload_n (pc := 1116) dL_law_1116 rfl rfl ?_
    refine v_aload_n (pc := 1117) dL_law_1117 rfl rfl ?_
    refine v_iload (pc := 1118) dL_law_1118 rfl ?_
    refine v_iconst (pc := 1120) (v := 1) dL_law_1120 (by decide) ?_
    refine v_iadd (pc := 1121) dL_law_1121 ?_
    refine v_eqi (y := nI (i + 1)) (nI_add i 1) ?_
    refine n_sld (i + 1) (pc := 1122) dL_law_1122 rfl (by omega) hL4 ?_
    refine v_aload_n (pc := 1123) dL_law_1123 rfl rfl ?_
    refine v_iload (pc := 1124) dL_law_1124 rfl ?_
    refine v_iconst (pc := 1126) (v := 2) dL_law_1126 (by decide) ?_
    refine v_iadd (pc := 1127) dL_law_1127 ?_
    refine v_eqi (y := nI (i + 2)) (nI_add i 2) ?_
    refine n_sld (i + 2) (pc := 1128) dL_law_1128 rfl (by omega) hL4 ?_
    refine v_aload_n (pc := 1129) dL_law_1129 rfl rfl ?_
    refine v_iload (pc := 1130) dL_law_1130 rfl ?_
    refine v_iconst (pc := 1132) (v := 3) dL_law_1132 (by decide) ?_
    refine v_iadd (pc := 1133) dL_law_1133 ?_
    refine v_eqi (y := nI (i + 3)) (nI_add i 3) ?_
    refine n_sld (i + 3) (pc := 1134) dL_law_1134 rfl (by omega) hL4 ?_
    refine v_callV 0 0 (pc := 1135) kL_124 dL_law_1135 rfl (by assumption) (Nat.zero_le _) (Nat.zero_le _) (Nat.le_of_ble_eq_true rfl) (Nat.le_of_ble_eq_true rfl) ?_
    refine w_key hm1 (fun j2 k2 e2 hj2 c4 c5 c6 h2 p1 p2 p3 => ?_) (fun c4 => absurd hj (c4 j)) (fun j2 hj2 c4 => absurd c2 (c4 k (by rw [isR_uniq hj2 hj]; exact c)))
    obtain rfl := isR_uniq hj2 hj
    have lj := (hm.1.2 j2 (isR_lt hj)).2.1
    have cj := cnt_le (V j2) (mg_x G (i + 2)) 2147483647
    obtain rfl : k2 = k := (nI_eq (by omega) (by omega)).mp (c5.symm.trans c2)
    obtain rfl : e2 = e := Option.some.inj (c6.symm.trans c3)
    have hW2 := LW_ah hW u2 u1 p1 p2
    have em2 := p1.1.1.1
    have ho2 := hW2.2.2.1.1
    have hl2 := hW2.2.2.1.2.1
    have hv2 := ((p2 out hn2).2.2.2.2.2.2.1 0).trans u3
    refine v_istore (pc := 1138) dL_law_1138 rfl rfl (by decide) ?_
    refine v_aload_n (pc := 1140) dL_law_1140 rfl rfl ?_
    refine v_callV 0 0 (pc := 1141) kL_87 dL_law_1141 rfl (by assumption) (Nat.zero_le _) (Nat.zero_le _) (Nat.le_of_ble_eq_true rfl) (Nat.le_of_ble_eq_true rfl) ?_
    refine w_thrown em2 p3 ?_
    refine v_iload (pc := 1144) dL_law_1144 rfl ?_
    refine v_icmp_eq 1151 (pc := 1146) dL_law_1146 (by decide) (fun hb => ?_) (fun hb => ?_)
    · refine v_iload (pc := 1151) dL_law_1151 rfl ?_
      refine v_if_ne 1168 (pc := 1153) dL_law_1153 (by decide) (fun hb => ?_) (fun hb => ?_)
      · exact absurd rfl hb
      · refine v_aload_n (pc := 1156) dL_law_1156 rfl rfl ?_
        refine v_iconst (pc := 1157) (v := 0) dL_law_1157 (by decide) ?_
        refine n_lald (0) _ (pc := 1158) dL_law_1158 (by assumption) (by assumption) rfl (by omega) (by decide) hv2 ?_
        refine v_iload (pc := 1159) dL_law_1159 rfl ?_
        refine v_i2l (pc := 1161) dL_law_1161 ?_
        refine v_lcmp (pc := 1162) dL_law_1162 ?_
        refine v_if_eq 1168 (pc := 1163) dL_law_1163 (by decide) (fun hb => ?_) (fun hb => ?_)
        · refine v_goto 1513 (pc := 1168) dL_law_1168 (by decide) ?_
          refine v_loc [0, 1, 2, 3, 4] rfl ?_
          exact v_kle (by omega) (by omega) (nx h2 _ _ _ _ hW2)
        · exact absurd (lg_cmp0.mpr rfl) hb
    · exact absurd rfl hb
  · skip
    refine v_istore (pc := 1114) dL_law_1114 rfl rfl (by decide) ?_
    refine v_aload_n (pc := 1116) dL_law_1116 rfl rfl ?_
    refine v_aload_n (pc := 1117) dL_law_1117 rfl rfl ?_
    refine v_iload (pc := 1118) dL_law_1118 rfl ?_
    refine v_iconst (pc := 1120) (v := 1) dL_law_1120 (by decide) ?_
    refine v_iadd (pc := 1121) dL_law_1121 ?_
    refine v_eqi (y := nI (i + 1)) (nI_add i 1) ?_
    refine n_sld (i + 1) (pc := 1122) dL_law_1122 rfl (by omega) hL4 ?_
    refine v_aload_n (pc := 1123) dL_law_1123 rfl rfl ?_
    refine v_iload (pc := 1124) dL_law_1124 rfl ?_
    refine v_iconst (pc := 1126) (v := 2) dL_law_1126 (by decide) ?_
    refine v_iadd (pc := 1127) dL_law_1127 ?_
    refine v_eqi (y := nI (i + 2)) (nI_add i 2) ?_
    refine n_sld (i + 2) (pc := 1128) dL_law_1128 rfl (by omega) hL4 ?_
    refine v_aload_n (pc := 1129) dL_law_1129 rfl rfl ?_
    refine v_iload (pc := 1130) dL_law_1130 rfl ?_
    refine v_iconst (pc := 1132) (v := 3) dL_law_1132 (by decide) ?_
    refine v_iadd (pc := 1133) dL_law_1133 ?_
    refine v_eqi (y := nI (i + 3)) (nI_add i 3) ?_
    refine n_sld (i + 3) (pc := 1134) dL_law_1134 rfl (by omega) hL4 ?_
    refine v_callV 0 0 (pc := 1135) kL_124 dL_law_1135 rfl (by assumption) (Nat.zero_le _) (Nat.zero_le _) (Nat.le_of_ble_eq_true rfl) (Nat.le_of_ble_eq_true rfl) ?_
    refine w_key hm (fun j2 k2 e2 hj2 => absurd hj2 (c j2)) (fun c2 h2 p1 p2 p3 => ?_) (fun j2 hj2 => absurd hj2 (c j2))
    have hW2 := LW_m hW p1 p2
    have em2 := p1.1.1.1
    refine v_istore (pc := 1138) dL_law_1138 rfl rfl (by decide) ?_
    refine v_aload_n (pc := 1140) dL_law_1140 rfl rfl ?_
    refine v_callV 0 0 (pc := 1141) kL_87 dL_law_1141 rfl (by assumption) (Nat.zero_le _) (Nat.zero_le _) (Nat.le_of_ble_eq_true rfl) (Nat.le_of_ble_eq_true rfl) ?_
    refine w_thrown em2 p3 ?_
    refine v_iload (pc := 1144) dL_law_1144 rfl ?_
    refine v_icmp_eq 1151 (pc := 1146) dL_law_1146 (by decide) (fun hb => ?_) (fun hb => ?_)
    · refine v_iload (pc := 1151) dL_law_1151 rfl ?_
      refine v_if_ne 1168 (pc := 1153) dL_law_1153 (by decide) (fun hb => ?_) (fun hb => ?_)
      · refine v_goto 1513 (pc := 1168) dL_law_1168 (by decide) ?_
        refine v_loc [0, 1, 2, 3, 4] rfl ?_
        exact v_kle (by omega) (by omega) (nx h2 _ _ _ _ hW2)
      · exact absurd hb (by decide)
    · exact absurd rfl hb
  · skip
    refine v_istore (pc := 1114) dL_law_1114 rfl rfl (by decide) ?_
    refine v_aload_n (pc := 1116) dL_law_1116 rfl rfl ?_
    refine v_aload_n (pc := 1117) dL_law_1117 rfl rfl ?_
    refine v_iload (pc := 1118) dL_law_1118 rfl ?_
    refine v_iconst (pc := 1120) (v := 1) dL_law_1120 (by decide) ?_
    refine v_iadd (pc := 1121) dL_law_1121 ?_
    refine v_eqi (y := nI (i + 1)) (nI_add i 1) ?_
    refine n_sld (i + 1) (pc := 1122) dL_law_1122 rfl (by omega) hL4 ?_
    refine v_aload_n (pc := 1123) dL_law_1123 rfl rfl ?_
    refine v_iload (pc := 1124) dL_law_1124 rfl ?_
    refine v_iconst (pc := 1126) (v := 2) dL_law_1126 (by decide) ?_
    refine v_iadd (pc := 1127) dL_law_1127 ?_
    refine v_eqi (y := nI (i + 2)) (nI_add i 2) ?_
    refine n_sld (i + 2) (pc := 1128) dL_law_1128 rfl (by omega) hL4 ?_
    refine v_aload_n (pc := 1129) dL_law_1129 rfl rfl ?_
    refine v_iload (pc := 1130) dL_law_1130 rfl ?_
    refine v_iconst (pc := 1132) (v := 3) dL_law_1132 (by decide) ?_
    refine v_iadd (pc := 1133) dL_law_1133 ?_
    refine v_eqi (y := nI (i + 3)) (nI_add i 3) ?_
    refine n_sld (i + 3) (pc := 1134) dL_law_1134 rfl (by omega) hL4 ?_
    refine v_callV 0 0 (pc := 1135) kL_124 dL_law_1135 rfl (by assumption) (Nat.zero_le _) (Nat.zero_le _) (Nat.le_of_ble_eq_true rfl) (Nat.le_of_ble_eq_true rfl) ?_
    refine w_key hm (fun j2 k2 e2 hj2 c4 c5 c6 => absurd c5 (c k2 (by rw [isR_uniq hj hj2]; exact c4))) (fun c2 => absurd hj (c2 j)) (fun j2 hj2 c2 h2 p1 p2 p3 => ?_)
    have hW2 := LW_m hW p1 p2
    have em2 := p1.1.1.1
    refine v_istore (pc := 1138) dL_law_1138 rfl rfl (by decide) ?_
    refine v_aload_n (pc := 1140) dL_law_1140 rfl rfl ?_
    refine v_callV 0 0 (pc := 1141) kL_87 dL_law_1141 rfl (by assumption) (Nat.zero_le _) (Nat.zero_le _) (Nat.le_of_ble_eq_true rfl) (Nat.le_of_ble_eq_true rfl) ?_
    refine w_thrown em2 p3 ?_
    refine v_iload (pc := 1144) dL_law_1144 rfl ?_
    refine v_icmp_eq 1151 (pc := 1146) dL_law_1146 (by decide) (fun hb => ?_) (fun hb => ?_)
    · refine v_iload (pc := 1151) dL_law_1151 rfl ?_
      refine v_if_ne 1168 (pc := 1153) dL_law_1153 (by decide) (fun hb => ?_) (fun hb => ?_)
      · refine v_goto 1513 (pc := 1168) dL_law_1168 (by decide) ?_
        refine v_loc [0, 1, 2, 3, 4] rfl ?_
        exact v_kle (by omega) (by omega) (nx h2 _ _ _ _ hW2)
      · exact absurd hb (by decide)
    · exact absurd rfl hb
set_option maxHeartbeats 4000000 in
set_option maxRecDepth 100000 in
theorem g_save (hW : LW h x S vs sa T SS mo Sm ka va za sm ki fi la aa out V sv nm nk) (hi : i + 8 ≤ mg_L G) (hL4 : mg_L G ≤ 4096) (nx : ∀ h' V' sv' nm' nk', LW h' x S vs sa T SS mo Sm ka va za sm ki fi la aa out V' sv' nm' nk' → mv_V G jL_law (d + 11) 1513 [(0, .ref (mg_b G)), (1, .ref x), (2, .ref mo), (3, .ref out), (4, .int (nI i))] [] h' kc ks R) : mv_V G jL_law (d + 11) 1171 [(0, .ref (mg_b G)), (1, .ref x), (2, .ref mo), (3, .ref out), (4, .int (nI i))] [] h (kc + 8) (ks + 48) R := by
  obtain ⟨hL, hm, ⟨ho, hl, o0⟩, hn, hn2, hdj⟩ := id hW
  have em := hm.1.1.1
  have ex := hL.1.1
  refine v_aload_n (pc := 1171) dL_law_1171 rfl rfl ?_
  refine v_aload_n (pc := 1172) dL_law_1172 rfl rfl ?_
  refine v_iload (pc := 1173) dL_law_1173 rfl ?_
  refine v_iconst (pc := 1175) (v := 1) dL_law_1175 (by decide) ?_
  refine v_iadd (pc := 1176) dL_law_1176 ?_
  refine v_eqi (y := nI (i + 1)) (nI_add i 1) ?_
  refine n_sld (i + 1) (pc := 1177) dL_law_1177 rfl (by omega) hL4 ?_
  refine v_callS 8 48 (pc := 1178) kL_125 dL_law_1178 (Nat.le_of_ble_eq_true rfl) (by omega) (by omega) (Nat.le_of_ble_eq_true rfl) (Nat.le_of_ble_eq_true rfl) ?_
  refine z_save hL (fun j hj c h1 u1 u2 => ?_) (fun c => ?_)
  · have u2' := SO_of u2 hn
    have hm1 := LW_a hW u2'
    have em1 := hm1.1.1.1
    refine v_istore (pc := 1181) dL_law_1181 rfl rfl (by decide) ?_
    refine v_aload_n (pc := 1183) dL_law_1183 rfl rfl ?_
    refine v_aload_n (pc := 1184) dL_law_1184 rfl rfl ?_
    refine v_iload (pc := 1185) dL_law_1185 rfl ?_
    refine v_iconst (pc := 1187) (v := 1) dL_law_1187 (by decide) ?_
    refine v_iadd (pc := 1188) dL_law_1188 ?_
    refine v_eqi (y := nI (i + 1)) (nI_add i 1) ?_
    refine n_sld (i + 1) (pc := 1189) dL_law_1189 rfl (by omega) hL4 ?_
    refine v_callV 0 0 (pc := 1190) kL_128 dL_law_1190 rfl (by assumption) (Nat.zero_le _) (Nat.zero_le _) (Nat.le_of_ble_eq_true rfl) (Nat.le_of_ble_eq_true rfl) ?_
    refine w_save hm1 (fun j2 hj2 c3 h2 p1 p2 p3 => ?_) (fun c3 => absurd c (c3 j hj))
    obtain rfl : j2 = j := (nI_eq (by omega) (by omega)).mp (c3.symm.trans c)
    have hW2 := LW_ah hW u2' u1 p1 p2
    have em2 := p1.1.1.1
    have ho2 := hW2.2.2.1.1
    have hl2 := hW2.2.2.1.2.1
    refine v_aload_n (pc := 1193) dL_law_1193 rfl rfl ?_
    refine v_callV 0 0 (pc := 1194) kL_87 dL_law_1194 rfl (by assumption) (Nat.zero_le _) (Nat.zero_le _) (Nat.le_of_ble_eq_true rfl) (Nat.le_of_ble_eq_true rfl) ?_
    refine w_thrown em2 p3 ?_
    refine v_iload (pc := 1197) dL_law_1197 rfl ?_
    refine v_icmp_eq 1204 (pc := 1199) dL_law_1199 (by decide) (fun hb => ?_) (fun hb => ?_)
    · refine v_goto 1513 (pc := 1204) dL_law_1204 (by decide) ?_
      refine v_loc [0, 1, 2, 3, 4] rfl ?_
      exact v_kle (by omega) (by omega) (nx h2 _ _ _ _ hW2)
    · exact absurd rfl hb
  · skip
    refine v_istore (pc := 1181) dL_law_1181 rfl rfl (by decide) ?_
    refine v_aload_n (pc := 1183) dL_law_1183 rfl rfl ?_
    refine v_aload_n (pc := 1184) dL_law_1184 rfl rfl ?_
    refine v_iload (pc := 1185) dL_law_1185 rfl ?_
    refine v_iconst (pc := 1187) (v := 1) dL_law_1187 (by decide) ?_
    refine v_iadd (pc := 1188) dL_law_1188 ?_
    refine v_eqi (y := nI (i + 1)) (nI_add i 1) ?_
    refine n_sld (i + 1) (pc := 1189) dL_law_1189 rfl (by omega) hL4 ?_
    refine v_callV 0 0 (pc := 1190) kL_128 dL_law_1190 rfl (by assumption) (Nat.zero_le _) (Nat.zero_le _) (Nat.le_of_ble_eq_true rfl) (Nat.le_of_ble_eq_true rfl) ?_
    refine w_save hm (fun j2 hj2 c3 => absurd c3 (c j2 hj2)) (fun c3 h2 p1 p2 p3 => ?_)
    have hW2 := LW_m hW p1 p2
    have em2 := p1.1.1.1
    refine v_aload_n (pc := 1193) dL_law_1193 rfl rfl ?_
    refine v_callV 0 0 (pc := 1194) kL_87 dL_law_1194 rfl (by assumption) (Nat.zero_le _) (Nat.zero_le _) (Nat.le_of_ble_eq_true rfl) (Nat.le_of_ble_eq_true rfl) ?_
    refine w_thrown em2 p3 ?_
    refine v_iload (pc := 1197) dL_law_1197 rfl ?_
    refine v_icmp_eq 1204 (pc := 1199) dL_law_1199 (by decide) (fun hb => ?_) (fun hb => ?_)
    · refine v_goto 1513 (pc := 1204) dL_law_1204 (by decide) ?_
      refine v_loc [0, 1, 2, 3, 4] rfl ?_
      exact v_kle (by omega) (by omega) (nx h2 _ _ _ _ hW2)
    · exact absurd rfl hb
set_option maxHeartbeats 4000000 in
set_option maxRecDepth 100000 in
theorem g_drop (hW : LW h x S vs sa T SS mo Sm ka va za sm ki fi la aa out V sv nm nk) (hi : i + 8 ≤ mg_L G) (hL4 : mg_L G ≤ 4096) (nx : ∀ h' V' sv' nm' nk', LW h' x S vs sa T SS mo Sm ka va za sm ki fi la aa out V' sv' nm' nk' → mv_V G jL_law (d + 11) 1513 [(0, .ref (mg_b G)), (1, .ref x), (2, .ref mo), (3, .ref out), (4, .int (nI i))] [] h' kc ks R) : mv_V G jL_law (d + 11) 1207 [(0, .ref (mg_b G)), (1, .ref x), (2, .ref mo), (3, .ref out), (4, .int (nI i))] [] h (kc + 8) (ks + 48) R := by
  obtain ⟨hL, hm, ⟨ho, hl, o0⟩, hn, hn2, hdj⟩ := id hW
  have em := hm.1.1.1
  have ex := hL.1.1
  refine v_aload_n (pc := 1207) dL_law_1207 rfl rfl ?_
  refine v_aload_n (pc := 1208) dL_law_1208 rfl rfl ?_
  refine v_iload (pc := 1209) dL_law_1209 rfl ?_
  refine v_iconst (pc := 1211) (v := 1) dL_law_1211 (by decide) ?_
  refine v_iadd (pc := 1212) dL_law_1212 ?_
  refine v_eqi (y := nI (i + 1)) (nI_add i 1) ?_
  refine n_sld (i + 1) (pc := 1213) dL_law_1213 rfl (by omega) hL4 ?_
  refine v_aload_n (pc := 1214) dL_law_1214 rfl rfl ?_
  refine v_callS 8 48 (pc := 1215) kL_129 dL_law_1215 (Nat.le_of_ble_eq_true rfl) (by omega) (by omega) (Nat.le_of_ble_eq_true rfl) (Nat.le_of_ble_eq_true rfl) ?_
  refine z_drop hL ho hl hn (fun j hj c h1 u1 u2 u3 => ?_) (fun c => ?_)
  · have hm1 := LW_a hW u2
    have em1 := hm1.1.1.1
    refine v_istore (pc := 1218) dL_law_1218 rfl rfl (by decide) ?_
    refine v_aload_n (pc := 1220) dL_law_1220 rfl rfl ?_
    refine v_aload_n (pc := 1221) dL_law_1221 rfl rfl ?_
    refine v_iload (pc := 1222) dL_law_1222 rfl ?_
    refine v_iconst (pc := 1224) (v := 1) dL_law_1224 (by decide) ?_
    refine v_iadd (pc := 1225) dL_law_1225 ?_
    refine v_eqi (y := nI (i + 1)) (nI_add i 1) ?_
    refine n_sld (i + 1) (pc := 1226) dL_law_1226 rfl (by omega) hL4 ?_
    refine v_callV 0 0 (pc := 1227) kL_132 dL_law_1227 rfl (by assumption) (Nat.zero_le _) (Nat.zero_le _) (Nat.le_of_ble_eq_true rfl) (Nat.le_of_ble_eq_true rfl) ?_
    refine w_drop hm1 (fun j2 hj2 c3 h2 p1 p2 p3 => ?_) (fun c3 => absurd c (c3 j hj))
    obtain rfl : j2 = j := (nI_eq (by omega) (by omega)).mp (c3.symm.trans c)
    have hW2 := LW_ah hW u2 u1 p1 p2
    have em2 := p1.1.1.1
    have ho2 := hW2.2.2.1.1
    have hl2 := hW2.2.2.1.2.1
    have hv2 := ((p2 out hn2).2.2.2.2.2.2.1 0).trans u3
    by_cases ck : sv j2 = true
    · rw [if_pos ck] at hv2 ⊢
      refine v_istore (pc := 1230) dL_law_1230 rfl rfl (by decide) ?_
      refine v_aload_n (pc := 1232) dL_law_1232 rfl rfl ?_
      refine v_callV 0 0 (pc := 1233) kL_87 dL_law_1233 rfl (by assumption) (Nat.zero_le _) (Nat.zero_le _) (Nat.le_of_ble_eq_true rfl) (Nat.le_of_ble_eq_true rfl) ?_
      refine w_thrown em2 p3 ?_
      refine v_iload (pc := 1236) dL_law_1236 rfl ?_
      refine v_icmp_eq 1243 (pc := 1238) dL_law_1238 (by decide) (fun hb => ?_) (fun hb => ?_)
      · refine v_iload (pc := 1243) dL_law_1243 rfl ?_
        refine v_if_ne 1267 (pc := 1245) dL_law_1245 (by decide) (fun hb => ?_) (fun hb => ?_)
        · exact absurd rfl hb
        · refine v_aload_n (pc := 1248) dL_law_1248 rfl rfl ?_
          refine v_iconst (pc := 1249) (v := 0) dL_law_1249 (by decide) ?_
          refine n_lald (0) _ (pc := 1250) dL_law_1250 (by assumption) (by assumption) rfl (by omega) (by decide) hv2 ?_
          refine v_iload (pc := 1251) dL_law_1251 rfl ?_
          refine v_if_eq 1260 (pc := 1253) dL_law_1253 (by decide) (fun hb => ?_) (fun hb => ?_)
          · exact absurd hb (by decide)
          · refine v_lconst (pc := 1256) (v := 1) dL_law_1256 (by decide) ?_
            refine v_goto 1261 (pc := 1257) dL_law_1257 (by decide) ?_
            refine v_lcmp (pc := 1261) dL_law_1261 ?_
            refine v_if_eq 1267 (pc := 1262) dL_law_1262 (by decide) (fun hb => ?_) (fun hb => ?_)
            · refine v_goto 1513 (pc := 1267) dL_law_1267 (by decide) ?_
              refine v_loc [0, 1, 2, 3, 4] rfl ?_
              exact v_kle (by omega) (by omega) (nx h2 _ _ _ _ hW2)
            · exact absurd (lg_cmp0.mpr rfl) hb
      · exact absurd rfl hb
    · rw [if_neg ck] at hv2 ⊢
      refine v_istore (pc := 1230) dL_law_1230 rfl rfl (by decide) ?_
      refine v_aload_n (pc := 1232) dL_law_1232 rfl rfl ?_
      refine v_callV 0 0 (pc := 1233) kL_87 dL_law_1233 rfl (by assumption) (Nat.zero_le _) (Nat.zero_le _) (Nat.le_of_ble_eq_true rfl) (Nat.le_of_ble_eq_true rfl) ?_
      refine w_thrown em2 p3 ?_
      refine v_iload (pc := 1236) dL_law_1236 rfl ?_
      refine v_icmp_eq 1243 (pc := 1238) dL_law_1238 (by decide) (fun hb => ?_) (fun hb => ?_)
      · refine v_iload (pc := 1243) dL_law_1243 rfl ?_
        refine v_if_ne 1267 (pc := 1245) dL_law_1245 (by decide) (fun hb => ?_) (fun hb => ?_)
        · exact absurd rfl hb
        · refine v_aload_n (pc := 1248) dL_law_1248 rfl rfl ?_
          refine v_iconst (pc := 1249) (v := 0) dL_law_1249 (by decide) ?_
          refine n_lald (0) _ (pc := 1250) dL_law_1250 (by assumption) (by assumption) rfl (by omega) (by decide) hv2 ?_
          refine v_iload (pc := 1251) dL_law_1251 rfl ?_
          refine v_if_eq 1260 (pc := 1253) dL_law_1253 (by decide) (fun hb => ?_) (fun hb => ?_)
          · refine v_lconst (pc := 1260) (v := 0) dL_law_1260 (by decide) ?_
            refine v_lcmp (pc := 1261) dL_law_1261 ?_
            refine v_if_eq 1267 (pc := 1262) dL_law_1262 (by decide) (fun hb => ?_) (fun hb => ?_)
            · refine v_goto 1513 (pc := 1267) dL_law_1267 (by decide) ?_
              refine v_loc [0, 1, 2, 3, 4] rfl ?_
              exact v_kle (by omega) (by omega) (nx h2 _ _ _ _ hW2)
            · exact absurd (lg_cmp0.mpr rfl) hb
          · exact absurd rfl hb
      · exact absurd rfl hb
  · skip
    refine v_istore (pc := 1218) dL_law_1218 rfl rfl (by decide) ?_
    refine v_aload_n (pc := 1220) dL_law_1220 rfl rfl ?_
    refine v_aload_n (pc := 1221) dL_law_1221 rfl rfl ?_
    refine v_iload (pc := 1222) dL_law_1222 rfl ?_
    refine v_iconst (pc := 1224) (v := 1) dL_law_1224 (by decide) ?_
    refine v_iadd (pc := 1225) dL_law_1225 ?_
    refine v_eqi (y := nI (i + 1)) (nI_add i 1) ?_
    refine n_sld (i + 1) (pc := 1226) dL_law_1226 rfl (by omega) hL4 ?_
    refine v_callV 0 0 (pc := 1227) kL_132 dL_law_1227 rfl (by assumption) (Nat.zero_le _) (Nat.zero_le _) (Nat.le_of_ble_eq_true rfl) (Nat.le_of_ble_eq_true rfl) ?_
    refine w_drop hm (fun j2 hj2 c3 => absurd c3 (c j2 hj2)) (fun c3 h2 p1 p2 p3 => ?_)
    have hW2 := LW_m hW p1 p2
    have em2 := p1.1.1.1
    refine v_istore (pc := 1230) dL_law_1230 rfl rfl (by decide) ?_
    refine v_aload_n (pc := 1232) dL_law_1232 rfl rfl ?_
    refine v_callV 0 0 (pc := 1233) kL_87 dL_law_1233 rfl (by assumption) (Nat.zero_le _) (Nat.zero_le _) (Nat.le_of_ble_eq_true rfl) (Nat.le_of_ble_eq_true rfl) ?_
    refine w_thrown em2 p3 ?_
    refine v_iload (pc := 1236) dL_law_1236 rfl ?_
    refine v_icmp_eq 1243 (pc := 1238) dL_law_1238 (by decide) (fun hb => ?_) (fun hb => ?_)
    · refine v_iload (pc := 1243) dL_law_1243 rfl ?_
      refine v_if_ne 1267 (pc := 1245) dL_law_1245 (by decide) (fun hb => ?_) (fun hb => ?_)
      · refine v_goto 1513 (pc := 1267) dL_law_1267 (by decide) ?_
        refine v_loc [0, 1, 2, 3, 4] rfl ?_
        exact v_kle (by omega) (by omega) (nx h2 _ _ _ _ hW2)
      · exact absurd hb (by decide)
    · exact absurd rfl hb
set_option maxHeartbeats 4000000 in
set_option maxRecDepth 100000 in
theorem g_restore (hW : LW h x S vs sa T SS mo Sm ka va za sm ki fi la aa out V sv nm nk) (hi : i + 8 ≤ mg_L G) (hL4 : mg_L G ≤ 4096) (nx : ∀ h' V' sv' nm' nk', LW h' x S vs sa T SS mo Sm ka va za sm ki fi la aa out V' sv' nm' nk' → mv_V G jL_law (d + 11) 1513 [(0, .ref (mg_b G)), (1, .ref x), (2, .ref mo), (3, .ref out), (4, .int (nI i))] [] h' kc ks R) : mv_V G jL_law (d + 11) 1270 [(0, .ref (mg_b G)), (1, .ref x), (2, .ref mo), (3, .ref out), (4, .int (nI i))] [] h (kc + 8) (ks + 48) R := by
  obtain ⟨hL, hm, ⟨ho, hl, o0⟩, hn, hn2, hdj⟩ := id hW
  have em := hm.1.1.1
  have ex := hL.1.1
  refine v_aload_n (pc := 1270) dL_law_1270 rfl rfl ?_
  refine v_aload_n (pc := 1271) dL_law_1271 rfl rfl ?_
  refine v_iload (pc := 1272) dL_law_1272 rfl ?_
  refine v_iconst (pc := 1274) (v := 1) dL_law_1274 (by decide) ?_
  refine v_iadd (pc := 1275) dL_law_1275 ?_
  refine v_eqi (y := nI (i + 1)) (nI_add i 1) ?_
  refine n_sld (i + 1) (pc := 1276) dL_law_1276 rfl (by omega) hL4 ?_
  refine v_aload_n (pc := 1277) dL_law_1277 rfl rfl ?_
  refine v_callS 8 48 (pc := 1278) kL_133 dL_law_1278 (Nat.le_of_ble_eq_true rfl) (by omega) (by omega) (Nat.le_of_ble_eq_true rfl) (Nat.le_of_ble_eq_true rfl) ?_
  refine z_restore hL ho hl hn (fun j hj c c2 c3 h1 u1 u2 u3 => ?_) (fun c => ?_) (fun j hj c c2 c3 => ?_)
  · have hm1 := LW_a hW u2
    have em1 := hm1.1.1.1
    refine v_istore (pc := 1281) dL_law_1281 rfl rfl (by decide) ?_
    refine v_aload_n (pc := 1283) dL_law_1283 rfl rfl ?_
    refine v_aload_n (pc := 1284) dL_law_1284 rfl rfl ?_
    refine v_iload (pc := 1285) dL_law_1285 rfl ?_
    refine v_iconst (pc := 1287) (v := 1) dL_law_1287 (by decide) ?_
    refine v_iadd (pc := 1288) dL_law_1288 ?_
    refine v_eqi (y := nI (i + 1)) (nI_add i 1) ?_
    refine n_sld (i + 1) (pc := 1289) dL_law_1289 rfl (by omega) hL4 ?_
    refine v_callV 0 0 (pc := 1290) kL_135 dL_law_1290 rfl (by assumption) (Nat.zero_le _) (Nat.zero_le _) (Nat.le_of_ble_eq_true rfl) (Nat.le_of_ble_eq_true rfl) ?_
    refine w_restore hm1 (fun j2 hj2 c4 c5 c6 h2 p1 p2 p3 => ?_) (fun c4 => absurd c2 (c4 j hj c)) (fun j2 hj2 c4 c5 c6 => absurd (by rw [(nI_eq (a := j2) (b := j) (by omega) (by omega)).mp (c4.symm.trans c)]; exact c3) c6)
    obtain rfl : j2 = j := (nI_eq (by omega) (by omega)).mp (c4.symm.trans c)
    have hW2 := LW_ah hW u2 u1 p1 p2
    have em2 := p1.1.1.1
    have ho2 := hW2.2.2.1.1
    have hl2 := hW2.2.2.1.2.1
    have hv2 := ((p2 out hn2).2.2.2.2.2.2.1 0).trans u3
    refine v_istore (pc := 1293) dL_law_1293 rfl rfl (by decide) ?_
    refine v_aload_n (pc := 1295) dL_law_1295 rfl rfl ?_
    refine v_callV 0 0 (pc := 1296) kL_87 dL_law_1296 rfl (by assumption) (Nat.zero_le _) (Nat.zero_le _) (Nat.le_of_ble_eq_true rfl) (Nat.le_of_ble_eq_true rfl) ?_
    refine w_thrown em2 p3 ?_
    refine v_iload (pc := 1299) dL_law_1299 rfl ?_
    refine v_icmp_eq 1306 (pc := 1301) dL_law_1301 (by decide) (fun hb => ?_) (fun hb => ?_)
    · refine v_iload (pc := 1306) dL_law_1306 rfl ?_
      refine v_if_ne 1323 (pc := 1308) dL_law_1308 (by decide) (fun hb => ?_) (fun hb => ?_)
      · exact absurd rfl hb
      · refine v_aload_n (pc := 1311) dL_law_1311 rfl rfl ?_
        refine v_iconst (pc := 1312) (v := 0) dL_law_1312 (by decide) ?_
        refine n_lald (0) _ (pc := 1313) dL_law_1313 (by assumption) (by assumption) rfl (by omega) (by decide) hv2 ?_
        refine v_iload (pc := 1314) dL_law_1314 rfl ?_
        refine v_i2l (pc := 1316) dL_law_1316 ?_
        refine v_lcmp (pc := 1317) dL_law_1317 ?_
        refine v_if_eq 1323 (pc := 1318) dL_law_1318 (by decide) (fun hb => ?_) (fun hb => ?_)
        · refine v_goto 1513 (pc := 1323) dL_law_1323 (by decide) ?_
          refine v_loc [0, 1, 2, 3, 4] rfl ?_
          exact v_kle (by omega) (by omega) (nx h2 _ _ _ _ hW2)
        · exact absurd (lg_cmp0.mpr rfl) hb
    · exact absurd rfl hb
  · skip
    refine v_istore (pc := 1281) dL_law_1281 rfl rfl (by decide) ?_
    refine v_aload_n (pc := 1283) dL_law_1283 rfl rfl ?_
    refine v_aload_n (pc := 1284) dL_law_1284 rfl rfl ?_
    refine v_iload (pc := 1285) dL_law_1285 rfl ?_
    refine v_iconst (pc := 1287) (v := 1) dL_law_1287 (by decide) ?_
    refine v_iadd (pc := 1288) dL_law_1288 ?_
    refine v_eqi (y := nI (i + 1)) (nI_add i 1) ?_
    refine n_sld (i + 1) (pc := 1289) dL_law_1289 rfl (by omega) hL4 ?_
    refine v_callV 0 0 (pc := 1290) kL_135 dL_law_1290 rfl (by assumption) (Nat.zero_le _) (Nat.zero_le _) (Nat.le_of_ble_eq_true rfl) (Nat.le_of_ble_eq_true rfl) ?_
    refine w_restore hm (fun j2 hj2 c4 c5 => absurd c5 (c j2 hj2 c4)) (fun c4 h2 p1 p2 p3 => ?_) (fun j2 hj2 c4 c5 => absurd c5 (c j2 hj2 c4))
    have hW2 := LW_m hW p1 p2
    have em2 := p1.1.1.1
    refine v_istore (pc := 1293) dL_law_1293 rfl rfl (by decide) ?_
    refine v_aload_n (pc := 1295) dL_law_1295 rfl rfl ?_
    refine v_callV 0 0 (pc := 1296) kL_87 dL_law_1296 rfl (by assumption) (Nat.zero_le _) (Nat.zero_le _) (Nat.le_of_ble_eq_true rfl) (Nat.le_of_ble_eq_true rfl) ?_
    refine w_thrown em2 p3 ?_
    refine v_iload (pc := 1299) dL_law_1299 rfl ?_
    refine v_icmp_eq 1306 (pc := 1301) dL_law_1301 (by decide) (fun hb => ?_) (fun hb => ?_)
    · refine v_iload (pc := 1306) dL_law_1306 rfl ?_
      refine v_if_ne 1323 (pc := 1308) dL_law_1308 (by decide) (fun hb => ?_) (fun hb => ?_)
      · refine v_goto 1513 (pc := 1323) dL_law_1323 (by decide) ?_
        refine v_loc [0, 1, 2, 3, 4] rfl ?_
        exact v_kle (by omega) (by omega) (nx h2 _ _ _ _ hW2)
      · exact absurd hb (by decide)
    · exact absurd rfl hb
  · skip
    refine v_istore (pc := 1281) dL_law_1281 rfl rfl (by decide) ?_
    refine v_aload_n (pc := 1283) dL_law_1283 rfl rfl ?_
    refine v_aload_n (pc := 1284) dL_law_1284 rfl rfl ?_
    refine v_iload (pc := 1285) dL_law_1285 rfl ?_
    refine v_iconst (pc := 1287) (v := 1) dL_law_1287 (by decide) ?_
    refine v_iadd (pc := 1288) dL_law_1288 ?_
    refine v_eqi (y := nI (i + 1)) (nI_add i 1) ?_
    refine n_sld (i + 1) (pc := 1289) dL_law_1289 rfl (by omega) hL4 ?_
    refine v_callV 0 0 (pc := 1290) kL_135 dL_law_1290 rfl (by assumption) (Nat.zero_le _) (Nat.zero_le _) (Nat.le_of_ble_eq_true rfl) (Nat.le_of_ble_eq_true rfl) ?_
    refine w_restore hm (fun j2 hj2 c4 c5 c6 => absurd c6 (by rw [(nI_eq (a := j2) (b := j) (by omega) (by omega)).mp (c4.symm.trans c)]; exact c3)) (fun c4 => absurd c2 (c4 j hj c)) (fun j2 hj2 c4 c5 c6 h2 p1 p2 p3 => ?_)
    have hW2 := LW_m hW p1 p2
    have em2 := p1.1.1.1
    refine v_istore (pc := 1293) dL_law_1293 rfl rfl (by decide) ?_
    refine v_aload_n (pc := 1295) dL_law_1295 rfl rfl ?_
    refine v_callV 0 0 (pc := 1296) kL_87 dL_law_1296 rfl (by assumption) (Nat.zero_le _) (Nat.zero_le _) (Nat.le_of_ble_eq_true rfl) (Nat.le_of_ble_eq_true rfl) ?_
    refine w_thrown em2 p3 ?_
    refine v_iload (pc := 1299) dL_law_1299 rfl ?_
    refine v_icmp_eq 1306 (pc := 1301) dL_law_1301 (by decide) (fun hb => ?_) (fun hb => ?_)
    · refine v_iload (pc := 1306) dL_law_1306 rfl ?_
      refine v_if_ne 1323 (pc := 1308) dL_law_1308 (by decide) (fun hb => ?_) (fun hb => ?_)
      · refine v_goto 1513 (pc := 1323) dL_law_1323 (by decide) ?_
        refine v_loc [0, 1, 2, 3, 4] rfl ?_
        exact v_kle (by omega) (by omega) (nx h2 _ _ _ _ hW2)
      · exact absurd hb (by decide)
    · exact absurd rfl hb
set_option maxHeartbeats 4000000 in
set_option maxRecDepth 100000 in
theorem g_differ (hW : LW h x S vs sa T SS mo Sm ka va za sm ki fi la aa out V sv nm nk) (hi : i + 8 ≤ mg_L G) (hL4 : mg_L G ≤ 4096) (nx : ∀ h' V' sv' nm' nk', LW h' x S vs sa T SS mo Sm ka va za sm ki fi la aa out V' sv' nm' nk' → mv_V G jL_law (d + 11) 1513 [(0, .ref (mg_b G)), (1, .ref x), (2, .ref mo), (3, .ref out), (4, .int (nI i))] [] h' kc ks R) : mv_V G jL_law (d + 11) 1326 [(0, .ref (mg_b G)), (1, .ref x), (2, .ref mo), (3, .ref out), (4, .int (nI i))] [] h (kc + 8) (ks + 48) R := by
  obtain ⟨hL, hm, ⟨ho, hl, o0⟩, hn, hn2, hdj⟩ := id hW
  have em := hm.1.1.1
  have ex := hL.1.1
  refine v_aload_n (pc := 1326) dL_law_1326 rfl rfl ?_
  refine v_aload_n (pc := 1327) dL_law_1327 rfl rfl ?_
  refine v_iload (pc := 1328) dL_law_1328 rfl ?_
  refine v_iconst (pc := 1330) (v := 1) dL_law_1330 (by decide) ?_
  refine v_iadd (pc := 1331) dL_law_1331 ?_
  refine v_eqi (y := nI (i + 1)) (nI_add i 1) ?_
  refine n_sld (i + 1) (pc := 1332) dL_law_1332 rfl (by omega) hL4 ?_
  refine v_aload_n (pc := 1333) dL_law_1333 rfl rfl ?_
  refine v_iload (pc := 1334) dL_law_1334 rfl ?_
  refine v_iconst (pc := 1336) (v := 2) dL_law_1336 (by decide) ?_
  refine v_iadd (pc := 1337) dL_law_1337 ?_
  refine v_eqi (y := nI (i + 2)) (nI_add i 2) ?_
  refine n_sld (i + 2) (pc := 1338) dL_law_1338 rfl (by omega) hL4 ?_
  refine v_aload_n (pc := 1339) dL_law_1339 rfl rfl ?_
  refine v_callS 8 48 (pc := 1340) kL_136 dL_law_1340 (Nat.le_of_ble_eq_true rfl) (by omega) (by omega) (Nat.le_of_ble_eq_true rfl) (Nat.le_of_ble_eq_true rfl) ?_
  refine z_differ hL ho hl hn (fun i1 j hi1 hj h1 u1 u2 u3 => ?_) (fun c => ?_)
  · have hm1 := LW_a hW u2
    have em1 := hm1.1.1.1
    refine v_istore (pc := 1343) dL_law_1343 rfl rfl (by decide) ?_
    refine v_aload_n (pc := 1345) dL_law_1345 rfl rfl ?_
    refine v_aload_n (pc := 1346) dL_law_1346 rfl rfl ?_
    refine v_iload (pc := 1347) dL_law_1347 rfl ?_
    refine v_iconst (pc := 1349) (v := 1) dL_law_1349 (by decide) ?_
    refine v_iadd (pc := 1350) dL_law_1350 ?_
    refine v_eqi (y := nI (i + 1)) (nI_add i 1) ?_
    refine n_sld (i + 1) (pc := 1351) dL_law_1351 rfl (by omega) hL4 ?_
    refine v_aload_n (pc := 1352) dL_law_1352 rfl rfl ?_
    refine v_iload (pc := 1353) dL_law_1353 rfl ?_
    refine v_iconst (pc := 1355) (v := 2) dL_law_1355 (by decide) ?_
    refine v_iadd (pc := 1356) dL_law_1356 ?_
    refine v_eqi (y := nI (i + 2)) (nI_add i 2) ?_
    refine n_sld (i + 2) (pc := 1357) dL_law_1357 rfl (by omega) hL4 ?_
    refine v_callV 0 0 (pc := 1358) kL_138 dL_law_1358 rfl (by assumption) (Nat.zero_le _) (Nat.zero_le _) (Nat.le_of_ble_eq_true rfl) (Nat.le_of_ble_eq_true rfl) ?_
    refine w_differ hm1 (fun i2 j2 hi2 hj2 h2 p1 p2 p3 => ?_) (fun c2 => by rcases c2 with c2 | c2; exact absurd hi1 (c2 i1); exact absurd hj (c2 j))
    obtain rfl := isR_uniq hi2 hi1
    obtain rfl := isR_uniq hj2 hj
    have hW2 := LW_ah hW u2 u1 p1 p2
    have em2 := p1.1.1.1
    have ho2 := hW2.2.2.1.1
    have hl2 := hW2.2.2.1.2.1
    have hv2 := ((p2 out hn2).2.2.2.2.2.2.1 0).trans u3
    refine v_istore (pc := 1361) dL_law_1361 rfl rfl (by decide) ?_
    refine v_aload_n (pc := 1363) dL_law_1363 rfl rfl ?_
    refine v_callV 0 0 (pc := 1364) kL_87 dL_law_1364 rfl (by assumption) (Nat.zero_le _) (Nat.zero_le _) (Nat.le_of_ble_eq_true rfl) (Nat.le_of_ble_eq_true rfl) ?_
    refine w_thrown em2 p3 ?_
    refine v_iload (pc := 1367) dL_law_1367 rfl ?_
    refine v_icmp_eq 1374 (pc := 1369) dL_law_1369 (by decide) (fun hb => ?_) (fun hb => ?_)
    · refine v_iload (pc := 1374) dL_law_1374 rfl ?_
      refine v_if_ne 1391 (pc := 1376) dL_law_1376 (by decide) (fun hb => ?_) (fun hb => ?_)
      · exact absurd rfl hb
      · refine v_aload_n (pc := 1379) dL_law_1379 rfl rfl ?_
        refine v_iconst (pc := 1380) (v := 0) dL_law_1380 (by decide) ?_
        refine n_lald (0) _ (pc := 1381) dL_law_1381 (by assumption) (by assumption) rfl (by omega) (by decide) hv2 ?_
        refine v_iload (pc := 1382) dL_law_1382 rfl ?_
        refine v_i2l (pc := 1384) dL_law_1384 ?_
        refine v_lcmp (pc := 1385) dL_law_1385 ?_
        refine v_if_eq 1391 (pc := 1386) dL_law_1386 (by decide) (fun hb => ?_) (fun hb => ?_)
        · refine v_goto 1513 (pc := 1391) dL_law_1391 (by decide) ?_
          refine v_loc [0, 1, 2, 3, 4] rfl ?_
          exact v_kle (by omega) (by omega) (nx h2 _ _ _ _ hW2)
        · exact absurd (lg_cmp0.mpr rfl) hb
    · exact absurd rfl hb
  · skip
    refine v_istore (pc := 1343) dL_law_1343 rfl rfl (by decide) ?_
    refine v_aload_n (pc := 1345) dL_law_1345 rfl rfl ?_
    refine v_aload_n (pc := 1346) dL_law_1346 rfl rfl ?_
    refine v_iload (pc := 1347) dL_law_1347 rfl ?_
    refine v_iconst (pc := 1349) (v := 1) dL_law_1349 (by decide) ?_
    refine v_iadd (pc := 1350) dL_law_1350 ?_
    refine v_eqi (y := nI (i + 1)) (nI_add i 1) ?_
    refine n_sld (i + 1) (pc := 1351) dL_law_1351 rfl (by omega) hL4 ?_
    refine v_aload_n (pc := 1352) dL_law_1352 rfl rfl ?_
    refine v_iload (pc := 1353) dL_law_1353 rfl ?_
    refine v_iconst (pc := 1355) (v := 2) dL_law_1355 (by decide) ?_
    refine v_iadd (pc := 1356) dL_law_1356 ?_
    refine v_eqi (y := nI (i + 2)) (nI_add i 2) ?_
    refine n_sld (i + 2) (pc := 1357) dL_law_1357 rfl (by omega) hL4 ?_
    refine v_callV 0 0 (pc := 1358) kL_138 dL_law_1358 rfl (by assumption) (Nat.zero_le _) (Nat.zero_le _) (Nat.le_of_ble_eq_true rfl) (Nat.le_of_ble_eq_true rfl) ?_
    refine w_differ hm (fun i2 j2 hi2 hj2 => by rcases c with c | c; exact absurd hi2 (c i2); exact absurd hj2 (c j2)) (fun c2 h2 p1 p2 p3 => ?_)
    have hW2 := LW_m hW p1 p2
    have em2 := p1.1.1.1
    refine v_istore (pc := 1361) dL_law_1361 rfl rfl (by decide) ?_
    refine v_aload_n (pc := 1363) dL_law_1363 rfl rfl ?_
    refine v_callV 0 0 (pc := 1364) kL_87 dL_law_1364 rfl (by assumption) (Nat.zero_le _) (Nat.zero_le _) (Nat.le_of_ble_eq_true rfl) (Nat.le_of_ble_eq_true rfl) ?_
    refine w_thrown em2 p3 ?_
    refine v_iload (pc := 1367) dL_law_1367 rfl ?_
    refine v_icmp_eq 1374 (pc := 1369) dL_law_1369 (by decide) (fun hb => ?_) (fun hb => ?_)
    · refine v_iload (pc := 1374) dL_law_1374 rfl ?_
      refine v_if_ne 1391 (pc := 1376) dL_law_1376 (by decide) (fun hb => ?_) (fun hb => ?_)
      · refine v_goto 1513 (pc := 1391) dL_law_1391 (by decide) ?_
        refine v_loc [0, 1, 2, 3, 4] rfl ?_
        exact v_kle (by omega) (by omega) (nx h2 _ _ _ _ hW2)
      · exact absurd hb (by decide)
    · exact absurd rfl hb
set_option maxHeartbeats 4000000 in
set_option maxRecDepth 100000 in
theorem g_total (hW : LW h x S vs sa T SS mo Sm ka va za sm ki fi la aa out V sv nm nk) (hi : i + 8 ≤ mg_L G) (hL4 : mg_L G ≤ 4096) (nx : ∀ h' V' sv' nm' nk', LW h' x S vs sa T SS mo Sm ka va za sm ki fi la aa out V' sv' nm' nk' → mv_V G jL_law (d + 11) 1513 [(0, .ref (mg_b G)), (1, .ref x), (2, .ref mo), (3, .ref out), (4, .int (nI i))] [] h' kc ks R) : mv_V G jL_law (d + 11) 1444 [(0, .ref (mg_b G)), (1, .ref x), (2, .ref mo), (3, .ref out), (4, .int (nI i))] [] h (kc + 8) (ks + 48) R := by
  obtain ⟨hL, hm, ⟨ho, hl, o0⟩, hn, hn2, hdj⟩ := id hW
  have em := hm.1.1.1
  have ex := hL.1.1
  refine v_aload_n (pc := 1444) dL_law_1444 rfl rfl ?_
  refine v_aload_n (pc := 1445) dL_law_1445 rfl rfl ?_
  refine v_iload (pc := 1446) dL_law_1446 rfl ?_
  refine v_iconst (pc := 1448) (v := 1) dL_law_1448 (by decide) ?_
  refine v_iadd (pc := 1449) dL_law_1449 ?_
  refine v_eqi (y := nI (i + 1)) (nI_add i 1) ?_
  refine n_sld (i + 1) (pc := 1450) dL_law_1450 rfl (by omega) hL4 ?_
  refine v_aload_n (pc := 1451) dL_law_1451 rfl rfl ?_
  refine v_callS 8 48 (pc := 1452) kL_155 dL_law_1452 (Nat.le_of_ble_eq_true rfl) (by omega) (by omega) (Nat.le_of_ble_eq_true rfl) (Nat.le_of_ble_eq_true rfl) ?_
  refine z_total hL ho hl hn (fun k c c2 h1 u1 u2 u3 => ?_) (fun c => ?_)
  · have hm1 := LW_a hW u2
    have em1 := hm1.1.1.1
    refine v_istore (pc := 1455) dL_law_1455 rfl rfl (by decide) ?_
    refine v_aload_n (pc := 1457) dL_law_1457 rfl rfl ?_
    refine v_aload_n (pc := 1458) dL_law_1458 rfl rfl ?_
    refine v_iload (pc := 1459) dL_law_1459 rfl ?_
    refine v_iconst (pc := 1461) (v := 1) dL_law_1461 (by decide) ?_
    refine v_iadd (pc := 1462) dL_law_1462 ?_
    refine v_eqi (y := nI (i + 1)) (nI_add i 1) ?_
    refine n_sld (i + 1) (pc := 1463) dL_law_1463 rfl (by omega) hL4 ?_
    refine v_callV 0 0 (pc := 1464) kL_157 dL_law_1464 rfl (by assumption) (Nat.zero_le _) (Nat.zero_le _) (Nat.le_of_ble_eq_true rfl) (Nat.le_of_ble_eq_true rfl) ?_
    refine w_total hm1 (fun k2 c3 c4 h2 p1 p2 p3 => ?_) (fun c3 => absurd c (c3 k c2))
    obtain rfl : k2 = k := (nI_eq (by omega) (by omega)).mp (c3.symm.trans c)
    have hW2 := LW_ah hW u2 u1 p1 p2
    have em2 := p1.1.1.1
    have ho2 := hW2.2.2.1.1
    have hl2 := hW2.2.2.1.2.1
    have hv2 := ((p2 out hn2).2.2.2.2.2.2.1 0).trans u3
    refine v_istore (pc := 1467) dL_law_1467 rfl rfl (by decide) ?_
    refine v_aload_n (pc := 1469) dL_law_1469 rfl rfl ?_
    refine v_callV 0 0 (pc := 1470) kL_87 dL_law_1470 rfl (by assumption) (Nat.zero_le _) (Nat.zero_le _) (Nat.le_of_ble_eq_true rfl) (Nat.le_of_ble_eq_true rfl) ?_
    refine w_thrown em2 p3 ?_
    refine v_iload (pc := 1473) dL_law_1473 rfl ?_
    refine v_icmp_eq 1480 (pc := 1475) dL_law_1475 (by decide) (fun hb => ?_) (fun hb => ?_)
    · refine v_iload (pc := 1480) dL_law_1480 rfl ?_
      refine v_if_ne 1497 (pc := 1482) dL_law_1482 (by decide) (fun hb => ?_) (fun hb => ?_)
      · exact absurd rfl hb
      · refine v_aload_n (pc := 1485) dL_law_1485 rfl rfl ?_
        refine v_iconst (pc := 1486) (v := 0) dL_law_1486 (by decide) ?_
        refine n_lald (0) _ (pc := 1487) dL_law_1487 (by assumption) (by assumption) rfl (by omega) (by decide) hv2 ?_
        refine v_iload (pc := 1488) dL_law_1488 rfl ?_
        refine v_i2l (pc := 1490) dL_law_1490 ?_
        refine v_lcmp (pc := 1491) dL_law_1491 ?_
        refine v_if_eq 1497 (pc := 1492) dL_law_1492 (by decide) (fun hb => ?_) (fun hb => ?_)
        · refine v_goto 1513 (pc := 1497) dL_law_1497 (by decide) ?_
          refine v_loc [0, 1, 2, 3, 4] rfl ?_
          exact v_kle (by omega) (by omega) (nx h2 _ _ _ _ hW2)
        · exact absurd (lg_cmp0.mpr rfl) hb
    · exact absurd rfl hb
  · skip
    refine v_istore (pc := 1455) dL_law_1455 rfl rfl (by decide) ?_
    refine v_aload_n (pc := 1457) dL_law_1457 rfl rfl ?_
    refine v_aload_n (pc := 1458) dL_law_1458 rfl rfl ?_
    refine v_iload (pc := 1459) dL_law_1459 rfl ?_
    refine v_iconst (pc := 1461) (v := 1) dL_law_1461 (by decide) ?_
    refine v_iadd (pc := 1462) dL_law_1462 ?_
    refine v_eqi (y := nI (i + 1)) (nI_add i 1) ?_
    refine n_sld (i + 1) (pc := 1463) dL_law_1463 rfl (by omega) hL4 ?_
    refine v_callV 0 0 (pc := 1464) kL_157 dL_law_1464 rfl (by assumption) (Nat.zero_le _) (Nat.zero_le _) (Nat.le_of_ble_eq_true rfl) (Nat.le_of_ble_eq_true rfl) ?_
    refine w_total hm (fun k2 c3 c4 => absurd c3 (c k2 c4)) (fun c3 h2 p1 p2 p3 => ?_)
    have hW2 := LW_m hW p1 p2
    have em2 := p1.1.1.1
    refine v_istore (pc := 1467) dL_law_1467 rfl rfl (by decide) ?_
    refine v_aload_n (pc := 1469) dL_law_1469 rfl rfl ?_
    refine v_callV 0 0 (pc := 1470) kL_87 dL_law_1470 rfl (by assumption) (Nat.zero_le _) (Nat.zero_le _) (Nat.le_of_ble_eq_true rfl) (Nat.le_of_ble_eq_true rfl) ?_
    refine w_thrown em2 p3 ?_
    refine v_iload (pc := 1473) dL_law_1473 rfl ?_
    refine v_icmp_eq 1480 (pc := 1475) dL_law_1475 (by decide) (fun hb => ?_) (fun hb => ?_)
    · refine v_iload (pc := 1480) dL_law_1480 rfl ?_
      refine v_if_ne 1497 (pc := 1482) dL_law_1482 (by decide) (fun hb => ?_) (fun hb => ?_)
      · refine v_goto 1513 (pc := 1497) dL_law_1497 (by decide) ?_
        refine v_loc [0, 1, 2, 3, 4] rfl ?_
        exact v_kle (by omega) (by omega) (nx h2 _ _ _ _ hW2)
      · exact absurd hb (by decide)
    · exact absurd rfl hb
set_option maxHeartbeats 4000000 in
set_option maxRecDepth 100000 in
theorem g_settle (hW : LW h x S vs sa T SS mo Sm ka va za sm ki fi la aa out V sv nm nk) (hi : i + 8 ≤ mg_L G) (hL4 : mg_L G ≤ 4096) (nx : ∀ h' V' sv' nm' nk', LW h' x S vs sa T SS mo Sm ka va za sm ki fi la aa out V' sv' nm' nk' → mv_V G jL_law (d + 11) 1513 [(0, .ref (mg_b G)), (1, .ref x), (2, .ref mo), (3, .ref out), (4, .int (nI i))] [] h' kc ks R) : mv_V G jL_law (d + 11) 1394 [(0, .ref (mg_b G)), (1, .ref x), (2, .ref mo), (3, .ref out), (4, .int (nI i))] [] h (kc + 8) (ks + 48) R := by
  obtain ⟨hL, hm, ⟨ho, hl, o0⟩, hn, hn2, hdj⟩ := id hW
  have em := hm.1.1.1
  have ex := hL.1.1
  refine v_aload_n (pc := 1394) dL_law_1394 rfl rfl ?_
  refine v_callV 8 48 (pc := 1395) kL_139 dL_law_1395 rfl (by assumption) (by omega) (by omega) (Nat.le_of_ble_eq_true rfl) (Nat.le_of_ble_eq_true rfl) ?_
  refine o_settle hL (fun h1 u1 u2 => ?_)
  have u2' := SO_of u2 hn
  have hm1 := LW_a hW u2'
  have em1 := hm1.1.1.1
  refine v_aload_n (pc := 1398) dL_law_1398 rfl rfl ?_
  refine v_callV 0 0 (pc := 1399) kL_142 dL_law_1399 rfl (by assumption) (Nat.zero_le _) (Nat.zero_le _) (Nat.le_of_ble_eq_true rfl) (Nat.le_of_ble_eq_true rfl) ?_
  refine w_settle hm1 (fun h2 p1 p2 p3 => ?_)
  have hW2 := LW_ah hW u2' u1 p1 p2
  refine v_goto 1513 (pc := 1402) dL_law_1402 (by decide) ?_
  exact v_kle (by omega) (by omega) (nx h2 _ _ _ _ hW2)
set_option maxHeartbeats 4000000 in
set_option maxRecDepth 100000 in
theorem g_sync (hW : LW h x S vs sa T SS mo Sm ka va za sm ki fi la aa out V sv nm nk) (hi : i + 8 ≤ mg_L G) (hL4 : mg_L G ≤ 4096) (nx : ∀ h' V' sv' nm' nk', LW h' x S vs sa T SS mo Sm ka va za sm ki fi la aa out V' sv' nm' nk' → mv_V G jL_law (d + 11) 1513 [(0, .ref (mg_b G)), (1, .ref x), (2, .ref mo), (3, .ref out), (4, .int (nI i))] [] h' kc ks R) : mv_V G jL_law (d + 11) 1405 [(0, .ref (mg_b G)), (1, .ref x), (2, .ref mo), (3, .ref out), (4, .int (nI i))] [] h (kc + 8) (ks + 48) R := by
  obtain ⟨hL, hm, ⟨ho, hl, o0⟩, hn, hn2, hdj⟩ := id hW
  have em := hm.1.1.1
  have ex := hL.1.1
  refine v_aload_n (pc := 1405) dL_law_1405 rfl rfl ?_
  refine v_callV 8 48 (pc := 1406) kL_143 dL_law_1406 rfl (by assumption) (by omega) (by omega) (Nat.le_of_ble_eq_true rfl) (Nat.le_of_ble_eq_true rfl) ?_
  refine o_sync hL (fun c h1 u1 u2 => ?_) (fun c => ?_)
  · have u2' := SO_of u2 hn
    have hm1 := LW_a hW u2'
    have em1 := hm1.1.1.1
    refine v_aload_n (pc := 1409) dL_law_1409 rfl rfl ?_
    refine v_callV 0 0 (pc := 1410) kL_146 dL_law_1410 rfl (by assumption) (Nat.zero_le _) (Nat.zero_le _) (Nat.le_of_ble_eq_true rfl) (Nat.le_of_ble_eq_true rfl) ?_
    refine w_sync hm1 (fun h2 p1 p2 p3 => ?_)
    have hW2 := LW_ah hW u2' u1 p1 p2
    refine v_icmp_eq 1513 (pc := 1413) dL_law_1413 (by decide) (fun hb => ?_) (fun hb => ?_)
    · exact v_kle (by omega) (by omega) (nx h2 _ _ _ _ hW2)
    · exact absurd rfl hb
  · refine v_aload_n (pc := 1409) dL_law_1409 rfl rfl ?_
    refine v_callV 0 0 (pc := 1410) kL_146 dL_law_1410 rfl (by assumption) (Nat.zero_le _) (Nat.zero_le _) (Nat.le_of_ble_eq_true rfl) (Nat.le_of_ble_eq_true rfl) ?_
    refine w_sync hm (fun h2 p1 p2 p3 => ?_)
    rw [md_eq hm c] at p1
    have p1' : md h2 Sm mo ka va za sm ki fi la aa V sv nm nk := by rw [c]; exact p1
    have hW2 := LW_m hW p1' p2
    refine v_icmp_eq 1513 (pc := 1413) dL_law_1413 (by decide) (fun hb => ?_) (fun hb => ?_)
    · exact v_kle (by omega) (by omega) (nx h2 _ _ _ _ hW2)
    · exact absurd rfl hb
set_option maxHeartbeats 4000000 in
set_option maxRecDepth 100000 in
theorem g_checkpoint (hW : LW h x S vs sa T SS mo Sm ka va za sm ki fi la aa out V sv nm nk) (hi : i + 8 ≤ mg_L G) (hL4 : mg_L G ≤ 4096) (nx : ∀ h' V' sv' nm' nk', LW h' x S vs sa T SS mo Sm ka va za sm ki fi la aa out V' sv' nm' nk' → mv_V G jL_law (d + 11) 1513 [(0, .ref (mg_b G)), (1, .ref x), (2, .ref mo), (3, .ref out), (4, .int (nI i))] [] h' kc ks R) : mv_V G jL_law (d + 11) 1418 [(0, .ref (mg_b G)), (1, .ref x), (2, .ref mo), (3, .ref out), (4, .int (nI i))] [] h (kc + 8) (ks + 48) R := by
  obtain ⟨hL, hm, ⟨ho, hl, o0⟩, hn, hn2, hdj⟩ := id hW
  have em := hm.1.1.1
  have ex := hL.1.1
  refine v_aload_n (pc := 1418) dL_law_1418 rfl rfl ?_
  refine v_callV 8 48 (pc := 1419) kL_147 dL_law_1419 rfl (by assumption) (by omega) (by omega) (Nat.le_of_ble_eq_true rfl) (Nat.le_of_ble_eq_true rfl) ?_
  refine o_checkpoint hL (fun c h1 u1 u2 => ?_) (fun c => ?_)
  · have u2' := SO_of u2 hn
    have hm1 := LW_a hW u2'
    have em1 := hm1.1.1.1
    refine v_aload_n (pc := 1422) dL_law_1422 rfl rfl ?_
    refine v_callV 0 0 (pc := 1423) kL_150 dL_law_1423 rfl (by assumption) (Nat.zero_le _) (Nat.zero_le _) (Nat.le_of_ble_eq_true rfl) (Nat.le_of_ble_eq_true rfl) ?_
    refine w_checkpoint hm1 (fun h2 p1 p2 p3 => ?_)
    have hW2 := LW_ah hW u2' u1 p1 p2
    refine v_icmp_eq 1513 (pc := 1426) dL_law_1426 (by decide) (fun hb => ?_) (fun hb => ?_)
    · exact v_kle (by omega) (by omega) (nx h2 _ _ _ _ hW2)
    · exact absurd rfl hb
  · refine v_aload_n (pc := 1422) dL_law_1422 rfl rfl ?_
    refine v_callV 0 0 (pc := 1423) kL_150 dL_law_1423 rfl (by assumption) (Nat.zero_le _) (Nat.zero_le _) (Nat.le_of_ble_eq_true rfl) (Nat.le_of_ble_eq_true rfl) ?_
    refine w_checkpoint hm (fun h2 p1 p2 p3 => ?_)
    rw [md_eq hm c] at p1
    have p1' : md h2 Sm mo ka va za sm ki fi la aa V sv nm nk := by rw [c]; exact p1
    have hW2 := LW_m hW p1' p2
    refine v_icmp_eq 1513 (pc := 1426) dL_law_1426 (by decide) (fun hb => ?_) (fun hb => ?_)
    · exact v_kle (by omega) (by omega) (nx h2 _ _ _ _ hW2)
    · exact absurd rfl hb
set_option maxHeartbeats 4000000 in
set_option maxRecDepth 100000 in
theorem g_crash (hW : LW h x S vs sa T SS mo Sm ka va za sm ki fi la aa out V sv nm nk) (hi : i + 8 ≤ mg_L G) (hL4 : mg_L G ≤ 4096) (nx : ∀ h' V' sv' nm' nk', LW h' x S vs sa T SS mo Sm ka va za sm ki fi la aa out V' sv' nm' nk' → mv_V G jL_law (d + 11) 1513 [(0, .ref (mg_b G)), (1, .ref x), (2, .ref mo), (3, .ref out), (4, .int (nI i))] [] h' kc ks R) : mv_V G jL_law (d + 11) 1431 [(0, .ref (mg_b G)), (1, .ref x), (2, .ref mo), (3, .ref out), (4, .int (nI i))] [] h (kc + 8) (ks + 48) R := by
  obtain ⟨hL, hm, ⟨ho, hl, o0⟩, hn, hn2, hdj⟩ := id hW
  have em := hm.1.1.1
  have ex := hL.1.1
  refine v_aload_n (pc := 1431) dL_law_1431 rfl rfl ?_
  refine v_callV 8 48 (pc := 1432) kL_151 dL_law_1432 rfl (by assumption) (by omega) (by omega) (Nat.le_of_ble_eq_true rfl) (Nat.le_of_ble_eq_true rfl) ?_
  refine o_crash hL (fun h1 u1 u2 => ?_)
  have u2' := SO_of u2 hn
  have hm1 := LW_a hW u2'
  have em1 := hm1.1.1.1
  refine v_aload_n (pc := 1435) dL_law_1435 rfl rfl ?_
  refine v_callV 0 0 (pc := 1436) kL_154 dL_law_1436 rfl (by assumption) (Nat.zero_le _) (Nat.zero_le _) (Nat.le_of_ble_eq_true rfl) (Nat.le_of_ble_eq_true rfl) ?_
  refine w_crash hm1 (fun h2 p1 p2 p3 => ?_)
  have hW2 := LW_ah hW u2' u1 p1 p2
  refine v_icmp_eq 1513 (pc := 1439) dL_law_1439 (by decide) (fun hb => ?_) (fun hb => ?_)
  · exact v_kle (by omega) (by omega) (nx h2 _ _ _ _ hW2)
  · exact absurd rfl hb
set_option maxHeartbeats 4000000 in
set_option maxRecDepth 100000 in
theorem g_isSound (hW : LW h x S vs sa T SS mo Sm ka va za sm ki fi la aa out V sv nm nk) (hi : i + 8 ≤ mg_L G) (hL4 : mg_L G ≤ 4096) (nx : ∀ h' V' sv' nm' nk', LW h' x S vs sa T SS mo Sm ka va za sm ki fi la aa out V' sv' nm' nk' → mv_V G jL_law (d + 11) 1513 [(0, .ref (mg_b G)), (1, .ref x), (2, .ref mo), (3, .ref out), (4, .int (nI i))] [] h' kc ks R) : mv_V G jL_law (d + 11) 1500 [(0, .ref (mg_b G)), (1, .ref x), (2, .ref mo), (3, .ref out), (4, .int (nI i))] [] h (kc + 8) (ks + 48) R := by
  obtain ⟨hL, hm, ⟨ho, hl, o0⟩, hn, hn2, hdj⟩ := id hW
  have em := hm.1.1.1
  have ex := hL.1.1
  refine v_aload_n (pc := 1500) dL_law_1500 rfl rfl ?_
  refine v_callV 8 48 (pc := 1501) kL_158 dL_law_1501 rfl (by assumption) (by omega) (by omega) (Nat.le_of_ble_eq_true rfl) (Nat.le_of_ble_eq_true rfl) ?_
  refine o_isSound hL ?_
  refine v_aload_n (pc := 1504) dL_law_1504 rfl rfl ?_
  refine v_callV 0 0 (pc := 1505) kL_162 dL_law_1505 rfl (by assumption) (Nat.zero_le _) (Nat.zero_le _) (Nat.le_of_ble_eq_true rfl) (Nat.le_of_ble_eq_true rfl) ?_
  refine w_isSound hm (fun h2 p1 p2 p3 => ?_)
  have hW2 := LW_m hW p1 p2
  refine v_icmp_eq 1513 (pc := 1508) dL_law_1508 (by decide) (fun hb => ?_) (fun hb => ?_)
  · exact v_kle (by omega) (by omega) (nx h2 _ _ _ _ hW2)
  · exact absurd rfl hb
end GG
