theorem cb_11 : (Int8.ofInt (11)).toInt32 = (11 : Int32) := by decide
theorem cb_15 : (Int8.ofInt (15)).toInt32 = (15 : Int32) := by decide
theorem cb_17 : (Int8.ofInt (17)).toInt32 = (17 : Int32) := by decide
theorem cb_19 : (Int8.ofInt (19)).toInt32 = (19 : Int32) := by decide
theorem ib_0_22 : inB (0 : Int32) 22 = true := by decide +kernel
theorem ib_1_22 : inB (1 : Int32) 22 = true := by decide +kernel
theorem ib_2_22 : inB (2 : Int32) 22 = true := by decide +kernel
theorem ib_3_22 : inB (3 : Int32) 22 = true := by decide +kernel
theorem ib_4_22 : inB (4 : Int32) 22 = true := by decide +kernel
theorem ib_5_22 : inB (5 : Int32) 22 = true := by decide +kernel
theorem ib_6_22 : inB (6 : Int32) 22 = true := by decide +kernel
theorem ib_7_22 : inB (7 : Int32) 22 = true := by decide +kernel
theorem ib_8_22 : inB (8 : Int32) 22 = true := by decide +kernel
theorem ib_9_22 : inB (9 : Int32) 22 = true := by decide +kernel
theorem ib_10_22 : inB (10 : Int32) 22 = true := by decide +kernel
theorem ib_11_22 : inB (11 : Int32) 22 = true := by decide +kernel
theorem ib_12_22 : inB (12 : Int32) 22 = true := by decide +kernel
theorem ib_13_22 : inB (13 : Int32) 22 = true := by decide +kernel
theorem ib_14_22 : inB (14 : Int32) 22 = true := by decide +kernel
theorem ib_15_22 : inB (15 : Int32) 22 = true := by decide +kernel
theorem ib_16_22 : inB (16 : Int32) 22 = true := by decide +kernel
theorem ib_17_22 : inB (17 : Int32) 22 = true := by decide +kernel
theorem ib_18_22 : inB (18 : Int32) 22 = true := by decide +kernel
theorem ib_19_22 : inB (19 : Int32) 22 = true := by decide +kernel
theorem ib_20_22 : inB (20 : Int32) 22 = true := by decide +kernel
theorem ib_21_22 : inB (21 : Int32) 22 = true := by decide +kernel
theorem as_X11_10 {cc : ByteArray} {own : String} {fr lo nL : Nat} {G : Wc} {Γ : Cx} {us : List (Nat × Ob)} {pc : Nat} {L : List (Nat × Value)} {st : List Value} {u : Nat} {S : Ob} {i : Int32} {v : Int64} (us1 : List (Nat × Ob)) (j x : Nat) (hu : us[x]? = some (u, S)) (hk : kd u = 10) (hj : i.toNatClampNeg = j) (hin : inB i 22 = true) (hus : us.set x (u, sJ S 10 (va_up (oJ S 10) j v)) = us1) (d : decode cc pc = .ok (.lastore, 1)) (kk : V cc own fr lo nL G Γ us1 (pc + 1) L st) : V cc own fr lo nL G Γ us pc L (.long v :: .int i :: .ref (wA G u 11) :: st) := by
  subst hj
  exact V_last x 6 hu hk (by decide) rfl hin rfl hus d kk
def pX11_init_l373  : Nat → Int32 → Ob → Option (Ob)
  | 0, _, _ => none
  | n + 1, l1, S =>
    if (121 : Int32) ≤ l1 then
      some S
    else
      gd (inB l1 121) (
        gd (inB l1 390) (
          (some (sA S 6 (va_up (oA S 6) l1.toNatClampNeg (oA S 7 l1.toNatClampNeg)))).bind fun S50 =>
          (pX11_init_l373   n) (l1 + (1 : Int32)) S50))
def pX11_tail (S : Ob) : Option Ob :=
  (some (sJ S 10 (va_up (oJ S 10) 0 (499967946343 : Int64)))).bind fun S1 =>
  (some (sJ S1 10 (va_up (oJ S1 10) 1 (123581014175598 : Int64)))).bind fun S3 =>
  (some (sJ S3 10 (va_up (oJ S3 10) 2 (109270232688756 : Int64)))).bind fun S5 =>
  (some (sJ S5 10 (va_up (oJ S5 10) 3 (431131028601 : Int64)))).bind fun S7 =>
  (some (sJ S7 10 (va_up (oJ S7 10) 4 (6448484 : Int64)))).bind fun S9 =>
  (some (sJ S9 10 (va_up (oJ S9 10) 5 (1668246882 : Int64)))).bind fun S11 =>
  (some (sJ S11 10 (va_up (oJ S11 10) 6 (126943973305189 : Int64)))).bind fun S13 =>
  (some (sJ S13 10 (va_up (oJ S13 10) 7 (6518132 : Int64)))).bind fun S15 =>
  (some (sJ S15 10 (va_up (oJ S15 10) 8 (27973175206241651 : Int64)))).bind fun S17 =>
  (some (sJ S17 10 (va_up (oJ S17 10) 9 (495875090022 : Int64)))).bind fun S19 =>
  (some (sJ S19 10 (va_up (oJ S19 10) 10 (6578553 : Int64)))).bind fun S21 =>
  (some (sJ S21 10 (va_up (oJ S21 10) 11 (28530 : Int64)))).bind fun S23 =>
  (some (sJ S23 10 (va_up (oJ S23 10) 12 (6385252 : Int64)))).bind fun S25 =>
  (some (sJ S25 10 (va_up (oJ S25 10) 13 (7237492 : Int64)))).bind fun S27 =>
  (some (sJ S27 10 (va_up (oJ S27 10) 14 (1650553445 : Int64)))).bind fun S29 =>
  (some (sJ S29 10 (va_up (oJ S29 10) 15 (1852142452 : Int64)))).bind fun S31 =>
  (some (sJ S31 10 (va_up (oJ S31 10) 16 (1936683621 : Int64)))).bind fun S33 =>
  (some (sJ S33 10 (va_up (oJ S33 10) 17 (6840691 : Int64)))).bind fun S35 =>
  (some (sJ S35 10 (va_up (oJ S35 10) 18 (1818848101 : Int64)))).bind fun S37 =>
  (some (sJ S37 10 (va_up (oJ S37 10) 19 (461414298739 : Int64)))).bind fun S39 =>
  (some (sJ S39 10 (va_up (oJ S39 10) 20 (1885432174 : Int64)))).bind fun S41 =>
  (some (sJ S41 10 (va_up (oJ S41 10) 21 (121450625394034 : Int64)))).bind fun S43 =>
  (pX11_clears S43).bind fun r45 =>
  (pX11_init_l373 fu (0 : Int32) r45).bind fun r52 =>
  some r52
set_option maxRecDepth 20000 in
theorem wX11_init_l373 {G : Wc} {Γ : Cx}   : ∀ (n : Nat) {l1 : Int32} {S : Ob} {r : Ob}, pX11_init_l373   n l1 S = some r → V cX11_init RX11 2 81 2 G Γ [(28, r)] 397 [] [] → V cX11_init RX11 2 81 2 G Γ [(28, S)] 373 [(0, .ref (wA G 28 0)), (1, .int l1)] [] := by
  intro n
  induction n with
  | zero => intro l1 S r hf hx; unfold pX11_init_l373 at hf; cases hf
  | succ n ih =>
    intro l1 S r hf hx
    have hrec : ∀ {l1 : Int32} {S : Ob}, pX11_init_l373   n l1 S = some r → V cX11_init RX11 2 81 2 G Γ [(28, S)] 373 [(0, .ref (wA G 28 0)), (1, .int l1)] [] := fun h => ih h hx
    clear ih
    unfold pX11_init_l373 at hf
    refine v_iload_n (pc := 373) 1 dX11_init_373 rfl ?_
    refine v_bipush (pc := 374) (121 : Int32) dX11_init_374 cb_121 ?_
    refine v_icmp_ge (pc := 376) 397 dX11_init_376 (by decide) (fun c47 => ?_) (fun c47 => ?_)
    · replace hf := it_t c47 hf
      have hf2 := Option.some.inj hf; subst hf2
      exact V_sub [] rfl hx
    · replace hf := it_f c47 hf
      refine v_aload_n (pc := 379) 0 dX11_init_379 rfl ?_
      refine gf_RX11_33 (pc := 380) 0 rfl rfl dX11_init_380 ?_
      refine v_iload_n (pc := 383) 1 dX11_init_383 rfl ?_
      refine v_aload_n (pc := 384) 0 dX11_init_384 rfl ?_
      refine gf_RX11_37 (pc := 385) 0 rfl rfl dX11_init_385 ?_
      refine v_iload_n (pc := 388) 1 dX11_init_388 rfl ?_
      replace hf := gd_some hf; obtain ⟨g48, hf⟩ := hf
      refine al_X11_7 (pc := 389) _ 0 rfl rfl rfl g48 dX11_init_389 ?_
      replace hf := gd_some hf; obtain ⟨g49, hf⟩ := hf
      refine as_X11_6 (pc := 390) [_] _ 0 rfl rfl rfl g49 rfl dX11_init_390 ?_
      replace hf := bd_some hf; obtain ⟨S50, h51, hf⟩ := hf
      rw [Option.some.inj h51]
      refine v_iinc (pc := 391) 1 (l1 + (1 : Int32)) [(1, _), (0, _)] dX11_init_391 rfl (congrArg (fun z => _ + z) ci_1) (Nat.le_of_ble_eq_true rfl) rfl ?_
      refine v_goto (pc := 394) 373 dX11_init_394 (by decide) ?_
      exact V_sub [1, 0] rfl (hrec hf)
set_option maxRecDepth 20000 in
theorem kX11_tail {G : Wc} {Γ : Cx} {S : Ob} {r : Ob} (hF : Fnl G Γ none none (ov Γ.2.2.2 [(28, r)])) (hf : pX11_tail S = some r) : V cX11_init RX11 2 81 2 G Γ [(28, S)] 153 [(0, .ref (wA G 28 0))] [] := by
  unfold pX11_tail at hf
  refine v_aload_n (pc := 153) 0 dX11_init_153 rfl ?_
  refine gf_RX11_47 (pc := 154) 0 rfl rfl dX11_init_154 ?_
  refine v_iconst (pc := 157) (0 : Int32) dX11_init_157 ci_0 ?_
  refine v_ldc2_w (pc := 158) dX11_init_158 wc_RX11_87 ?_
  refine as_X11_10 (pc := 161) [_] 0 0 rfl rfl rfl ib_0_22 rfl dX11_init_161 ?_
  replace hf := bd_some hf; obtain ⟨S1, h2, hf⟩ := hf
  rw [Option.some.inj h2]
  refine v_aload_n (pc := 162) 0 dX11_init_162 rfl ?_
  refine gf_RX11_47 (pc := 163) 0 rfl rfl dX11_init_163 ?_
  refine v_iconst (pc := 166) (1 : Int32) dX11_init_166 ci_1 ?_
  refine v_ldc2_w (pc := 167) dX11_init_167 wc_RX11_89 ?_
  refine as_X11_10 (pc := 170) [_] 1 0 rfl rfl rfl ib_1_22 rfl dX11_init_170 ?_
  replace hf := bd_some hf; obtain ⟨S3, h4, hf⟩ := hf
  rw [Option.some.inj h4]
  refine v_aload_n (pc := 171) 0 dX11_init_171 rfl ?_
  refine gf_RX11_47 (pc := 172) 0 rfl rfl dX11_init_172 ?_
  refine v_iconst (pc := 175) (2 : Int32) dX11_init_175 ci_2 ?_
  refine v_ldc2_w (pc := 176) dX11_init_176 wc_RX11_91 ?_
  refine as_X11_10 (pc := 179) [_] 2 0 rfl rfl rfl ib_2_22 rfl dX11_init_179 ?_
  replace hf := bd_some hf; obtain ⟨S5, h6, hf⟩ := hf
  rw [Option.some.inj h6]
  refine v_aload_n (pc := 180) 0 dX11_init_180 rfl ?_
  refine gf_RX11_47 (pc := 181) 0 rfl rfl dX11_init_181 ?_
  refine v_iconst (pc := 184) (3 : Int32) dX11_init_184 ci_3 ?_
  refine v_ldc2_w (pc := 185) dX11_init_185 wc_RX11_93 ?_
  refine as_X11_10 (pc := 188) [_] 3 0 rfl rfl rfl ib_3_22 rfl dX11_init_188 ?_
  replace hf := bd_some hf; obtain ⟨S7, h8, hf⟩ := hf
  rw [Option.some.inj h8]
  refine v_aload_n (pc := 189) 0 dX11_init_189 rfl ?_
  refine gf_RX11_47 (pc := 190) 0 rfl rfl dX11_init_190 ?_
  refine v_iconst (pc := 193) (4 : Int32) dX11_init_193 ci_4 ?_
  refine v_ldc2_w (pc := 194) dX11_init_194 wc_RX11_95 ?_
  refine as_X11_10 (pc := 197) [_] 4 0 rfl rfl rfl ib_4_22 rfl dX11_init_197 ?_
  replace hf := bd_some hf; obtain ⟨S9, h10, hf⟩ := hf
  rw [Option.some.inj h10]
  refine v_aload_n (pc := 198) 0 dX11_init_198 rfl ?_
  refine gf_RX11_47 (pc := 199) 0 rfl rfl dX11_init_199 ?_
  refine v_iconst (pc := 202) (5 : Int32) dX11_init_202 ci_5 ?_
  refine v_ldc2_w (pc := 203) dX11_init_203 wc_RX11_97 ?_
  refine as_X11_10 (pc := 206) [_] 5 0 rfl rfl rfl ib_5_22 rfl dX11_init_206 ?_
  replace hf := bd_some hf; obtain ⟨S11, h12, hf⟩ := hf
  rw [Option.some.inj h12]
  refine v_aload_n (pc := 207) 0 dX11_init_207 rfl ?_
  refine gf_RX11_47 (pc := 208) 0 rfl rfl dX11_init_208 ?_
  refine v_bipush (pc := 211) (6 : Int32) dX11_init_211 cb_6 ?_
  refine v_ldc2_w (pc := 213) dX11_init_213 wc_RX11_99 ?_
  refine as_X11_10 (pc := 216) [_] 6 0 rfl rfl rfl ib_6_22 rfl dX11_init_216 ?_
  replace hf := bd_some hf; obtain ⟨S13, h14, hf⟩ := hf
  rw [Option.some.inj h14]
  refine v_aload_n (pc := 217) 0 dX11_init_217 rfl ?_
  refine gf_RX11_47 (pc := 218) 0 rfl rfl dX11_init_218 ?_
  refine v_bipush (pc := 221) (7 : Int32) dX11_init_221 cb_7 ?_
  refine v_ldc2_w (pc := 223) dX11_init_223 wc_RX11_101 ?_
  refine as_X11_10 (pc := 226) [_] 7 0 rfl rfl rfl ib_7_22 rfl dX11_init_226 ?_
  replace hf := bd_some hf; obtain ⟨S15, h16, hf⟩ := hf
  rw [Option.some.inj h16]
  refine v_aload_n (pc := 227) 0 dX11_init_227 rfl ?_
  refine gf_RX11_47 (pc := 228) 0 rfl rfl dX11_init_228 ?_
  refine v_bipush (pc := 231) (8 : Int32) dX11_init_231 cb_8 ?_
  refine v_ldc2_w (pc := 233) dX11_init_233 wc_RX11_103 ?_
  refine as_X11_10 (pc := 236) [_] 8 0 rfl rfl rfl ib_8_22 rfl dX11_init_236 ?_
  replace hf := bd_some hf; obtain ⟨S17, h18, hf⟩ := hf
  rw [Option.some.inj h18]
  refine v_aload_n (pc := 237) 0 dX11_init_237 rfl ?_
  refine gf_RX11_47 (pc := 238) 0 rfl rfl dX11_init_238 ?_
  refine v_bipush (pc := 241) (9 : Int32) dX11_init_241 cb_9 ?_
  refine v_ldc2_w (pc := 243) dX11_init_243 wc_RX11_105 ?_
  refine as_X11_10 (pc := 246) [_] 9 0 rfl rfl rfl ib_9_22 rfl dX11_init_246 ?_
  replace hf := bd_some hf; obtain ⟨S19, h20, hf⟩ := hf
  rw [Option.some.inj h20]
  refine v_aload_n (pc := 247) 0 dX11_init_247 rfl ?_
  refine gf_RX11_47 (pc := 248) 0 rfl rfl dX11_init_248 ?_
  refine v_bipush (pc := 251) (10 : Int32) dX11_init_251 cb_10 ?_
  refine v_ldc2_w (pc := 253) dX11_init_253 wc_RX11_107 ?_
  refine as_X11_10 (pc := 256) [_] 10 0 rfl rfl rfl ib_10_22 rfl dX11_init_256 ?_
  replace hf := bd_some hf; obtain ⟨S21, h22, hf⟩ := hf
  rw [Option.some.inj h22]
  refine v_aload_n (pc := 257) 0 dX11_init_257 rfl ?_
  refine gf_RX11_47 (pc := 258) 0 rfl rfl dX11_init_258 ?_
  refine v_bipush (pc := 261) (11 : Int32) dX11_init_261 cb_11 ?_
  refine v_ldc2_w (pc := 263) dX11_init_263 wc_RX11_109 ?_
  refine as_X11_10 (pc := 266) [_] 11 0 rfl rfl rfl ib_11_22 rfl dX11_init_266 ?_
  replace hf := bd_some hf; obtain ⟨S23, h24, hf⟩ := hf
  rw [Option.some.inj h24]
  refine v_aload_n (pc := 267) 0 dX11_init_267 rfl ?_
  refine gf_RX11_47 (pc := 268) 0 rfl rfl dX11_init_268 ?_
  refine v_bipush (pc := 271) (12 : Int32) dX11_init_271 cb_12 ?_
  refine v_ldc2_w (pc := 273) dX11_init_273 wc_RX11_111 ?_
  refine as_X11_10 (pc := 276) [_] 12 0 rfl rfl rfl ib_12_22 rfl dX11_init_276 ?_
  replace hf := bd_some hf; obtain ⟨S25, h26, hf⟩ := hf
  rw [Option.some.inj h26]
  refine v_aload_n (pc := 277) 0 dX11_init_277 rfl ?_
  refine gf_RX11_47 (pc := 278) 0 rfl rfl dX11_init_278 ?_
  refine v_bipush (pc := 281) (13 : Int32) dX11_init_281 cb_13 ?_
  refine v_ldc2_w (pc := 283) dX11_init_283 wc_RX11_113 ?_
  refine as_X11_10 (pc := 286) [_] 13 0 rfl rfl rfl ib_13_22 rfl dX11_init_286 ?_
  replace hf := bd_some hf; obtain ⟨S27, h28, hf⟩ := hf
  rw [Option.some.inj h28]
  refine v_aload_n (pc := 287) 0 dX11_init_287 rfl ?_
  refine gf_RX11_47 (pc := 288) 0 rfl rfl dX11_init_288 ?_
  refine v_bipush (pc := 291) (14 : Int32) dX11_init_291 cb_14 ?_
  refine v_ldc2_w (pc := 293) dX11_init_293 wc_RX11_115 ?_
  refine as_X11_10 (pc := 296) [_] 14 0 rfl rfl rfl ib_14_22 rfl dX11_init_296 ?_
  replace hf := bd_some hf; obtain ⟨S29, h30, hf⟩ := hf
  rw [Option.some.inj h30]
  refine v_aload_n (pc := 297) 0 dX11_init_297 rfl ?_
  refine gf_RX11_47 (pc := 298) 0 rfl rfl dX11_init_298 ?_
  refine v_bipush (pc := 301) (15 : Int32) dX11_init_301 cb_15 ?_
  refine v_ldc2_w (pc := 303) dX11_init_303 wc_RX11_117 ?_
  refine as_X11_10 (pc := 306) [_] 15 0 rfl rfl rfl ib_15_22 rfl dX11_init_306 ?_
  replace hf := bd_some hf; obtain ⟨S31, h32, hf⟩ := hf
  rw [Option.some.inj h32]
  refine v_aload_n (pc := 307) 0 dX11_init_307 rfl ?_
  refine gf_RX11_47 (pc := 308) 0 rfl rfl dX11_init_308 ?_
  refine v_bipush (pc := 311) (16 : Int32) dX11_init_311 cb_16 ?_
  refine v_ldc2_w (pc := 313) dX11_init_313 wc_RX11_119 ?_
  refine as_X11_10 (pc := 316) [_] 16 0 rfl rfl rfl ib_16_22 rfl dX11_init_316 ?_
  replace hf := bd_some hf; obtain ⟨S33, h34, hf⟩ := hf
  rw [Option.some.inj h34]
  refine v_aload_n (pc := 317) 0 dX11_init_317 rfl ?_
  refine gf_RX11_47 (pc := 318) 0 rfl rfl dX11_init_318 ?_
  refine v_bipush (pc := 321) (17 : Int32) dX11_init_321 cb_17 ?_
  refine v_ldc2_w (pc := 323) dX11_init_323 wc_RX11_121 ?_
  refine as_X11_10 (pc := 326) [_] 17 0 rfl rfl rfl ib_17_22 rfl dX11_init_326 ?_
  replace hf := bd_some hf; obtain ⟨S35, h36, hf⟩ := hf
  rw [Option.some.inj h36]
  refine v_aload_n (pc := 327) 0 dX11_init_327 rfl ?_
  refine gf_RX11_47 (pc := 328) 0 rfl rfl dX11_init_328 ?_
  refine v_bipush (pc := 331) (18 : Int32) dX11_init_331 cb_18 ?_
  refine v_ldc2_w (pc := 333) dX11_init_333 wc_RX11_123 ?_
  refine as_X11_10 (pc := 336) [_] 18 0 rfl rfl rfl ib_18_22 rfl dX11_init_336 ?_
  replace hf := bd_some hf; obtain ⟨S37, h38, hf⟩ := hf
  rw [Option.some.inj h38]
  refine v_aload_n (pc := 337) 0 dX11_init_337 rfl ?_
  refine gf_RX11_47 (pc := 338) 0 rfl rfl dX11_init_338 ?_
  refine v_bipush (pc := 341) (19 : Int32) dX11_init_341 cb_19 ?_
  refine v_ldc2_w (pc := 343) dX11_init_343 wc_RX11_125 ?_
  refine as_X11_10 (pc := 346) [_] 19 0 rfl rfl rfl ib_19_22 rfl dX11_init_346 ?_
  replace hf := bd_some hf; obtain ⟨S39, h40, hf⟩ := hf
  rw [Option.some.inj h40]
  refine v_aload_n (pc := 347) 0 dX11_init_347 rfl ?_
  refine gf_RX11_47 (pc := 348) 0 rfl rfl dX11_init_348 ?_
  refine v_bipush (pc := 351) (20 : Int32) dX11_init_351 cb_20 ?_
  refine v_ldc2_w (pc := 353) dX11_init_353 wc_RX11_127 ?_
  refine as_X11_10 (pc := 356) [_] 20 0 rfl rfl rfl ib_20_22 rfl dX11_init_356 ?_
  replace hf := bd_some hf; obtain ⟨S41, h42, hf⟩ := hf
  rw [Option.some.inj h42]
  refine v_aload_n (pc := 357) 0 dX11_init_357 rfl ?_
  refine gf_RX11_47 (pc := 358) 0 rfl rfl dX11_init_358 ?_
  refine v_bipush (pc := 361) (21 : Int32) dX11_init_361 cb_21 ?_
  refine v_ldc2_w (pc := 363) dX11_init_363 wc_RX11_129 ?_
  refine as_X11_10 (pc := 366) [_] 21 0 rfl rfl rfl ib_21_22 rfl dX11_init_366 ?_
  replace hf := bd_some hf; obtain ⟨S43, h44, hf⟩ := hf
  rw [Option.some.inj h44]
  refine v_aload_n (pc := 367) 0 dX11_init_367 rfl ?_
  replace hf := bd_some hf; obtain ⟨r45, h46, hf⟩ := hf
  refine V_call (pc := 368) (us1 := [_]) [0] 0 (kX11_clears (o := 28) rfl h46) rfl rfl rfl rfl rfl rfl (Nat.le_of_ble_eq_true rfl) rfl rfl rfl wm_RX11_131 md_X11_clears (Nat.le_of_ble_eq_true rfl) (Nat.le_of_ble_eq_true rfl) rfl rfl (Nat.le_of_ble_eq_true rfl) dX11_init_368 ?_
  refine v_iconst (pc := 371) (0 : Int32) dX11_init_371 ci_0 ?_
  refine v_istore_n (pc := 372) [(1, _), (0, _)] dX11_init_372 (Nat.le_of_ble_eq_true rfl) rfl ?_
  replace hf := bd_some hf; obtain ⟨r52, h53, hf⟩ := hf
  refine V_sub [1, 0] rfl (wX11_init_l373  fu h53 ?_)
  have hf2 := Option.some.inj hf; subst hf2
  exact V_vret (pc := 397) hF dX11_init_397
