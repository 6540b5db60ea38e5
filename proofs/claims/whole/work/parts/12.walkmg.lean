set_option maxRecDepth 20000 in
theorem wX11_book_l89 {G : Wc} {Γ : Cx} {o : Nat} {l1 : Int32} (hk0 : kd o = 10) : ∀ (n : Nat) {l2 : Int32} {S : Ob} {r : Ob}, pX11_book_l89  l1 n l2 S = some r → V cX11_book RX11 6 177 4 G Γ [(o, r)] 107 [(0, .ref (wA G o 0)), (1, .int l1)] [] → V cX11_book RX11 6 177 4 G Γ [(o, S)] 89 [(0, .ref (wA G o 0)), (1, .int l1), (2, .int l2)] [] := by
  intro n
  induction n with
  | zero => intro l2 S r hf hx; unfold pX11_book_l89 at hf; cases hf
  | succ n ih =>
    intro l2 S r hf hx
    have hrec : ∀ {l2 : Int32} {S : Ob}, pX11_book_l89  l1 n l2 S = some r → V cX11_book RX11 6 177 4 G Γ [(o, S)] 89 [(0, .ref (wA G o 0)), (1, .int l1), (2, .int l2)] [] := fun h => ih h hx
    clear ih
    unfold pX11_book_l89 at hf
    refine v_iload_n (pc := 89) 2 dX11_book_89 rfl ?_
    refine v_iconst (pc := 90) (4 : Int32) dX11_book_90 ci_4 ?_
    refine v_icmp_ge (pc := 91) 107 dX11_book_91 (by decide) (fun c11 => ?_) (fun c11 => ?_)
    · replace hf := it_t c11 hf
      have hf2 := Option.some.inj hf; subst hf2
      exact V_sub [0, 1] rfl hx
    · replace hf := it_f c11 hf
      refine v_aload_n (pc := 94) 0 dX11_book_94 rfl ?_
      refine gf_RX11_69 (pc := 95) 0 rfl hk0 dX11_book_95 ?_
      refine v_iload_n (pc := 98) 2 dX11_book_98 rfl ?_
      refine v_iconst (pc := 99) (0 : Int32) dX11_book_99 ci_0 ?_
      replace hf := gd_some hf; obtain ⟨g12, hf⟩ := hf
      refine as_X11_37 (pc := 100) [_] _ 0 rfl hk0 rfl g12 rfl dX11_book_100 ?_
      refine v_iinc (pc := 101) 2 (l2 + (1 : Int32)) [(2, _), (0, _), (1, _)] dX11_book_101 rfl (congrArg (fun z => _ + z) ci_1) (Nat.le_of_ble_eq_true rfl) rfl ?_
      refine v_goto (pc := 104) 89 dX11_book_104 (by decide) ?_
      exact V_sub [1, 2, 0] rfl (hrec hf)
set_option maxRecDepth 20000 in
theorem wX11_book_l111 {G : Wc} {Γ : Cx} {o : Nat} {l1 : Int32} (hk0 : kd o = 10) : ∀ (n : Nat) {l2 : Int32} {l3 : Int32} {S : Ob} {r : Int32 × Ob}, pX11_book_l111  l1 n l2 l3 S = some r → V cX11_book RX11 6 177 4 G Γ [(o, r.2)] 191 [(0, .ref (wA G o 0)), (1, .int l1), (2, .int r.1)] [] → V cX11_book RX11 6 177 4 G Γ [(o, S)] 111 [(0, .ref (wA G o 0)), (1, .int l1), (2, .int l2), (3, .int l3)] [] := by
  intro n
  induction n with
  | zero => intro l2 l3 S r hf hx; unfold pX11_book_l111 at hf; cases hf
  | succ n ih =>
    intro l2 l3 S r hf hx
    have hrec : ∀ {l2 : Int32} {l3 : Int32} {S : Ob}, pX11_book_l111  l1 n l2 l3 S = some r → V cX11_book RX11 6 177 4 G Γ [(o, S)] 111 [(0, .ref (wA G o 0)), (1, .int l1), (2, .int l2), (3, .int l3)] [] := fun h => ih h hx
    clear ih
    unfold pX11_book_l111 at hf
    refine v_iload_n (pc := 111) 3 dX11_book_111 rfl ?_
    refine v_aload_n (pc := 112) 0 dX11_book_112 rfl ?_
    refine gf_RX11_406 (pc := 113) 0 rfl hk0 dX11_book_113 ?_
    refine v_icmp_ge (pc := 116) 191 dX11_book_116 (by decide) (fun c15 => ?_) (fun c15 => ?_)
    · replace hf := it_t c15 hf
      have hf2 := Option.some.inj hf; subst hf2
      exact V_sub [0, 1, 2] rfl hx
    · replace hf := it_f c15 hf
      refine v_iload_n (pc := 119) 2 dX11_book_119 rfl ?_
      refine v_if_ge (pc := 120) 191 dX11_book_120 (by decide) (fun c16 => ?_) (fun c16 => ?_)
      · replace hf := it_t c16 hf
        have hf2 := Option.some.inj hf; subst hf2
        exact V_sub [0, 1, 2] rfl hx
      · replace hf := it_f c16 hf
        refine v_aload_n (pc := 123) 0 dX11_book_123 rfl ?_
        refine gf_RX11_69 (pc := 124) 0 rfl hk0 dX11_book_124 ?_
        refine v_iconst (pc := 127) (0 : Int32) dX11_book_127 ci_0 ?_
        refine v_aload_n (pc := 128) 0 dX11_book_128 rfl ?_
        refine v_aload_n (pc := 129) 0 dX11_book_129 rfl ?_
        refine gf_RX11_40 (pc := 130) 0 rfl hk0 dX11_book_130 ?_
        refine v_iconst (pc := 133) (3 : Int32) dX11_book_133 ci_3 ?_
        refine v_iload_n (pc := 134) 3 dX11_book_134 rfl ?_
        refine v_imul (pc := 135) dX11_book_135 ?_
        replace hf := gd_some hf; obtain ⟨g17, hf⟩ := hf
        refine al_X11_8 (pc := 136) _ 0 rfl hk0 rfl g17 dX11_book_136 ?_
        refine v_aload_n (pc := 137) 0 dX11_book_137 rfl ?_
        refine gf_RX11_40 (pc := 138) 0 rfl hk0 dX11_book_138 ?_
        refine v_iconst (pc := 141) (3 : Int32) dX11_book_141 ci_3 ?_
        refine v_iload_n (pc := 142) 3 dX11_book_142 rfl ?_
        refine v_imul (pc := 143) dX11_book_143 ?_
        refine v_iconst (pc := 144) (1 : Int32) dX11_book_144 ci_1 ?_
        refine v_iadd (pc := 145) dX11_book_145 ?_
        replace hf := gd_some hf; obtain ⟨g18, hf⟩ := hf
        refine al_X11_8 (pc := 146) _ 0 rfl hk0 rfl g18 dX11_book_146 ?_
        refine v_aload_n (pc := 147) 0 dX11_book_147 rfl ?_
        refine gf_RX11_40 (pc := 148) 0 rfl hk0 dX11_book_148 ?_
        refine v_iconst (pc := 151) (3 : Int32) dX11_book_151 ci_3 ?_
        refine v_iload_n (pc := 152) 3 dX11_book_152 rfl ?_
        refine v_imul (pc := 153) dX11_book_153 ?_
        refine v_iconst (pc := 154) (2 : Int32) dX11_book_154 ci_2 ?_
        refine v_iadd (pc := 155) dX11_book_155 ?_
        replace hf := gd_some hf; obtain ⟨g19, hf⟩ := hf
        refine al_X11_8 (pc := 156) _ 0 rfl hk0 rfl g19 dX11_book_156 ?_
        replace hf := bd_some hf; obtain ⟨r20, h21, hf⟩ := hf
        refine V_call (pc := 157) (us1 := [_]) [0] 0 (kX11_does (o := o) hk0 h21) rfl rfl rfl rfl rfl hk0 (Nat.le_of_ble_eq_true rfl) rfl rfl rfl wm_RX11_412 md_X11_does (Nat.le_of_ble_eq_true rfl) (Nat.le_of_ble_eq_true rfl) rfl rfl (Nat.le_of_ble_eq_true rfl) dX11_book_157 ?_
        refine as_X11_37 (pc := 160) [_] 0 0 rfl hk0 rfl ib_0_4 rfl dX11_book_160 ?_
        refine v_aload_n (pc := 161) 0 dX11_book_161 rfl ?_
        refine gf_RX11_69 (pc := 162) 0 rfl hk0 dX11_book_162 ?_
        refine v_iconst (pc := 165) (0 : Int32) dX11_book_165 ci_0 ?_
        refine al_X11_37 (pc := 166) 0 0 rfl hk0 rfl ib_0_4 dX11_book_166 ?_
        refine v_if_le (pc := 167) 175 dX11_book_167 (by decide) (fun c22 => ?_) (fun c22 => ?_)
        · replace hf := it_t c22 hf
          refine v_aload_n (pc := 175) 0 dX11_book_175 rfl ?_
          refine gf_RX11_69 (pc := 176) 0 rfl hk0 dX11_book_176 ?_
          refine v_iconst (pc := 179) (1 : Int32) dX11_book_179 ci_1 ?_
          refine v_dup2 (pc := 180) dX11_book_180 rfl rfl ?_
          refine al_X11_37 (pc := 181) 1 0 rfl hk0 rfl ib_1_4 dX11_book_181 ?_
          refine v_iconst (pc := 182) (1 : Int32) dX11_book_182 ci_1 ?_
          refine v_iadd (pc := 183) dX11_book_183 ?_
          refine as_X11_37 (pc := 184) [_] 1 0 rfl hk0 rfl ib_1_4 rfl dX11_book_184 ?_
          refine v_iinc (pc := 185) 3 (l3 + (1 : Int32)) [(3, _), (0, _), (1, _), (2, _)] dX11_book_185 rfl (congrArg (fun z => _ + z) ci_1) (Nat.le_of_ble_eq_true rfl) rfl ?_
          refine v_goto (pc := 188) 111 dX11_book_188 (by decide) ?_
          exact V_sub [1, 2, 3, 0] rfl (hrec hf)
        · replace hf := it_f c22 hf
          refine v_iload_n (pc := 170) 3 dX11_book_170 rfl ?_
          refine v_istore_n (pc := 171) [(2, _), (0, _), (1, _), (3, _)] dX11_book_171 (Nat.le_of_ble_eq_true rfl) rfl ?_
          refine v_goto (pc := 172) 185 dX11_book_172 (by decide) ?_
          refine v_iinc (pc := 185) 3 (l3 + (1 : Int32)) [(3, _), (2, _), (0, _), (1, _)] dX11_book_185 rfl (congrArg (fun z => _ + z) ci_1) (Nat.le_of_ble_eq_true rfl) rfl ?_
          refine v_goto (pc := 188) 111 dX11_book_188 (by decide) ?_
          exact V_sub [2, 3, 1, 0] rfl (hrec hf)
set_option maxRecDepth 20000 in
theorem wX11_book_j273 {G : Wc} {Γ : Cx} {o : Nat} {S : Ob} {l1 : Int32} {l2 : Int32} {r : Int32 × Ob} (hk0 : kd o = 10) (hF : Fnl G Γ (some .int) (some (.int r.1)) (ov Γ.2.2.2 [(o, r.2)])) (hf : pX11_book_j273 S l1 l2 = some r) : V cX11_book RX11 6 177 4 G Γ [(o, S)] 273 [(0, .ref (wA G o 0)), (1, .int l1), (2, .int l2)] [] := by
  unfold pX11_book_j273 at hf
  refine v_iload_n (pc := 273) 1 dX11_book_273 rfl ?_
  refine v_if_ne (pc := 274) 281 dX11_book_274 (by decide) (fun c28 => ?_) (fun c28 => ?_)
  · replace hf := it_f c28 hf
    refine v_iload_n (pc := 281) 2 dX11_book_281 rfl ?_
    have hf2 := Option.some.inj hf; subst hf2
    exact V_iret (pc := 282) hF dX11_book_282
  · replace hf := it_t c28 hf
    refine v_aload_n (pc := 277) 0 dX11_book_277 rfl ?_
    replace hf := bd_some hf; obtain ⟨r29, h30, hf⟩ := hf
    refine V_call (pc := 278) (us1 := [_]) [0] 0 (kX11_back (o := o) hk0 h30) rfl rfl rfl rfl rfl hk0 (Nat.le_of_ble_eq_true rfl) rfl rfl rfl wm_RX11_330 md_X11_back (Nat.le_of_ble_eq_true rfl) (Nat.le_of_ble_eq_true rfl) rfl rfl (Nat.le_of_ble_eq_true rfl) dX11_book_278 ?_
    refine v_iload_n (pc := 281) 2 dX11_book_281 rfl ?_
    have hf2 := Option.some.inj hf; subst hf2
    exact V_iret (pc := 282) hF dX11_book_282
set_option maxRecDepth 20000 in
theorem wX11_book_l239 {G : Wc} {Γ : Cx} {o : Nat} {l1 : Int32} {l2 : Int32} (hk0 : kd o = 10) : ∀ (n : Nat) {l3 : Int32} {S : Ob} {r : Ob}, pX11_book_l239  l1 l2 n l3 S = some r → V cX11_book RX11 6 177 4 G Γ [(o, r)] 273 [(0, .ref (wA G o 0)), (1, .int l1), (2, .int l2)] [] → V cX11_book RX11 6 177 4 G Γ [(o, S)] 239 [(0, .ref (wA G o 0)), (1, .int l1), (2, .int l2), (3, .int l3)] [] := by
  intro n
  induction n with
  | zero => intro l3 S r hf hx; unfold pX11_book_l239 at hf; cases hf
  | succ n ih =>
    intro l3 S r hf hx
    have hrec : ∀ {l3 : Int32} {S : Ob}, pX11_book_l239  l1 l2 n l3 S = some r → V cX11_book RX11 6 177 4 G Γ [(o, S)] 239 [(0, .ref (wA G o 0)), (1, .int l1), (2, .int l2), (3, .int l3)] [] := fun h => ih h hx
    clear ih
    unfold pX11_book_l239 at hf
    refine v_iload_n (pc := 239) 3 dX11_book_239 rfl ?_
    refine v_bipush (pc := 240) (88 : Int32) dX11_book_240 cb_88 ?_
    refine v_icmp_ge (pc := 242) 273 dX11_book_242 (by decide) (fun c34 => ?_) (fun c34 => ?_)
    · replace hf := it_t c34 hf
      have hf2 := Option.some.inj hf; subst hf2
      exact V_sub [0, 1, 2] rfl hx
    · replace hf := it_f c34 hf
      refine v_aload_n (pc := 245) 0 dX11_book_245 rfl ?_
      refine gf_RX11_50 (pc := 246) 0 rfl hk0 dX11_book_246 ?_
      refine v_bipush (pc := 249) (88 : Int32) dX11_book_249 cb_88 ?_
      refine v_aload_n (pc := 251) 0 dX11_book_251 rfl ?_
      refine gf_RX11_242 (pc := 252) 0 rfl hk0 dX11_book_252 ?_
      refine v_iconst (pc := 255) (1 : Int32) dX11_book_255 ci_1 ?_
      refine v_isub (pc := 256) dX11_book_256 ?_
      refine v_imul (pc := 257) dX11_book_257 ?_
      refine v_iload_n (pc := 258) 3 dX11_book_258 rfl ?_
      refine v_iadd (pc := 259) dX11_book_259 ?_
      refine v_aload_n (pc := 260) 0 dX11_book_260 rfl ?_
      refine gf_RX11_53 (pc := 261) 0 rfl hk0 dX11_book_261 ?_
      refine v_iload_n (pc := 264) 3 dX11_book_264 rfl ?_
      replace hf := gd_some hf; obtain ⟨g35, hf⟩ := hf
      refine al_X11_22 (pc := 265) _ 0 rfl hk0 rfl g35 dX11_book_265 ?_
      replace hf := gd_some hf; obtain ⟨g36, hf⟩ := hf
      refine as_X11_21 (pc := 266) [_] _ 0 rfl hk0 rfl g36 rfl dX11_book_266 ?_
      refine v_iinc (pc := 267) 3 (l3 + (1 : Int32)) [(3, _), (0, _), (1, _), (2, _)] dX11_book_267 rfl (congrArg (fun z => _ + z) ci_1) (Nat.le_of_ble_eq_true rfl) rfl ?_
      refine v_goto (pc := 270) 239 dX11_book_270 (by decide) ?_
      exact V_sub [1, 2, 3, 0] rfl (hrec hf)
set_option maxRecDepth 20000 in
theorem wX11_book_l39 {G : Wc} {Γ : Cx} {o : Nat} {l1 : Int32} {r : Int32 × Ob} (hk0 : kd o = 10) (hF : Fnl G Γ (some .int) (some (.int r.1)) (ov Γ.2.2.2 [(o, r.2)])) : ∀ (n : Nat) {S : Ob}, pX11_book_l39  l1 n S = some r → V cX11_book RX11 6 177 4 G Γ [(o, S)] 39 [(0, .ref (wA G o 0)), (1, .int l1)] [] := by
  intro n
  induction n with
  | zero => intro S hf; unfold pX11_book_l39 at hf; cases hf
  | succ n ih =>
    intro S hf
    have hrec : ∀ {S : Ob}, pX11_book_l39  l1 n S = some r → V cX11_book RX11 6 177 4 G Γ [(o, S)] 39 [(0, .ref (wA G o 0)), (1, .int l1)] [] := fun h => ih h
    clear ih
    unfold pX11_book_l39 at hf
    refine v_aload_n (pc := 39) 0 dX11_book_39 rfl ?_
    refine gf_RX11_144 (pc := 40) 0 rfl hk0 dX11_book_40 ?_
    refine v_if_eq (pc := 43) 83 dX11_book_43 (by decide) (fun c8 => ?_) (fun c8 => ?_)
    · replace hf := it_t c8 hf
      refine v_aload_n (pc := 83) 0 dX11_book_83 rfl ?_
      replace hf := bd_some hf; obtain ⟨r9, h10, hf⟩ := hf
      refine V_call (pc := 84) (us1 := [_]) [0] 0 (kX11_tries (o := o) hk0 h10) rfl rfl rfl rfl rfl hk0 (Nat.le_of_ble_eq_true rfl) rfl rfl rfl wm_RX11_327 md_X11_tries (Nat.le_of_ble_eq_true rfl) (Nat.le_of_ble_eq_true rfl) rfl rfl (Nat.le_of_ble_eq_true rfl) dX11_book_84 ?_
      refine v_iconst (pc := 87) (0 : Int32) dX11_book_87 ci_0 ?_
      refine v_istore_n (pc := 88) [(2, _), (0, _), (1, _)] dX11_book_88 (Nat.le_of_ble_eq_true rfl) rfl ?_
      replace hf := bd_some hf; obtain ⟨r13, h14, hf⟩ := hf
      refine V_sub [1, 2, 0] rfl (wX11_book_l89 hk0 fu h14 ?_)
      refine v_iconst (pc := 107) (-1 : Int32) dX11_book_107 ci_m1 ?_
      refine v_istore_n (pc := 108) [(2, _), (0, _), (1, _)] dX11_book_108 (Nat.le_of_ble_eq_true rfl) rfl ?_
      refine v_iconst (pc := 109) (0 : Int32) dX11_book_109 ci_0 ?_
      refine v_istore_n (pc := 110) [(3, _), (2, _), (0, _), (1, _)] dX11_book_110 (Nat.le_of_ble_eq_true rfl) rfl ?_
      replace hf := bd_some hf; obtain ⟨r23, h24, hf⟩ := hf
      refine V_sub [2, 3, 1, 0] rfl (wX11_book_l111 hk0 fu h24 ?_)
      refine v_aload_n (pc := 191) 0 dX11_book_191 rfl ?_
      refine gf_RX11_69 (pc := 192) 0 rfl hk0 dX11_book_192 ?_
      refine v_iconst (pc := 195) (2 : Int32) dX11_book_195 ci_2 ?_
      refine v_aload_n (pc := 196) 0 dX11_book_196 rfl ?_
      refine gf_RX11_33 (pc := 197) 0 rfl hk0 dX11_book_197 ?_
      refine v_bipush (pc := 200) (121 : Int32) dX11_book_200 cb_121 ?_
      refine al_X11_6 (pc := 202) 121 0 rfl hk0 rfl ib_121_390 dX11_book_202 ?_
      refine as_X11_37 (pc := 203) [_] 2 0 rfl hk0 rfl ib_2_4 rfl dX11_book_203 ?_
      refine v_aload_n (pc := 204) 0 dX11_book_204 rfl ?_
      refine gf_RX11_69 (pc := 205) 0 rfl hk0 dX11_book_205 ?_
      refine v_iconst (pc := 208) (3 : Int32) dX11_book_208 ci_3 ?_
      refine v_aload_n (pc := 209) 0 dX11_book_209 rfl ?_
      replace hf := bd_some hf; obtain ⟨r25, h26, hf⟩ := hf
      refine V_call (pc := 210) (us1 := [_]) [0] 0 (kX11_bagged (o := o) hk0 h26) rfl rfl rfl rfl rfl hk0 (Nat.le_of_ble_eq_true rfl) rfl rfl rfl wm_RX11_286 md_X11_bagged (Nat.le_of_ble_eq_true rfl) (Nat.le_of_ble_eq_true rfl) rfl rfl (Nat.le_of_ble_eq_true rfl) dX11_book_210 ?_
      refine as_X11_37 (pc := 213) [_] 3 0 rfl hk0 rfl ib_3_4 rfl dX11_book_213 ?_
      refine v_aload_n (pc := 214) 0 dX11_book_214 rfl ?_
      refine v_iconst (pc := 215) (1 : Int32) dX11_book_215 ci_1 ?_
      refine pf_RX11_416 (pc := 216) [_] 0 rfl hk0 rfl rfl dX11_book_216 ?_
      refine v_iload_n (pc := 219) 1 dX11_book_219 rfl ?_
      refine v_iconst (pc := 220) (1 : Int32) dX11_book_220 ci_1 ?_
      refine v_icmp_ne (pc := 221) 273 dX11_book_221 (by decide) (fun c27 => ?_) (fun c27 => ?_)
      · replace hf := it_f c27 hf
        exact V_sub [0, 1, 2] rfl (wX11_book_j273 hk0 hF hf)
      · replace hf := it_t c27 hf
        refine v_aload_n (pc := 224) 0 dX11_book_224 rfl ?_
        refine gf_RX11_69 (pc := 225) 0 rfl hk0 dX11_book_225 ?_
        refine v_iconst (pc := 228) (1 : Int32) dX11_book_228 ci_1 ?_
        refine al_X11_37 (pc := 229) 1 0 rfl hk0 rfl ib_1_4 dX11_book_229 ?_
        refine v_if_le (pc := 230) 273 dX11_book_230 (by decide) (fun c31 => ?_) (fun c31 => ?_)
        · replace hf := it_t c31 hf
          exact V_sub [0, 1, 2] rfl (wX11_book_j273 hk0 hF hf)
        · replace hf := it_f c31 hf
          refine v_aload_n (pc := 233) 0 dX11_book_233 rfl ?_
          replace hf := bd_some hf; obtain ⟨r32, h33, hf⟩ := hf
          refine V_call (pc := 234) (us1 := [_]) [0] 0 (kX11_keep (o := o) hk0 h33) rfl rfl rfl rfl rfl hk0 (Nat.le_of_ble_eq_true rfl) rfl rfl rfl wm_RX11_309 md_X11_keep (Nat.le_of_ble_eq_true rfl) (Nat.le_of_ble_eq_true rfl) rfl rfl (Nat.le_of_ble_eq_true rfl) dX11_book_234 ?_
          refine v_iconst (pc := 237) (0 : Int32) dX11_book_237 ci_0 ?_
          refine v_istore_n (pc := 238) [(3, _), (0, _), (1, _), (2, _)] dX11_book_238 (Nat.le_of_ble_eq_true rfl) rfl ?_
          replace hf := bd_some hf; obtain ⟨r37, h38, hf⟩ := hf
          refine V_sub [1, 2, 3, 0] rfl (wX11_book_l239 hk0 fu h38 ?_)
          refine v_iload_n (pc := 273) 1 dX11_book_273 rfl ?_
          refine v_if_ne (pc := 274) 281 dX11_book_274 (by decide) (fun c39 => ?_) (fun c39 => ?_)
          · replace hf := it_f c39 hf
            refine v_iload_n (pc := 281) 2 dX11_book_281 rfl ?_
            have hf2 := Option.some.inj hf; subst hf2
            exact V_iret (pc := 282) hF dX11_book_282
          · replace hf := it_t c39 hf
            refine v_aload_n (pc := 277) 0 dX11_book_277 rfl ?_
            replace hf := bd_some hf; obtain ⟨r40, h41, hf⟩ := hf
            refine V_call (pc := 278) (us1 := [_]) [0] 0 (kX11_back (o := o) hk0 h41) rfl rfl rfl rfl rfl hk0 (Nat.le_of_ble_eq_true rfl) rfl rfl rfl wm_RX11_330 md_X11_back (Nat.le_of_ble_eq_true rfl) (Nat.le_of_ble_eq_true rfl) rfl rfl (Nat.le_of_ble_eq_true rfl) dX11_book_278 ?_
            refine v_iload_n (pc := 281) 2 dX11_book_281 rfl ?_
            have hf2 := Option.some.inj hf; subst hf2
            exact V_iret (pc := 282) hF dX11_book_282
    · replace hf := it_f c8 hf
      refine v_aload_n (pc := 46) 0 dX11_book_46 rfl ?_
      replace hf := bd_some hf; obtain ⟨r42, h43, hf⟩ := hf
      refine V_call (pc := 47) (us1 := [_]) [0] 0 (kX11_bookLine (o := o) hk0 h43) rfl rfl rfl rfl rfl hk0 (Nat.le_of_ble_eq_true rfl) rfl rfl rfl wm_RX11_409 md_X11_bookLine (Nat.le_of_ble_eq_true rfl) (Nat.le_of_ble_eq_true rfl) rfl rfl (Nat.le_of_ble_eq_true rfl) dX11_book_47 ?_
      refine v_if_eq (pc := 50) 62 dX11_book_50 (by decide) (fun c44 => ?_) (fun c44 => ?_)
      · replace hf := it_t c44 hf
        refine v_bipush (pc := 62) (-2 : Int32) dX11_book_62 cb_m2 ?_
        refine v_aload_n (pc := 64) 0 dX11_book_64 rfl ?_
        refine gf_RX11_164 (pc := 65) 0 rfl hk0 dX11_book_65 ?_
        refine v_isub (pc := 68) dX11_book_68 ?_
        have hf2 := Option.some.inj hf; subst hf2
        exact V_iret (pc := 69) hF dX11_book_69
      · replace hf := it_f c44 hf
        refine v_aload_n (pc := 53) 0 dX11_book_53 rfl ?_
        refine v_bipush (pc := 54) (59 : Int32) dX11_book_54 cb_59 ?_
        replace hf := bd_some hf; obtain ⟨r45, h46, hf⟩ := hf
        refine V_call (pc := 56) (us1 := [_]) [0] 0 (kX11_sign (o := o) hk0 h46) rfl rfl rfl rfl rfl hk0 (Nat.le_of_ble_eq_true rfl) rfl rfl rfl wm_RX11_239 md_X11_sign (Nat.le_of_ble_eq_true rfl) (Nat.le_of_ble_eq_true rfl) rfl rfl (Nat.le_of_ble_eq_true rfl) dX11_book_56 ?_
        refine v_if_ne (pc := 59) 70 dX11_book_59 (by decide) (fun c47 => ?_) (fun c47 => ?_)
        · replace hf := it_f c47 hf
          refine v_aload_n (pc := 70) 0 dX11_book_70 rfl ?_
          refine v_dup (pc := 71) dX11_book_71 rfl ?_
          refine gf_RX11_406 (pc := 72) 0 rfl hk0 dX11_book_72 ?_
          refine v_iconst (pc := 75) (1 : Int32) dX11_book_75 ci_1 ?_
          refine v_iadd (pc := 76) dX11_book_76 ?_
          refine pf_RX11_406 (pc := 77) [_] 0 rfl hk0 rfl dX11_book_77 ?_
          refine v_goto (pc := 80) 39 dX11_book_80 (by decide) ?_
          exact V_sub [0, 1] rfl (hrec hf)
        · replace hf := it_t c47 hf
          refine v_bipush (pc := 62) (-2 : Int32) dX11_book_62 cb_m2 ?_
          refine v_aload_n (pc := 64) 0 dX11_book_64 rfl ?_
          refine gf_RX11_164 (pc := 65) 0 rfl hk0 dX11_book_65 ?_
          refine v_isub (pc := 68) dX11_book_68 ?_
          have hf2 := Option.some.inj hf; subst hf2
          exact V_iret (pc := 69) hF dX11_book_69
set_option maxRecDepth 20000 in
theorem kX11_book {G : Wc} {o : Nat} {S : Ob} {a : Int32} {r : Int32 × Ob} (hk0 : kd o = 10) (hf : pX11_book S  a = some r) : Cn yX11_book cX11_book 4 (some .int) 6 177 G [.ref (wA G o 0), .int a] [(o, S)] [(o, r.2)] (some (.int r.1)) := by
  refine V_method [(0, .ref (wA G o 0)), (1, .int a)] (by decide) rfl (Nat.le_of_ble_eq_true rfl) rfl (fun Γ hF => ?_)
  unfold pX11_book at hf
  refine v_aload_n (pc := 0) 0 dX11_book_0 rfl ?_
  refine v_iconst (pc := 1) (0 : Int32) dX11_book_1 ci_0 ?_
  refine pf_RX11_1 (pc := 2) [_] 0 rfl hk0 rfl dX11_book_2 ?_
  refine v_iload_n (pc := 5) 1 dX11_book_5 rfl ?_
  refine v_iconst (pc := 6) (0 : Int32) dX11_book_6 ci_0 ?_
  refine v_iconst (pc := 7) (1 : Int32) dX11_book_7 ci_1 ?_
  replace hf := bd_some hf; obtain ⟨r1, h2, hf⟩ := hf
  refine V_callS (pc := 8) (us1 := [_]) [] (kX11_isIn  h2) rfl rfl rfl rfl wm_RX11_176 md_X11_isIn (Nat.le_of_ble_eq_true rfl) (Nat.le_of_ble_eq_true rfl) rfl rfl (Nat.le_of_ble_eq_true rfl) dX11_book_8 ?_
  refine v_if_ne (pc := 11) 18 dX11_book_11 (by decide) (fun c3 => ?_) (fun c3 => ?_)
  · replace hf := it_f c3 hf
    refine v_aload_n (pc := 18) 0 dX11_book_18 rfl ?_
    refine v_sipush (pc := 19) (400 : Int32) dX11_book_19 cs_400 ?_
    replace hf := bd_some hf; obtain ⟨r4, h5, hf⟩ := hf
    refine V_call (pc := 22) (us1 := [_]) [0] 0 (kX11_taken (o := o) hk0 h5) rfl rfl rfl rfl rfl hk0 (Nat.le_of_ble_eq_true rfl) rfl rfl rfl wm_RX11_230 md_X11_taken (Nat.le_of_ble_eq_true rfl) (Nat.le_of_ble_eq_true rfl) rfl rfl (Nat.le_of_ble_eq_true rfl) dX11_book_22 ?_
    refine v_aload_n (pc := 25) 0 dX11_book_25 rfl ?_
    refine v_iconst (pc := 26) (0 : Int32) dX11_book_26 ci_0 ?_
    refine pf_RX11_161 (pc := 27) [_] 0 rfl hk0 rfl dX11_book_27 ?_
    refine v_aload_n (pc := 30) 0 dX11_book_30 rfl ?_
    refine v_iconst (pc := 31) (0 : Int32) dX11_book_31 ci_0 ?_
    refine pf_RX11_406 (pc := 32) [_] 0 rfl hk0 rfl dX11_book_32 ?_
    refine v_aload_n (pc := 35) 0 dX11_book_35 rfl ?_
    replace hf := bd_some hf; obtain ⟨r6, h7, hf⟩ := hf
    refine V_call (pc := 36) (us1 := [_]) [0] 0 (kX11_next (o := o) hk0 h7) rfl rfl rfl rfl rfl hk0 (Nat.le_of_ble_eq_true rfl) rfl rfl rfl wm_RX11_173 md_X11_next (Nat.le_of_ble_eq_true rfl) (Nat.le_of_ble_eq_true rfl) rfl rfl (Nat.le_of_ble_eq_true rfl) dX11_book_36 ?_
    exact V_sub [0, 1] rfl (wX11_book_l39 hk0 hF fu hf)
  · replace hf := it_t c3 hf
    refine v_sipush (pc := 14) (-1000 : Int32) dX11_book_14 cs_m1000 ?_
    have hf2 := Option.some.inj hf; subst hf2
    exact V_iret (pc := 17) hF dX11_book_17
set_option maxRecDepth 20000 in
theorem kX11_told {G : Wc} {o : Nat} {S : Ob} {a : Int32} {r : Int32 × Ob} (hk0 : kd o = 10) (hf : pX11_told S  a = some r) : Cn yX11_told cX11_told 2 (some .int) 2 82 G [.ref (wA G o 0), .int a] [(o, S)] [(o, r.2)] (some (.int r.1)) := by
  refine V_method [(0, .ref (wA G o 0)), (1, .int a)] (by decide) rfl (Nat.le_of_ble_eq_true rfl) rfl (fun Γ hF => ?_)
  unfold pX11_told at hf
  refine v_aload_n (pc := 0) 0 dX11_told_0 rfl ?_
  refine v_iconst (pc := 1) (0 : Int32) dX11_told_1 ci_0 ?_
  refine pf_RX11_1 (pc := 2) [_] 0 rfl hk0 rfl dX11_told_2 ?_
  refine v_aload_n (pc := 5) 0 dX11_told_5 rfl ?_
  refine gf_RX11_416 (pc := 6) 0 rfl hk0 dX11_told_6 ?_
  refine v_if_eq (pc := 9) 30 dX11_told_9 (by decide) (fun c1 => ?_) (fun c1 => ?_)
  · replace hf := it_t c1 hf
    refine v_iconst (pc := 30) (-1 : Int32) dX11_told_30 ci_m1 ?_
    have hf2 := Option.some.inj hf; subst hf2
    exact V_iret (pc := 31) hF dX11_told_31
  · replace hf := it_f c1 hf
    refine v_iload_n (pc := 12) 1 dX11_told_12 rfl ?_
    refine v_iconst (pc := 13) (0 : Int32) dX11_told_13 ci_0 ?_
    refine v_iconst (pc := 14) (3 : Int32) dX11_told_14 ci_3 ?_
    replace hf := bd_some hf; obtain ⟨r2, h3, hf⟩ := hf
    refine V_callS (pc := 15) (us1 := [_]) [] (kX11_isIn  h3) rfl rfl rfl rfl wm_RX11_176 md_X11_isIn (Nat.le_of_ble_eq_true rfl) (Nat.le_of_ble_eq_true rfl) rfl rfl (Nat.le_of_ble_eq_true rfl) dX11_told_15 ?_
    refine v_if_eq (pc := 18) 30 dX11_told_18 (by decide) (fun c4 => ?_) (fun c4 => ?_)
    · replace hf := it_t c4 hf
      refine v_iconst (pc := 30) (-1 : Int32) dX11_told_30 ci_m1 ?_
      have hf2 := Option.some.inj hf; subst hf2
      exact V_iret (pc := 31) hF dX11_told_31
    · replace hf := it_f c4 hf
      refine v_aload_n (pc := 21) 0 dX11_told_21 rfl ?_
      refine gf_RX11_69 (pc := 22) 0 rfl hk0 dX11_told_22 ?_
      refine v_iload_n (pc := 25) 1 dX11_told_25 rfl ?_
      replace hf := gd_some hf; obtain ⟨g5, hf⟩ := hf
      refine al_X11_37 (pc := 26) _ 0 rfl hk0 rfl g5 dX11_told_26 ?_
      refine v_goto (pc := 27) 31 dX11_told_27 (by decide) ?_
      have hf2 := Option.some.inj hf; subst hf2
      exact V_iret (pc := 31) hF dX11_told_31
set_option maxRecDepth 20000 in
theorem kX11_code {G : Wc} {o : Nat} {S : Ob} {a : Int32} {b : Int32} {c : Int32} {r : Ob} (hk0 : kd o = 10) (hf : pX11_code S  a b c = some r) : Cn yX11_code cX11_code 4 (none) 1 60 G [.ref (wA G o 0), .int a, .int b, .int c] [(o, S)] [(o, r)] none := by
  refine V_method [(0, .ref (wA G o 0)), (1, .int a), (2, .int b), (3, .int c)] (by decide) rfl (Nat.le_of_ble_eq_true rfl) rfl (fun Γ hF => ?_)
  unfold pX11_code at hf
  refine v_aload_n (pc := 0) 0 dX11_code_0 rfl ?_
  refine gf_RX11_40 (pc := 1) 0 rfl hk0 dX11_code_1 ?_
  refine v_iconst (pc := 4) (3 : Int32) dX11_code_4 ci_3 ?_
  refine v_aload_n (pc := 5) 0 dX11_code_5 rfl ?_
  refine gf_RX11_419 (pc := 6) 0 rfl hk0 dX11_code_6 ?_
  refine v_imul (pc := 9) dX11_code_9 ?_
  refine v_iload_n (pc := 10) 1 dX11_code_10 rfl ?_
  replace hf := gd_some hf; obtain ⟨g1, hf⟩ := hf
  refine as_X11_8 (pc := 11) [_] _ 0 rfl hk0 rfl g1 rfl dX11_code_11 ?_
  refine v_aload_n (pc := 12) 0 dX11_code_12 rfl ?_
  refine gf_RX11_40 (pc := 13) 0 rfl hk0 dX11_code_13 ?_
  refine v_iconst (pc := 16) (3 : Int32) dX11_code_16 ci_3 ?_
  refine v_aload_n (pc := 17) 0 dX11_code_17 rfl ?_
  refine gf_RX11_419 (pc := 18) 0 rfl hk0 dX11_code_18 ?_
  refine v_imul (pc := 21) dX11_code_21 ?_
  refine v_iconst (pc := 22) (1 : Int32) dX11_code_22 ci_1 ?_
  refine v_iadd (pc := 23) dX11_code_23 ?_
  refine v_iload_n (pc := 24) 2 dX11_code_24 rfl ?_
  replace hf := gd_some hf; obtain ⟨g2, hf⟩ := hf
  refine as_X11_8 (pc := 25) [_] _ 0 rfl hk0 rfl g2 rfl dX11_code_25 ?_
  refine v_aload_n (pc := 26) 0 dX11_code_26 rfl ?_
  refine gf_RX11_40 (pc := 27) 0 rfl hk0 dX11_code_27 ?_
  refine v_iconst (pc := 30) (3 : Int32) dX11_code_30 ci_3 ?_
  refine v_aload_n (pc := 31) 0 dX11_code_31 rfl ?_
  refine gf_RX11_419 (pc := 32) 0 rfl hk0 dX11_code_32 ?_
  refine v_imul (pc := 35) dX11_code_35 ?_
  refine v_iconst (pc := 36) (2 : Int32) dX11_code_36 ci_2 ?_
  refine v_iadd (pc := 37) dX11_code_37 ?_
  refine v_iload_n (pc := 38) 3 dX11_code_38 rfl ?_
  replace hf := gd_some hf; obtain ⟨g3, hf⟩ := hf
  refine as_X11_8 (pc := 39) [_] _ 0 rfl hk0 rfl g3 rfl dX11_code_39 ?_
  refine v_aload_n (pc := 40) 0 dX11_code_40 rfl ?_
  refine v_dup (pc := 41) dX11_code_41 rfl ?_
  refine gf_RX11_419 (pc := 42) 0 rfl hk0 dX11_code_42 ?_
  refine v_iconst (pc := 45) (1 : Int32) dX11_code_45 ci_1 ?_
  refine v_iadd (pc := 46) dX11_code_46 ?_
  refine pf_RX11_419 (pc := 47) [_] 0 rfl hk0 rfl dX11_code_47 ?_
  have hf2 := Option.some.inj hf; subst hf2
  exact V_vret (pc := 50) hF dX11_code_50
set_option maxRecDepth 20000 in
theorem wX11_joins_j45 {G : Wc} {Γ : Cx} {o : Nat} {S : Ob} {l1 : Int32} {r : Ob} (hk0 : kd o = 10) {rec : Ob → Option (Ob)} (hrec : ∀ {S : Ob}, rec S = some r → V cX11_joins RX11 2 83 2 G Γ [(o, S)] 0 [(0, .ref (wA G o 0)), (1, .int l1)] []) (hx : V cX11_joins RX11 2 83 2 G Γ [(o, r)] 73 [] []) (hf : pX11_joins_j45 rec S l1 = some r) : V cX11_joins RX11 2 83 2 G Γ [(o, S)] 45 [(0, .ref (wA G o 0)), (1, .int l1)] [] := by
  unfold pX11_joins_j45 at hf
  refine v_aload_n (pc := 45) 0 dX11_joins_45 rfl ?_
  refine v_dup (pc := 46) dX11_joins_46 rfl ?_
  refine gf_RX11_422 (pc := 47) 0 rfl hk0 dX11_joins_47 ?_
  refine v_iconst (pc := 50) (1 : Int32) dX11_joins_50 ci_1 ?_
  refine v_isub (pc := 51) dX11_joins_51 ?_
  refine pf_RX11_422 (pc := 52) [_] 0 rfl hk0 rfl dX11_joins_52 ?_
  refine v_aload_n (pc := 55) 0 dX11_joins_55 rfl ?_
  refine v_aload_n (pc := 56) 0 dX11_joins_56 rfl ?_
  refine gf_RX11_72 (pc := 57) 0 rfl hk0 dX11_joins_57 ?_
  refine v_aload_n (pc := 60) 0 dX11_joins_60 rfl ?_
  refine gf_RX11_422 (pc := 61) 0 rfl hk0 dX11_joins_61 ?_
  replace hf := gd_some hf; obtain ⟨g4, hf⟩ := hf
  refine al_X11_39 (pc := 64) _ 0 rfl hk0 rfl g4 dX11_joins_64 ?_
  refine v_iconst (pc := 65) (0 : Int32) dX11_joins_65 ci_0 ?_
  refine v_iconst (pc := 66) (0 : Int32) dX11_joins_66 ci_0 ?_
  replace hf := bd_some hf; obtain ⟨r5, h6, hf⟩ := hf
  refine V_call (pc := 67) (us1 := [_]) [0] 0 (kX11_code (o := o) hk0 h6) rfl rfl rfl rfl rfl hk0 (Nat.le_of_ble_eq_true rfl) rfl rfl rfl wm_RX11_425 md_X11_code (Nat.le_of_ble_eq_true rfl) (Nat.le_of_ble_eq_true rfl) rfl rfl (Nat.le_of_ble_eq_true rfl) dX11_joins_67 ?_
  refine v_goto (pc := 70) 0 dX11_joins_70 (by decide) ?_
  exact V_sub [0, 1] rfl (hrec hf)
set_option maxRecDepth 20000 in
theorem wX11_joins_l0 {G : Wc} {Γ : Cx} {o : Nat} {l1 : Int32} (hk0 : kd o = 10) : ∀ (n : Nat) {S : Ob} {r : Ob}, pX11_joins_l0  l1 n S = some r → V cX11_joins RX11 2 83 2 G Γ [(o, r)] 73 [] [] → V cX11_joins RX11 2 83 2 G Γ [(o, S)] 0 [(0, .ref (wA G o 0)), (1, .int l1)] [] := by
  intro n
  induction n with
  | zero => intro S r hf hx; unfold pX11_joins_l0 at hf; cases hf
  | succ n ih =>
    intro S r hf hx
    have hrec : ∀ {S : Ob}, pX11_joins_l0  l1 n S = some r → V cX11_joins RX11 2 83 2 G Γ [(o, S)] 0 [(0, .ref (wA G o 0)), (1, .int l1)] [] := fun h => ih h hx
    clear ih
    unfold pX11_joins_l0 at hf
    refine v_aload_n (pc := 0) 0 dX11_joins_0 rfl ?_
    refine gf_RX11_422 (pc := 1) 0 rfl hk0 dX11_joins_1 ?_
    refine v_if_le (pc := 4) 73 dX11_joins_4 (by decide) (fun c1 => ?_) (fun c1 => ?_)
    · replace hf := it_t c1 hf
      have hf2 := Option.some.inj hf; subst hf2
      exact V_sub [] rfl hx
    · replace hf := it_f c1 hf
      refine v_aload_n (pc := 7) 0 dX11_joins_7 rfl ?_
      refine gf_RX11_72 (pc := 8) 0 rfl hk0 dX11_joins_8 ?_
      refine v_aload_n (pc := 11) 0 dX11_joins_11 rfl ?_
      refine gf_RX11_422 (pc := 12) 0 rfl hk0 dX11_joins_12 ?_
      refine v_iconst (pc := 15) (1 : Int32) dX11_joins_15 ci_1 ?_
      refine v_isub (pc := 16) dX11_joins_16 ?_
      replace hf := gd_some hf; obtain ⟨g2, hf⟩ := hf
      refine al_X11_39 (pc := 17) _ 0 rfl hk0 rfl g2 dX11_joins_17 ?_
      refine v_bipush (pc := 18) (21 : Int32) dX11_joins_18 cb_21 ?_
      refine v_icmp_eq (pc := 20) 45 dX11_joins_20 (by decide) (fun c3 => ?_) (fun c3 => ?_)
      · replace hf := it_t c3 hf
        exact V_sub [0, 1] rfl (wX11_joins_j45 hk0 hrec hx hf)
      · replace hf := it_f c3 hf
        refine v_aload_n (pc := 23) 0 dX11_joins_23 rfl ?_
        refine gf_RX11_72 (pc := 24) 0 rfl hk0 dX11_joins_24 ?_
        refine v_aload_n (pc := 27) 0 dX11_joins_27 rfl ?_
        refine gf_RX11_422 (pc := 28) 0 rfl hk0 dX11_joins_28 ?_
        refine v_iconst (pc := 31) (1 : Int32) dX11_joins_31 ci_1 ?_
        refine v_isub (pc := 32) dX11_joins_32 ?_
        replace hf := gd_some hf; obtain ⟨g7, hf⟩ := hf
        refine al_X11_39 (pc := 33) _ 0 rfl hk0 rfl g7 dX11_joins_33 ?_
        refine v_bipush (pc := 34) (22 : Int32) dX11_joins_34 cb_22 ?_
        refine v_icmp_ne (pc := 36) 73 dX11_joins_36 (by decide) (fun c8 => ?_) (fun c8 => ?_)
        · replace hf := it_f c8 hf
          have hf2 := Option.some.inj hf; subst hf2
          exact V_sub [] rfl hx
        · replace hf := it_t c8 hf
          refine v_iload_n (pc := 39) 1 dX11_joins_39 rfl ?_
          refine v_bipush (pc := 40) (22 : Int32) dX11_joins_40 cb_22 ?_
          refine v_icmp_ne (pc := 42) 73 dX11_joins_42 (by decide) (fun c9 => ?_) (fun c9 => ?_)
          · replace hf := it_f c9 hf
            have hf2 := Option.some.inj hf; subst hf2
            exact V_sub [] rfl hx
          · replace hf := it_t c9 hf
            exact V_sub [0, 1] rfl (wX11_joins_j45 hk0 hrec hx hf)
set_option maxRecDepth 20000 in
theorem kX11_joins {G : Wc} {o : Nat} {S : Ob} {a : Int32} {r : Ob} (hk0 : kd o = 10) (hf : pX11_joins S  a = some r) : Cn yX11_joins cX11_joins 2 (none) 2 83 G [.ref (wA G o 0), .int a] [(o, S)] [(o, r)] none := by
  refine V_method [(0, .ref (wA G o 0)), (1, .int a)] (by decide) rfl (Nat.le_of_ble_eq_true rfl) rfl (fun Γ hF => ?_)
  unfold pX11_joins at hf
  replace hf := bd_some hf; obtain ⟨r10, h11, hf⟩ := hf
  refine V_sub [0, 1] rfl (wX11_joins_l0 hk0 fu h11 ?_)
  have hf2 := Option.some.inj hf; subst hf2
  exact V_vret (pc := 73) hF dX11_joins_73
set_option maxRecDepth 20000 in
theorem wX11_nots_l0 {G : Wc} {Γ : Cx} {o : Nat}  (hk0 : kd o = 10) : ∀ (n : Nat) {S : Ob} {r : Ob}, pX11_nots_l0   n S = some r → V cX11_nots RX11 2 83 1 G Γ [(o, r)] 54 [] [] → V cX11_nots RX11 2 83 1 G Γ [(o, S)] 0 [(0, .ref (wA G o 0))] [] := by
  intro n
  induction n with
  | zero => intro S r hf hx; unfold pX11_nots_l0 at hf; cases hf
  | succ n ih =>
    intro S r hf hx
    have hrec : ∀ {S : Ob}, pX11_nots_l0   n S = some r → V cX11_nots RX11 2 83 1 G Γ [(o, S)] 0 [(0, .ref (wA G o 0))] [] := fun h => ih h hx
    clear ih
    unfold pX11_nots_l0 at hf
    refine v_aload_n (pc := 0) 0 dX11_nots_0 rfl ?_
    refine gf_RX11_422 (pc := 1) 0 rfl hk0 dX11_nots_1 ?_
    refine v_if_le (pc := 4) 54 dX11_nots_4 (by decide) (fun c1 => ?_) (fun c1 => ?_)
    · replace hf := it_t c1 hf
      have hf2 := Option.some.inj hf; subst hf2
      exact V_sub [] rfl hx
    · replace hf := it_f c1 hf
      refine v_aload_n (pc := 7) 0 dX11_nots_7 rfl ?_
      refine gf_RX11_72 (pc := 8) 0 rfl hk0 dX11_nots_8 ?_
      refine v_aload_n (pc := 11) 0 dX11_nots_11 rfl ?_
      refine gf_RX11_422 (pc := 12) 0 rfl hk0 dX11_nots_12 ?_
      refine v_iconst (pc := 15) (1 : Int32) dX11_nots_15 ci_1 ?_
      refine v_isub (pc := 16) dX11_nots_16 ?_
      replace hf := gd_some hf; obtain ⟨g2, hf⟩ := hf
      refine al_X11_39 (pc := 17) _ 0 rfl hk0 rfl g2 dX11_nots_17 ?_
      refine v_bipush (pc := 18) (20 : Int32) dX11_nots_18 cb_20 ?_
      refine v_icmp_ne (pc := 20) 54 dX11_nots_20 (by decide) (fun c3 => ?_) (fun c3 => ?_)
      · replace hf := it_f c3 hf
        have hf2 := Option.some.inj hf; subst hf2
        exact V_sub [] rfl hx
      · replace hf := it_t c3 hf
        refine v_aload_n (pc := 23) 0 dX11_nots_23 rfl ?_
        refine v_dup (pc := 24) dX11_nots_24 rfl ?_
        refine gf_RX11_422 (pc := 25) 0 rfl hk0 dX11_nots_25 ?_
        refine v_iconst (pc := 28) (1 : Int32) dX11_nots_28 ci_1 ?_
        refine v_isub (pc := 29) dX11_nots_29 ?_
        refine pf_RX11_422 (pc := 30) [_] 0 rfl hk0 rfl dX11_nots_30 ?_
        refine v_aload_n (pc := 33) 0 dX11_nots_33 rfl ?_
        refine v_dup (pc := 34) dX11_nots_34 rfl ?_
        refine gf_RX11_429 (pc := 35) 0 rfl hk0 dX11_nots_35 ?_
        refine v_iconst (pc := 38) (1 : Int32) dX11_nots_38 ci_1 ?_
        refine v_isub (pc := 39) dX11_nots_39 ?_
        refine pf_RX11_429 (pc := 40) [_] 0 rfl hk0 rfl dX11_nots_40 ?_
        refine v_aload_n (pc := 43) 0 dX11_nots_43 rfl ?_
        refine v_bipush (pc := 44) (20 : Int32) dX11_nots_44 cb_20 ?_
        refine v_iconst (pc := 46) (0 : Int32) dX11_nots_46 ci_0 ?_
        refine v_iconst (pc := 47) (0 : Int32) dX11_nots_47 ci_0 ?_
        replace hf := bd_some hf; obtain ⟨r4, h5, hf⟩ := hf
        refine V_call (pc := 48) (us1 := [_]) [0] 0 (kX11_code (o := o) hk0 h5) rfl rfl rfl rfl rfl hk0 (Nat.le_of_ble_eq_true rfl) rfl rfl rfl wm_RX11_425 md_X11_code (Nat.le_of_ble_eq_true rfl) (Nat.le_of_ble_eq_true rfl) rfl rfl (Nat.le_of_ble_eq_true rfl) dX11_nots_48 ?_
        refine v_goto (pc := 51) 0 dX11_nots_51 (by decide) ?_
        exact V_sub [0] rfl (hrec hf)
set_option maxRecDepth 20000 in
theorem kX11_nots {G : Wc} {o : Nat} {S : Ob}  {r : Ob} (hk0 : kd o = 10) (hf : pX11_nots S   = some r) : Cn yX11_nots cX11_nots 1 (none) 2 83 G [.ref (wA G o 0)] [(o, S)] [(o, r)] none := by
  refine V_method [(0, .ref (wA G o 0))] (by decide) rfl (Nat.le_of_ble_eq_true rfl) rfl (fun Γ hF => ?_)
  unfold pX11_nots at hf
  replace hf := bd_some hf; obtain ⟨r6, h7, hf⟩ := hf
  refine V_sub [0] rfl (wX11_nots_l0 hk0 fu h7 ?_)
  have hf2 := Option.some.inj hf; subst hf2
  exact V_vret (pc := 54) hF dX11_nots_54
set_option maxRecDepth 20000 in
theorem kX11_leafOf {G : Wc} {o : Nat} {S : Ob}  {r : Int32} (hk0 : kd o = 10) (hf : pX11_leafOf S   = some r) : Cn yX11_leafOf cX11_leafOf 1 (some .int) 2 82 G [.ref (wA G o 0)] [(o, S)] [(o, S)] (some (.int r)) := by
  refine V_method [(0, .ref (wA G o 0))] (by decide) rfl (Nat.le_of_ble_eq_true rfl) rfl (fun Γ hF => ?_)
  unfold pX11_leafOf at hf
  refine v_aload_n (pc := 0) 0 dX11_leafOf_0 rfl ?_
  refine v_ldc2_w (pc := 1) dX11_leafOf_1 wc_RX11_115 ?_
  replace hf := bd_some hf; obtain ⟨r1, h2, hf⟩ := hf
  refine V_call (pc := 4) (us1 := [_]) [0] 0 (kX11_isWord (o := o) hk0 h2) rfl rfl rfl rfl rfl hk0 (Nat.le_of_ble_eq_true rfl) rfl rfl rfl wm_RX11_198 md_X11_isWord (Nat.le_of_ble_eq_true rfl) (Nat.le_of_ble_eq_true rfl) rfl rfl (Nat.le_of_ble_eq_true rfl) dX11_leafOf_4 ?_
  refine v_if_eq (pc := 7) 14 dX11_leafOf_7 (by decide) (fun c3 => ?_) (fun c3 => ?_)
  · replace hf := it_t c3 hf
    refine v_aload_n (pc := 14) 0 dX11_leafOf_14 rfl ?_
    refine v_ldc2_w (pc := 15) dX11_leafOf_15 wc_RX11_117 ?_
    replace hf := bd_some hf; obtain ⟨r4, h5, hf⟩ := hf
    refine V_call (pc := 18) (us1 := [_]) [0] 0 (kX11_isWord (o := o) hk0 h5) rfl rfl rfl rfl rfl hk0 (Nat.le_of_ble_eq_true rfl) rfl rfl rfl wm_RX11_198 md_X11_isWord (Nat.le_of_ble_eq_true rfl) (Nat.le_of_ble_eq_true rfl) rfl rfl (Nat.le_of_ble_eq_true rfl) dX11_leafOf_18 ?_
    refine v_if_eq (pc := 21) 28 dX11_leafOf_21 (by decide) (fun c6 => ?_) (fun c6 => ?_)
    · replace hf := it_t c6 hf
      refine v_aload_n (pc := 28) 0 dX11_leafOf_28 rfl ?_
      refine v_ldc2_w (pc := 29) dX11_leafOf_29 wc_RX11_119 ?_
      replace hf := bd_some hf; obtain ⟨r7, h8, hf⟩ := hf
      refine V_call (pc := 32) (us1 := [_]) [0] 0 (kX11_isWord (o := o) hk0 h8) rfl rfl rfl rfl rfl hk0 (Nat.le_of_ble_eq_true rfl) rfl rfl rfl wm_RX11_198 md_X11_isWord (Nat.le_of_ble_eq_true rfl) (Nat.le_of_ble_eq_true rfl) rfl rfl (Nat.le_of_ble_eq_true rfl) dX11_leafOf_32 ?_
      refine v_if_eq (pc := 35) 42 dX11_leafOf_35 (by decide) (fun c9 => ?_) (fun c9 => ?_)
      · replace hf := it_t c9 hf
        refine v_aload_n (pc := 42) 0 dX11_leafOf_42 rfl ?_
        refine v_ldc2_w (pc := 43) dX11_leafOf_43 wc_RX11_121 ?_
        replace hf := bd_some hf; obtain ⟨r10, h11, hf⟩ := hf
        refine V_call (pc := 46) (us1 := [_]) [0] 0 (kX11_isWord (o := o) hk0 h11) rfl rfl rfl rfl rfl hk0 (Nat.le_of_ble_eq_true rfl) rfl rfl rfl wm_RX11_198 md_X11_isWord (Nat.le_of_ble_eq_true rfl) (Nat.le_of_ble_eq_true rfl) rfl rfl (Nat.le_of_ble_eq_true rfl) dX11_leafOf_46 ?_
        refine v_if_eq (pc := 49) 56 dX11_leafOf_49 (by decide) (fun c12 => ?_) (fun c12 => ?_)
        · replace hf := it_t c12 hf
          refine v_aload_n (pc := 56) 0 dX11_leafOf_56 rfl ?_
          refine v_ldc2_w (pc := 57) dX11_leafOf_57 wc_RX11_123 ?_
          replace hf := bd_some hf; obtain ⟨r13, h14, hf⟩ := hf
          refine V_call (pc := 60) (us1 := [_]) [0] 0 (kX11_isWord (o := o) hk0 h14) rfl rfl rfl rfl rfl hk0 (Nat.le_of_ble_eq_true rfl) rfl rfl rfl wm_RX11_198 md_X11_isWord (Nat.le_of_ble_eq_true rfl) (Nat.le_of_ble_eq_true rfl) rfl rfl (Nat.le_of_ble_eq_true rfl) dX11_leafOf_60 ?_
          refine v_if_eq (pc := 63) 70 dX11_leafOf_63 (by decide) (fun c15 => ?_) (fun c15 => ?_)
          · replace hf := it_t c15 hf
            refine v_aload_n (pc := 70) 0 dX11_leafOf_70 rfl ?_
            refine v_ldc2_w (pc := 71) dX11_leafOf_71 wc_RX11_91 ?_
            replace hf := bd_some hf; obtain ⟨r16, h17, hf⟩ := hf
            refine V_call (pc := 74) (us1 := [_]) [0] 0 (kX11_isWord (o := o) hk0 h17) rfl rfl rfl rfl rfl hk0 (Nat.le_of_ble_eq_true rfl) rfl rfl rfl wm_RX11_198 md_X11_isWord (Nat.le_of_ble_eq_true rfl) (Nat.le_of_ble_eq_true rfl) rfl rfl (Nat.le_of_ble_eq_true rfl) dX11_leafOf_74 ?_
            refine v_if_eq (pc := 77) 84 dX11_leafOf_77 (by decide) (fun c18 => ?_) (fun c18 => ?_)
            · replace hf := it_t c18 hf
              refine v_aload_n (pc := 84) 0 dX11_leafOf_84 rfl ?_
              refine v_ldc2_w (pc := 85) dX11_leafOf_85 wc_RX11_125 ?_
              replace hf := bd_some hf; obtain ⟨r19, h20, hf⟩ := hf
              refine V_call (pc := 88) (us1 := [_]) [0] 0 (kX11_isWord (o := o) hk0 h20) rfl rfl rfl rfl rfl hk0 (Nat.le_of_ble_eq_true rfl) rfl rfl rfl wm_RX11_198 md_X11_isWord (Nat.le_of_ble_eq_true rfl) (Nat.le_of_ble_eq_true rfl) rfl rfl (Nat.le_of_ble_eq_true rfl) dX11_leafOf_88 ?_
              refine v_if_eq (pc := 91) 99 dX11_leafOf_91 (by decide) (fun c21 => ?_) (fun c21 => ?_)
              · replace hf := it_t c21 hf
                refine v_aload_n (pc := 99) 0 dX11_leafOf_99 rfl ?_
                refine v_ldc2_w (pc := 100) dX11_leafOf_100 wc_RX11_127 ?_
                replace hf := bd_some hf; obtain ⟨r22, h23, hf⟩ := hf
                refine V_call (pc := 103) (us1 := [_]) [0] 0 (kX11_isWord (o := o) hk0 h23) rfl rfl rfl rfl rfl hk0 (Nat.le_of_ble_eq_true rfl) rfl rfl rfl wm_RX11_198 md_X11_isWord (Nat.le_of_ble_eq_true rfl) (Nat.le_of_ble_eq_true rfl) rfl rfl (Nat.le_of_ble_eq_true rfl) dX11_leafOf_103 ?_
                refine v_if_eq (pc := 106) 114 dX11_leafOf_106 (by decide) (fun c24 => ?_) (fun c24 => ?_)
                · replace hf := it_t c24 hf
                  refine v_aload_n (pc := 114) 0 dX11_leafOf_114 rfl ?_
                  refine v_ldc2_w (pc := 115) dX11_leafOf_115 wc_RX11_129 ?_
                  replace hf := bd_some hf; obtain ⟨r25, h26, hf⟩ := hf
                  refine V_call (pc := 118) (us1 := [_]) [0] 0 (kX11_isWord (o := o) hk0 h26) rfl rfl rfl rfl rfl hk0 (Nat.le_of_ble_eq_true rfl) rfl rfl rfl wm_RX11_198 md_X11_isWord (Nat.le_of_ble_eq_true rfl) (Nat.le_of_ble_eq_true rfl) rfl rfl (Nat.le_of_ble_eq_true rfl) dX11_leafOf_118 ?_
                  refine v_if_eq (pc := 121) 129 dX11_leafOf_121 (by decide) (fun c27 => ?_) (fun c27 => ?_)
                  · replace hf := it_t c27 hf
                    refine v_iconst (pc := 129) (-1 : Int32) dX11_leafOf_129 ci_m1 ?_
                    have hf2 := Option.some.inj hf; subst hf2
                    exact V_iret (pc := 130) hF dX11_leafOf_130
                  · replace hf := it_f c27 hf
                    refine v_bipush (pc := 124) (8 : Int32) dX11_leafOf_124 cb_8 ?_
                    refine v_goto (pc := 126) 130 dX11_leafOf_126 (by decide) ?_
                    have hf2 := Option.some.inj hf; subst hf2
                    exact V_iret (pc := 130) hF dX11_leafOf_130
                · replace hf := it_f c24 hf
                  refine v_bipush (pc := 109) (7 : Int32) dX11_leafOf_109 cb_7 ?_
                  refine v_goto (pc := 111) 130 dX11_leafOf_111 (by decide) ?_
                  have hf2 := Option.some.inj hf; subst hf2
                  exact V_iret (pc := 130) hF dX11_leafOf_130
              · replace hf := it_f c21 hf
                refine v_bipush (pc := 94) (6 : Int32) dX11_leafOf_94 cb_6 ?_
                refine v_goto (pc := 96) 130 dX11_leafOf_96 (by decide) ?_
                have hf2 := Option.some.inj hf; subst hf2
                exact V_iret (pc := 130) hF dX11_leafOf_130
            · replace hf := it_f c18 hf
              refine v_iconst (pc := 80) (5 : Int32) dX11_leafOf_80 ci_5 ?_
              refine v_goto (pc := 81) 130 dX11_leafOf_81 (by decide) ?_
              have hf2 := Option.some.inj hf; subst hf2
              exact V_iret (pc := 130) hF dX11_leafOf_130
          · replace hf := it_f c15 hf
            refine v_iconst (pc := 66) (4 : Int32) dX11_leafOf_66 ci_4 ?_
            refine v_goto (pc := 67) 130 dX11_leafOf_67 (by decide) ?_
            have hf2 := Option.some.inj hf; subst hf2
            exact V_iret (pc := 130) hF dX11_leafOf_130
        · replace hf := it_f c12 hf
          refine v_iconst (pc := 52) (3 : Int32) dX11_leafOf_52 ci_3 ?_
          refine v_goto (pc := 53) 130 dX11_leafOf_53 (by decide) ?_
          have hf2 := Option.some.inj hf; subst hf2
          exact V_iret (pc := 130) hF dX11_leafOf_130
      · replace hf := it_f c9 hf
        refine v_iconst (pc := 38) (2 : Int32) dX11_leafOf_38 ci_2 ?_
        refine v_goto (pc := 39) 130 dX11_leafOf_39 (by decide) ?_
        have hf2 := Option.some.inj hf; subst hf2
        exact V_iret (pc := 130) hF dX11_leafOf_130
    · replace hf := it_f c6 hf
      refine v_iconst (pc := 24) (1 : Int32) dX11_leafOf_24 ci_1 ?_
      refine v_goto (pc := 25) 130 dX11_leafOf_25 (by decide) ?_
      have hf2 := Option.some.inj hf; subst hf2
      exact V_iret (pc := 130) hF dX11_leafOf_130
  · replace hf := it_f c3 hf
    refine v_iconst (pc := 10) (0 : Int32) dX11_leafOf_10 ci_0 ?_
    refine v_goto (pc := 11) 130 dX11_leafOf_11 (by decide) ?_
    have hf2 := Option.some.inj hf; subst hf2
    exact V_iret (pc := 130) hF dX11_leafOf_130
set_option maxRecDepth 20000 in
theorem wX11_operand_j56 {G : Wc} {Γ : Cx} {o : Nat} {S : Ob} {r : Int32 × Ob} (hk0 : kd o = 10) (hF : Fnl G Γ (some .boolean) (some (.int r.1)) (ov Γ.2.2.2 [(o, r.2)])) (hf : pX11_operand_j56 S = some r) : V cX11_operand RX11 3 105 5 G Γ [(o, S)] 56 [(0, .ref (wA G o 0))] [] := by
  unfold pX11_operand_j56 at hf
  refine v_aload_n (pc := 56) 0 dX11_operand_56 rfl ?_
  refine v_iconst (pc := 57) (4 : Int32) dX11_operand_57 ci_4 ?_
  replace hf := bd_some hf; obtain ⟨r9, h10, hf⟩ := hf
  refine V_call (pc := 58) (us1 := [_]) [0] 0 (kX11_bad (o := o) hk0 h10) rfl rfl rfl rfl rfl hk0 (Nat.le_of_ble_eq_true rfl) rfl rfl rfl wm_RX11_170 md_X11_bad (Nat.le_of_ble_eq_true rfl) (Nat.le_of_ble_eq_true rfl) rfl rfl (Nat.le_of_ble_eq_true rfl) dX11_operand_58 ?_
  replace hf := gd_some hf; obtain ⟨g11, hf⟩ := hf
  have hf2 := Option.some.inj hf; subst hf2
  exact V_zret (pc := 61) hF g11 dX11_operand_61
set_option maxRecDepth 20000 in
theorem wX11_operand_j103 {G : Wc} {Γ : Cx} {o : Nat} {S : Ob} {s1 : Int32} {s2 : Int32} {r : Int32 × Ob} (hk0 : kd o = 10) (hF : Fnl G Γ (some .boolean) (some (.int r.1)) (ov Γ.2.2.2 [(o, r.2)])) (hf : pX11_operand_j103 S s1 s2 = some r) : V cX11_operand RX11 3 105 5 G Γ [(o, S)] 103 [(0, .ref (wA G o 0))] [.int s2, .int s1, .ref (wA G o 40)] := by
  unfold pX11_operand_j103 at hf
  replace hf := gd_some hf; obtain ⟨g17, hf⟩ := hf
  refine as_X11_39 (pc := 103) [_] _ 0 rfl hk0 rfl g17 rfl dX11_operand_103 ?_
  refine v_aload_n (pc := 104) 0 dX11_operand_104 rfl ?_
  refine v_dup (pc := 105) dX11_operand_105 rfl ?_
  refine gf_RX11_422 (pc := 106) 0 rfl hk0 dX11_operand_106 ?_
  refine v_iconst (pc := 109) (1 : Int32) dX11_operand_109 ci_1 ?_
  refine v_iadd (pc := 110) dX11_operand_110 ?_
  refine pf_RX11_422 (pc := 111) [_] 0 rfl hk0 rfl dX11_operand_111 ?_
  refine v_aload_n (pc := 114) 0 dX11_operand_114 rfl ?_
  refine v_dup (pc := 115) dX11_operand_115 rfl ?_
  refine gf_RX11_429 (pc := 116) 0 rfl hk0 dX11_operand_116 ?_
  refine v_iconst (pc := 119) (1 : Int32) dX11_operand_119 ci_1 ?_
  refine v_iadd (pc := 120) dX11_operand_120 ?_
  refine pf_RX11_429 (pc := 121) [_] 0 rfl hk0 rfl dX11_operand_121 ?_
  refine v_iconst (pc := 124) (1 : Int32) dX11_operand_124 ci_1 ?_
  have hf2 := Option.some.inj hf; subst hf2
  exact V_zret (pc := 125) hF rfl dX11_operand_125
set_option maxRecDepth 20000 in
theorem wX11_operand_j84 {G : Wc} {Γ : Cx} {o : Nat} {S : Ob} {l1 : Int32} {r : Int32 × Ob} (hk0 : kd o = 10) (hF : Fnl G Γ (some .boolean) (some (.int r.1)) (ov Γ.2.2.2 [(o, r.2)])) (hf : pX11_operand_j84 S l1 = some r) : V cX11_operand RX11 3 105 5 G Γ [(o, S)] 84 [(0, .ref (wA G o 0)), (1, .int l1)] [] := by
  unfold pX11_operand_j84 at hf
  refine v_aload_n (pc := 84) 0 dX11_operand_84 rfl ?_
  refine gf_RX11_72 (pc := 85) 0 rfl hk0 dX11_operand_85 ?_
  refine v_aload_n (pc := 88) 0 dX11_operand_88 rfl ?_
  refine gf_RX11_422 (pc := 89) 0 rfl hk0 dX11_operand_89 ?_
  refine v_iload_n (pc := 92) 1 dX11_operand_92 rfl ?_
  refine v_if_eq (pc := 93) 101 dX11_operand_93 (by decide) (fun c16 => ?_) (fun c16 => ?_)
  · replace hf := it_t c16 hf
    refine v_bipush (pc := 101) (23 : Int32) dX11_operand_101 cb_23 ?_
    exact V_sub [0] rfl (wX11_operand_j103 hk0 hF hf)
  · replace hf := it_f c16 hf
    refine v_bipush (pc := 96) (20 : Int32) dX11_operand_96 cb_20 ?_
    refine v_goto (pc := 98) 103 dX11_operand_98 (by decide) ?_
    exact V_sub [0] rfl (wX11_operand_j103 hk0 hF hf)
set_option maxRecDepth 20000 in
theorem wX11_operand_j232 {G : Wc} {Γ : Cx} {o : Nat} {S : Ob} {r : Int32 × Ob} (hk0 : kd o = 10) (hF : Fnl G Γ (some .boolean) (some (.int r.1)) (ov Γ.2.2.2 [(o, r.2)])) (hf : pX11_operand_j232 S = some r) : V cX11_operand RX11 3 105 5 G Γ [(o, S)] 232 [(0, .ref (wA G o 0))] [] := by
  unfold pX11_operand_j232 at hf
  refine v_aload_n (pc := 232) 0 dX11_operand_232 rfl ?_
  refine v_iconst (pc := 233) (1 : Int32) dX11_operand_233 ci_1 ?_
  replace hf := bd_some hf; obtain ⟨r22, h23, hf⟩ := hf
  refine V_call (pc := 234) (us1 := [_]) [0] 0 (kX11_bad (o := o) hk0 h23) rfl rfl rfl rfl rfl hk0 (Nat.le_of_ble_eq_true rfl) rfl rfl rfl wm_RX11_170 md_X11_bad (Nat.le_of_ble_eq_true rfl) (Nat.le_of_ble_eq_true rfl) rfl rfl (Nat.le_of_ble_eq_true rfl) dX11_operand_234 ?_
  replace hf := gd_some hf; obtain ⟨g24, hf⟩ := hf
  have hf2 := Option.some.inj hf; subst hf2
  exact V_zret (pc := 237) hF g24 dX11_operand_237
set_option maxRecDepth 20000 in
theorem wX11_operand_j181 {G : Wc} {Γ : Cx} {o : Nat} {S : Ob} {l3 : Int32} {s0 : Int32} {r : Int32 × Ob} (hk0 : kd o = 10) (hF : Fnl G Γ (some .boolean) (some (.int r.1)) (ov Γ.2.2.2 [(o, r.2)])) (hf : pX11_operand_j181 S l3 s0 = some r) : V cX11_operand RX11 3 105 5 G Γ [(o, S)] 181 [(0, .ref (wA G o 0)), (3, .int l3)] [.int s0] := by
  unfold pX11_operand_j181 at hf
  refine v_istore (pc := 181) [(4, _), (0, _), (3, _)] dX11_operand_181 (Nat.le_of_ble_eq_true rfl) rfl ?_
  refine v_iload (pc := 183) 0 dX11_operand_183 rfl ?_
  refine v_if_ne (pc := 185) 190 dX11_operand_185 (by decide) (fun c40 => ?_) (fun c40 => ?_)
  · replace hf := it_f c40 hf
    refine v_aload_n (pc := 190) 1 dX11_operand_190 rfl ?_
    refine v_iload_n (pc := 191) 2 dX11_operand_191 rfl ?_
    refine v_iconst (pc := 192) (0 : Int32) dX11_operand_192 ci_0 ?_
    refine v_aload_n (pc := 193) 1 dX11_operand_193 rfl ?_
    refine gf_RX11_180 (pc := 194) 0 rfl hk0 dX11_operand_194 ?_
    replace hf := bd_some hf; obtain ⟨r41, h42, hf⟩ := hf
    refine V_call (pc := 197) (us1 := [_]) [0] 0 (kX11_code (o := o) hk0 h42) rfl rfl rfl rfl rfl hk0 (Nat.le_of_ble_eq_true rfl) rfl rfl rfl wm_RX11_425 md_X11_code (Nat.le_of_ble_eq_true rfl) (Nat.le_of_ble_eq_true rfl) rfl rfl (Nat.le_of_ble_eq_true rfl) dX11_operand_197 ?_
    refine v_aload_n (pc := 200) 1 dX11_operand_200 rfl ?_
    replace hf := bd_some hf; obtain ⟨r43, h44, hf⟩ := hf
    refine V_call (pc := 201) (us1 := [_]) [0] 0 (kX11_next (o := o) hk0 h44) rfl rfl rfl rfl rfl hk0 (Nat.le_of_ble_eq_true rfl) rfl rfl rfl wm_RX11_173 md_X11_next (Nat.le_of_ble_eq_true rfl) (Nat.le_of_ble_eq_true rfl) rfl rfl (Nat.le_of_ble_eq_true rfl) dX11_operand_201 ?_
    refine v_iconst (pc := 204) (1 : Int32) dX11_operand_204 ci_1 ?_
    have hf2 := Option.some.inj hf; subst hf2
    exact V_zret (pc := 205) hF rfl dX11_operand_205
  · replace hf := it_t c40 hf
    refine v_iconst (pc := 188) (0 : Int32) dX11_operand_188 ci_0 ?_
    have hf2 := Option.some.inj hf; subst hf2
    exact V_zret (pc := 189) hF rfl dX11_operand_189
set_option maxRecDepth 20000 in
theorem wX11_operand_j38 {G : Wc} {Γ : Cx} {o : Nat} {S : Ob} {l1 : Int32} {l2 : Int32} {l3 : Int32} {r : Int32 × Ob} (hk0 : kd o = 10) (hF : Fnl G Γ (some .boolean) (some (.int r.1)) (ov Γ.2.2.2 [(o, r.2)])) (hf : pX11_operand_j38 S l1 l2 l3 = some r) : V cX11_operand RX11 3 105 5 G Γ [(o, S)] 38 [(0, .ref (wA G o 0)), (1, .int l1), (2, .int l2), (3, .int l3)] [] := by
  unfold pX11_operand_j38 at hf
  refine v_aload_n (pc := 38) 0 dX11_operand_38 rfl ?_
  refine gf_RX11_435 (pc := 39) 0 rfl hk0 dX11_operand_39 ?_
  refine v_bipush (pc := 42) (20 : Int32) dX11_operand_42 cb_20 ?_
  refine v_icmp_eq (pc := 44) 56 dX11_operand_44 (by decide) (fun c8 => ?_) (fun c8 => ?_)
  · replace hf := it_t c8 hf
    exact V_sub [0] rfl (wX11_operand_j56 hk0 hF hf)
  · replace hf := it_f c8 hf
    refine v_aload_n (pc := 47) 0 dX11_operand_47 rfl ?_
    refine gf_RX11_429 (pc := 48) 0 rfl hk0 dX11_operand_48 ?_
    refine v_bipush (pc := 51) (8 : Int32) dX11_operand_51 cb_8 ?_
    refine v_icmp_le (pc := 53) 62 dX11_operand_53 (by decide) (fun c12 => ?_) (fun c12 => ?_)
    · replace hf := it_t c12 hf
      refine v_aload_n (pc := 62) 0 dX11_operand_62 rfl ?_
      refine v_dup (pc := 63) dX11_operand_63 rfl ?_
      refine gf_RX11_435 (pc := 64) 0 rfl hk0 dX11_operand_64 ?_
      refine v_iconst (pc := 67) (1 : Int32) dX11_operand_67 ci_1 ?_
      refine v_iadd (pc := 68) dX11_operand_68 ?_
      refine pf_RX11_435 (pc := 69) [_] 0 rfl hk0 rfl dX11_operand_69 ?_
      refine v_aload_n (pc := 72) 0 dX11_operand_72 rfl ?_
      replace hf := bd_some hf; obtain ⟨r13, h14, hf⟩ := hf
      refine V_call (pc := 73) (us1 := [_]) [0] 0 (kX11_next (o := o) hk0 h14) rfl rfl rfl rfl rfl hk0 (Nat.le_of_ble_eq_true rfl) rfl rfl rfl wm_RX11_173 md_X11_next (Nat.le_of_ble_eq_true rfl) (Nat.le_of_ble_eq_true rfl) rfl rfl (Nat.le_of_ble_eq_true rfl) dX11_operand_73 ?_
      refine v_iload_n (pc := 76) 1 dX11_operand_76 rfl ?_
      refine v_if_ne (pc := 77) 84 dX11_operand_77 (by decide) (fun c15 => ?_) (fun c15 => ?_)
      · replace hf := it_f c15 hf
        exact V_sub [0, 1] rfl (wX11_operand_j84 hk0 hF hf)
      · replace hf := it_t c15 hf
        refine v_iload_n (pc := 80) 2 dX11_operand_80 rfl ?_
        refine v_if_eq (pc := 81) 126 dX11_operand_81 (by decide) (fun c18 => ?_) (fun c18 => ?_)
        · replace hf := it_t c18 hf
          refine v_aload_n (pc := 126) 0 dX11_operand_126 rfl ?_
          refine v_iconst (pc := 127) (1 : Int32) dX11_operand_127 ci_1 ?_
          refine pf_RX11_438 (pc := 128) [_] 0 rfl hk0 rfl rfl dX11_operand_128 ?_
          refine v_iload_n (pc := 131) 3 dX11_operand_131 rfl ?_
          refine v_iconst (pc := 132) (3 : Int32) dX11_operand_132 ci_3 ?_
          refine v_icmp_ge (pc := 133) 145 dX11_operand_133 (by decide) (fun c19 => ?_) (fun c19 => ?_)
          · replace hf := it_t c19 hf
            refine v_iload_n (pc := 145) 3 dX11_operand_145 rfl ?_
            refine v_iconst (pc := 146) (5 : Int32) dX11_operand_146 ci_5 ?_
            refine v_icmp_ge (pc := 147) 206 dX11_operand_147 (by decide) (fun c20 => ?_) (fun c20 => ?_)
            · replace hf := it_t c20 hf
              refine v_aload_n (pc := 206) 0 dX11_operand_206 rfl ?_
              refine gf_RX11_144 (pc := 207) 0 rfl hk0 dX11_operand_207 ?_
              refine v_iconst (pc := 210) (3 : Int32) dX11_operand_210 ci_3 ?_
              refine v_icmp_ne (pc := 211) 232 dX11_operand_211 (by decide) (fun c21 => ?_) (fun c21 => ?_)
              · replace hf := it_f c21 hf
                exact V_sub [0] rfl (wX11_operand_j232 hk0 hF hf)
              · replace hf := it_t c21 hf
                refine v_aload_n (pc := 214) 0 dX11_operand_214 rfl ?_
                refine gf_RX11_154 (pc := 215) 0 rfl hk0 dX11_operand_215 ?_
                refine v_bipush (pc := 218) (60 : Int32) dX11_operand_218 cb_60 ?_
                refine v_icmp_lt (pc := 220) 232 dX11_operand_220 (by decide) (fun c25 => ?_) (fun c25 => ?_)
                · replace hf := it_t c25 hf
                  exact V_sub [0] rfl (wX11_operand_j232 hk0 hF hf)
                · replace hf := it_f c25 hf
                  refine v_aload_n (pc := 223) 0 dX11_operand_223 rfl ?_
                  refine gf_RX11_154 (pc := 224) 0 rfl hk0 dX11_operand_224 ?_
                  refine v_bipush (pc := 227) (62 : Int32) dX11_operand_227 cb_62 ?_
                  refine v_icmp_le (pc := 229) 238 dX11_operand_229 (by decide) (fun c26 => ?_) (fun c26 => ?_)
                  · replace hf := it_t c26 hf
                    refine v_aload_n (pc := 238) 0 dX11_operand_238 rfl ?_
                    refine gf_RX11_154 (pc := 239) 0 rfl hk0 dX11_operand_239 ?_
                    refine v_istore (pc := 242) [(4, _), (0, _), (1, _), (2, _), (3, _)] dX11_operand_242 (Nat.le_of_ble_eq_true rfl) rfl ?_
                    refine v_aload_n (pc := 244) 1 dX11_operand_244 rfl ?_
                    replace hf := bd_some hf; obtain ⟨r27, h28, hf⟩ := hf
                    refine V_call (pc := 245) (us1 := [_]) [0] 0 (kX11_next (o := o) hk0 h28) rfl rfl rfl rfl rfl hk0 (Nat.le_of_ble_eq_true rfl) rfl rfl rfl wm_RX11_173 md_X11_next (Nat.le_of_ble_eq_true rfl) (Nat.le_of_ble_eq_true rfl) rfl rfl (Nat.le_of_ble_eq_true rfl) dX11_operand_245 ?_
                    refine v_aload_n (pc := 248) 1 dX11_operand_248 rfl ?_
                    refine gf_RX11_144 (pc := 249) 0 rfl hk0 dX11_operand_249 ?_
                    refine v_iconst (pc := 252) (2 : Int32) dX11_operand_252 ci_2 ?_
                    refine v_icmp_eq (pc := 253) 262 dX11_operand_253 (by decide) (fun c29 => ?_) (fun c29 => ?_)
                    · replace hf := it_t c29 hf
                      refine v_aload_n (pc := 262) 1 dX11_operand_262 rfl ?_
                      refine v_iload_n (pc := 263) 4 dX11_operand_263 rfl ?_
                      refine v_iload (pc := 264) 0 dX11_operand_264 rfl ?_
                      refine v_aload_n (pc := 266) 1 dX11_operand_266 rfl ?_
                      refine gf_RX11_154 (pc := 267) 0 rfl hk0 dX11_operand_267 ?_
                      replace hf := bd_some hf; obtain ⟨r30, h31, hf⟩ := hf
                      refine V_call (pc := 270) (us1 := [_]) [0] 0 (kX11_code (o := o) hk0 h31) rfl rfl rfl rfl rfl hk0 (Nat.le_of_ble_eq_true rfl) rfl rfl rfl wm_RX11_425 md_X11_code (Nat.le_of_ble_eq_true rfl) (Nat.le_of_ble_eq_true rfl) rfl rfl (Nat.le_of_ble_eq_true rfl) dX11_operand_270 ?_
                      refine v_aload_n (pc := 273) 1 dX11_operand_273 rfl ?_
                      replace hf := bd_some hf; obtain ⟨r32, h33, hf⟩ := hf
                      refine V_call (pc := 274) (us1 := [_]) [0] 0 (kX11_next (o := o) hk0 h33) rfl rfl rfl rfl rfl hk0 (Nat.le_of_ble_eq_true rfl) rfl rfl rfl wm_RX11_173 md_X11_next (Nat.le_of_ble_eq_true rfl) (Nat.le_of_ble_eq_true rfl) rfl rfl (Nat.le_of_ble_eq_true rfl) dX11_operand_274 ?_
                      refine v_iconst (pc := 277) (1 : Int32) dX11_operand_277 ci_1 ?_
                      have hf2 := Option.some.inj hf; subst hf2
                      exact V_zret (pc := 278) hF rfl dX11_operand_278
                    · replace hf := it_f c29 hf
                      refine v_aload_n (pc := 256) 1 dX11_operand_256 rfl ?_
                      refine v_iconst (pc := 257) (1 : Int32) dX11_operand_257 ci_1 ?_
                      replace hf := bd_some hf; obtain ⟨r34, h35, hf⟩ := hf
                      refine V_call (pc := 258) (us1 := [_]) [0] 0 (kX11_bad (o := o) hk0 h35) rfl rfl rfl rfl rfl hk0 (Nat.le_of_ble_eq_true rfl) rfl rfl rfl wm_RX11_170 md_X11_bad (Nat.le_of_ble_eq_true rfl) (Nat.le_of_ble_eq_true rfl) rfl rfl (Nat.le_of_ble_eq_true rfl) dX11_operand_258 ?_
                      replace hf := gd_some hf; obtain ⟨g36, hf⟩ := hf
                      have hf2 := Option.some.inj hf; subst hf2
                      exact V_zret (pc := 261) hF g36 dX11_operand_261
                  · replace hf := it_f c26 hf
                    exact V_sub [0] rfl (wX11_operand_j232 hk0 hF hf)
            · replace hf := it_f c20 hf
              refine v_iload_n (pc := 150) 3 dX11_operand_150 rfl ?_
              refine v_iconst (pc := 151) (3 : Int32) dX11_operand_151 ci_3 ?_
              refine v_icmp_ne (pc := 152) 169 dX11_operand_152 (by decide) (fun c37 => ?_) (fun c37 => ?_)
              · replace hf := it_f c37 hf
                refine v_aload_n (pc := 169) 0 dX11_operand_169 rfl ?_
                refine v_bipush (pc := 170) (8 : Int32) dX11_operand_170 cb_8 ?_
                refine v_aload_n (pc := 172) 0 dX11_operand_172 rfl ?_
                refine gf_RX11_33 (pc := 173) 0 rfl hk0 dX11_operand_173 ?_
                refine v_iconst (pc := 176) (1 : Int32) dX11_operand_176 ci_1 ?_
                refine al_X11_6 (pc := 177) 1 0 rfl hk0 rfl ib_1_390 dX11_operand_177 ?_
                replace hf := bd_some hf; obtain ⟨r38, h39, hf⟩ := hf
                refine V_call (pc := 178) (us1 := [_]) [0] 0 (kX11_looksAt (o := o) hk0 h39) rfl rfl rfl rfl rfl hk0 (Nat.le_of_ble_eq_true rfl) rfl rfl rfl wm_RX11_195 md_X11_looksAt (Nat.le_of_ble_eq_true rfl) (Nat.le_of_ble_eq_true rfl) rfl rfl (Nat.le_of_ble_eq_true rfl) dX11_operand_178 ?_
                exact V_sub [0, 3] rfl (wX11_operand_j181 hk0 hF hf)
              · replace hf := it_t c37 hf
                refine v_aload_n (pc := 155) 0 dX11_operand_155 rfl ?_
                refine v_iconst (pc := 156) (0 : Int32) dX11_operand_156 ci_0 ?_
                refine v_aload_n (pc := 157) 0 dX11_operand_157 rfl ?_
                refine gf_RX11_33 (pc := 158) 0 rfl hk0 dX11_operand_158 ?_
                refine v_iconst (pc := 161) (0 : Int32) dX11_operand_161 ci_0 ?_
                refine al_X11_6 (pc := 162) 0 0 rfl hk0 rfl ib_0_390 dX11_operand_162 ?_
                replace hf := bd_some hf; obtain ⟨r45, h46, hf⟩ := hf
                refine V_call (pc := 163) (us1 := [_]) [0] 0 (kX11_looksAt (o := o) hk0 h46) rfl rfl rfl rfl rfl hk0 (Nat.le_of_ble_eq_true rfl) rfl rfl rfl wm_RX11_195 md_X11_looksAt (Nat.le_of_ble_eq_true rfl) (Nat.le_of_ble_eq_true rfl) rfl rfl (Nat.le_of_ble_eq_true rfl) dX11_operand_163 ?_
                refine v_goto (pc := 166) 181 dX11_operand_166 (by decide) ?_
                exact V_sub [0, 3] rfl (wX11_operand_j181 hk0 hF hf)
          · replace hf := it_f c19 hf
            refine v_aload_n (pc := 136) 0 dX11_operand_136 rfl ?_
            refine v_iload_n (pc := 137) 3 dX11_operand_137 rfl ?_
            refine v_iconst (pc := 138) (0 : Int32) dX11_operand_138 ci_0 ?_
            refine v_iconst (pc := 139) (0 : Int32) dX11_operand_139 ci_0 ?_
            replace hf := bd_some hf; obtain ⟨r47, h48, hf⟩ := hf
            refine V_call (pc := 140) (us1 := [_]) [0] 0 (kX11_code (o := o) hk0 h48) rfl rfl rfl rfl rfl hk0 (Nat.le_of_ble_eq_true rfl) rfl rfl rfl wm_RX11_425 md_X11_code (Nat.le_of_ble_eq_true rfl) (Nat.le_of_ble_eq_true rfl) rfl rfl (Nat.le_of_ble_eq_true rfl) dX11_operand_140 ?_
            refine v_iconst (pc := 143) (1 : Int32) dX11_operand_143 ci_1 ?_
            have hf2 := Option.some.inj hf; subst hf2
            exact V_zret (pc := 144) hF rfl dX11_operand_144
        · replace hf := it_f c18 hf
          exact V_sub [0, 1] rfl (wX11_operand_j84 hk0 hF hf)
    · replace hf := it_f c12 hf
      exact V_sub [0] rfl (wX11_operand_j56 hk0 hF hf)
set_option maxRecDepth 20000 in
theorem kX11_operand {G : Wc} {o : Nat} {S : Ob}  {r : Int32 × Ob} (hk0 : kd o = 10) (hf : pX11_operand S   = some r) : Cn yX11_operand cX11_operand 5 (some .boolean) 3 105 G [.ref (wA G o 0)] [(o, S)] [(o, r.2)] (some (.int r.1)) := by
  refine V_method [(0, .ref (wA G o 0))] (by decide) rfl (Nat.le_of_ble_eq_true rfl) rfl (fun Γ hF => ?_)
  unfold pX11_operand at hf
  refine v_aload_n (pc := 0) 0 dX11_operand_0 rfl ?_
  refine v_ldc2_w (pc := 1) dX11_operand_1 wc_RX11_113 ?_
  replace hf := bd_some hf; obtain ⟨r1, h2, hf⟩ := hf
  refine V_call (pc := 4) (us1 := [_]) [0] 0 (kX11_isWord (o := o) hk0 h2) rfl rfl rfl rfl rfl hk0 (Nat.le_of_ble_eq_true rfl) rfl rfl rfl wm_RX11_198 md_X11_isWord (Nat.le_of_ble_eq_true rfl) (Nat.le_of_ble_eq_true rfl) rfl rfl (Nat.le_of_ble_eq_true rfl) dX11_operand_4 ?_
  refine v_istore_n (pc := 7) [(1, _), (0, _)] dX11_operand_7 (Nat.le_of_ble_eq_true rfl) rfl ?_
  refine v_aload_n (pc := 8) 1 dX11_operand_8 rfl ?_
  refine v_bipush (pc := 9) (40 : Int32) dX11_operand_9 cb_40 ?_
  replace hf := bd_some hf; obtain ⟨r3, h4, hf⟩ := hf
  refine V_call (pc := 11) (us1 := [_]) [0] 0 (kX11_isSign (o := o) hk0 h4) rfl rfl rfl rfl rfl hk0 (Nat.le_of_ble_eq_true rfl) rfl rfl rfl wm_RX11_167 md_X11_isSign (Nat.le_of_ble_eq_true rfl) (Nat.le_of_ble_eq_true rfl) rfl rfl (Nat.le_of_ble_eq_true rfl) dX11_operand_11 ?_
  refine v_istore_n (pc := 14) [(2, _), (1, _), (0, _)] dX11_operand_14 (Nat.le_of_ble_eq_true rfl) rfl ?_
  refine v_aload_n (pc := 15) 2 dX11_operand_15 rfl ?_
  replace hf := bd_some hf; obtain ⟨r5, h6, hf⟩ := hf
  refine V_call (pc := 16) (us1 := [_]) [0] 0 (kX11_leafOf (o := o) hk0 h6) rfl rfl rfl rfl rfl hk0 (Nat.le_of_ble_eq_true rfl) rfl rfl rfl wm_RX11_432 md_X11_leafOf (Nat.le_of_ble_eq_true rfl) (Nat.le_of_ble_eq_true rfl) rfl rfl (Nat.le_of_ble_eq_true rfl) dX11_operand_16 ?_
  refine v_istore_n (pc := 19) [(3, _), (2, _), (1, _), (0, _)] dX11_operand_19 (Nat.le_of_ble_eq_true rfl) rfl ?_
  refine v_iload_n (pc := 20) 2 dX11_operand_20 rfl ?_
  refine v_if_ne (pc := 21) 38 dX11_operand_21 (by decide) (fun c7 => ?_) (fun c7 => ?_)
  · replace hf := it_f c7 hf
    exact V_sub [3, 2, 1, 0] rfl (wX11_operand_j38 hk0 hF hf)
  · replace hf := it_t c7 hf
    refine v_iload_n (pc := 24) 1 dX11_operand_24 rfl ?_
    refine v_if_ne (pc := 25) 38 dX11_operand_25 (by decide) (fun c49 => ?_) (fun c49 => ?_)
    · replace hf := it_f c49 hf
      exact V_sub [3, 2, 1, 0] rfl (wX11_operand_j38 hk0 hF hf)
    · replace hf := it_t c49 hf
      refine v_iload_n (pc := 28) 0 dX11_operand_28 rfl ?_
      refine v_if_ge (pc := 29) 38 dX11_operand_29 (by decide) (fun c50 => ?_) (fun c50 => ?_)
      · replace hf := it_t c50 hf
        exact V_sub [3, 2, 1, 0] rfl (wX11_operand_j38 hk0 hF hf)
      · replace hf := it_f c50 hf
        refine v_aload_n (pc := 32) 3 dX11_operand_32 rfl ?_
        refine v_iconst (pc := 33) (1 : Int32) dX11_operand_33 ci_1 ?_
        replace hf := bd_some hf; obtain ⟨r51, h52, hf⟩ := hf
        refine V_call (pc := 34) (us1 := [_]) [0] 0 (kX11_bad (o := o) hk0 h52) rfl rfl rfl rfl rfl hk0 (Nat.le_of_ble_eq_true rfl) rfl rfl rfl wm_RX11_170 md_X11_bad (Nat.le_of_ble_eq_true rfl) (Nat.le_of_ble_eq_true rfl) rfl rfl (Nat.le_of_ble_eq_true rfl) dX11_operand_34 ?_
        replace hf := gd_some hf; obtain ⟨g53, hf⟩ := hf
        have hf2 := Option.some.inj hf; subst hf2
        exact V_zret (pc := 37) hF g53 dX11_operand_37
set_option maxRecDepth 20000 in
theorem wX11_behind_j70 {G : Wc} {Γ : Cx} {o : Nat} {S : Ob} {s1 : Int32} {s2 : Int32} {r : Int32 × Ob} (hk0 : kd o = 10) (hF : Fnl G Γ (some .boolean) (some (.int r.1)) (ov Γ.2.2.2 [(o, r.2)])) (hf : pX11_behind_j70 S s1 s2 = some r) : V cX11_behind RX11 3 104 1 G Γ [(o, S)] 70 [(0, .ref (wA G o 0))] [.int s2, .int s1, .ref (wA G o 40)] := by
  unfold pX11_behind_j70 at hf
  replace hf := gd_some hf; obtain ⟨g14, hf⟩ := hf
  refine as_X11_39 (pc := 70) [_] _ 0 rfl hk0 rfl g14 rfl dX11_behind_70 ?_
  refine v_aload_n (pc := 71) 0 dX11_behind_71 rfl ?_
  refine v_dup (pc := 72) dX11_behind_72 rfl ?_
  refine gf_RX11_422 (pc := 73) 0 rfl hk0 dX11_behind_73 ?_
  refine v_iconst (pc := 76) (1 : Int32) dX11_behind_76 ci_1 ?_
  refine v_iadd (pc := 77) dX11_behind_77 ?_
  refine pf_RX11_422 (pc := 78) [_] 0 rfl hk0 rfl dX11_behind_78 ?_
  refine v_aload_n (pc := 81) 0 dX11_behind_81 rfl ?_
  refine v_iconst (pc := 82) (0 : Int32) dX11_behind_82 ci_0 ?_
  refine pf_RX11_438 (pc := 83) [_] 0 rfl hk0 rfl rfl dX11_behind_83 ?_
  refine v_aload_n (pc := 86) 0 dX11_behind_86 rfl ?_
  replace hf := bd_some hf; obtain ⟨r15, h16, hf⟩ := hf
  refine V_call (pc := 87) (us1 := [_]) [0] 0 (kX11_next (o := o) hk0 h16) rfl rfl rfl rfl rfl hk0 (Nat.le_of_ble_eq_true rfl) rfl rfl rfl wm_RX11_173 md_X11_next (Nat.le_of_ble_eq_true rfl) (Nat.le_of_ble_eq_true rfl) rfl rfl (Nat.le_of_ble_eq_true rfl) dX11_behind_87 ?_
  refine v_iconst (pc := 90) (1 : Int32) dX11_behind_90 ci_1 ?_
  have hf2 := Option.some.inj hf; subst hf2
  exact V_zret (pc := 91) hF rfl dX11_behind_91
set_option maxRecDepth 20000 in
theorem wX11_behind_j42 {G : Wc} {Γ : Cx} {o : Nat} {S : Ob} {s1 : Int32} {r : Int32 × Ob} (hk0 : kd o = 10) (hF : Fnl G Γ (some .boolean) (some (.int r.1)) (ov Γ.2.2.2 [(o, r.2)])) (hf : pX11_behind_j42 S s1 = some r) : V cX11_behind RX11 3 104 1 G Γ [(o, S)] 42 [(0, .ref (wA G o 0))] [.int s1, .ref (wA G o 0)] := by
  unfold pX11_behind_j42 at hf
  replace hf := bd_some hf; obtain ⟨r9, h10, hf⟩ := hf
  refine V_call (pc := 42) (us1 := [_]) [0] 0 (kX11_joins (o := o) hk0 h10) rfl rfl rfl rfl rfl hk0 (Nat.le_of_ble_eq_true rfl) rfl rfl rfl wm_RX11_444 md_X11_joins (Nat.le_of_ble_eq_true rfl) (Nat.le_of_ble_eq_true rfl) rfl rfl (Nat.le_of_ble_eq_true rfl) dX11_behind_42 ?_
  refine v_aload_n (pc := 45) 0 dX11_behind_45 rfl ?_
  refine gf_RX11_72 (pc := 46) 0 rfl hk0 dX11_behind_46 ?_
  refine v_aload_n (pc := 49) 0 dX11_behind_49 rfl ?_
  refine gf_RX11_422 (pc := 50) 0 rfl hk0 dX11_behind_50 ?_
  refine v_aload_n (pc := 53) 0 dX11_behind_53 rfl ?_
  refine v_ldc2_w (pc := 54) dX11_behind_54 wc_RX11_111 ?_
  replace hf := bd_some hf; obtain ⟨r11, h12, hf⟩ := hf
  refine V_call (pc := 57) (us1 := [_]) [0] 0 (kX11_isWord (o := o) hk0 h12) rfl rfl rfl rfl rfl hk0 (Nat.le_of_ble_eq_true rfl) rfl rfl rfl wm_RX11_198 md_X11_isWord (Nat.le_of_ble_eq_true rfl) (Nat.le_of_ble_eq_true rfl) rfl rfl (Nat.le_of_ble_eq_true rfl) dX11_behind_57 ?_
  refine v_if_eq (pc := 60) 68 dX11_behind_60 (by decide) (fun c13 => ?_) (fun c13 => ?_)
  · replace hf := it_t c13 hf
    refine v_bipush (pc := 68) (22 : Int32) dX11_behind_68 cb_22 ?_
    exact V_sub [0] rfl (wX11_behind_j70 hk0 hF hf)
  · replace hf := it_f c13 hf
    refine v_bipush (pc := 63) (21 : Int32) dX11_behind_63 cb_21 ?_
    refine v_goto (pc := 65) 70 dX11_behind_65 (by decide) ?_
    exact V_sub [0] rfl (wX11_behind_j70 hk0 hF hf)
set_option maxRecDepth 20000 in
theorem wX11_behind_j24 {G : Wc} {Γ : Cx} {o : Nat} {S : Ob} {r : Int32 × Ob} (hk0 : kd o = 10) (hF : Fnl G Γ (some .boolean) (some (.int r.1)) (ov Γ.2.2.2 [(o, r.2)])) (hf : pX11_behind_j24 S = some r) : V cX11_behind RX11 3 104 1 G Γ [(o, S)] 24 [(0, .ref (wA G o 0))] [] := by
  unfold pX11_behind_j24 at hf
  refine v_aload_n (pc := 24) 0 dX11_behind_24 rfl ?_
  refine v_aload_n (pc := 25) 0 dX11_behind_25 rfl ?_
  refine v_ldc2_w (pc := 26) dX11_behind_26 wc_RX11_111 ?_
  replace hf := bd_some hf; obtain ⟨r6, h7, hf⟩ := hf
  refine V_call (pc := 29) (us1 := [_]) [0] 0 (kX11_isWord (o := o) hk0 h7) rfl rfl rfl rfl rfl hk0 (Nat.le_of_ble_eq_true rfl) rfl rfl rfl wm_RX11_198 md_X11_isWord (Nat.le_of_ble_eq_true rfl) (Nat.le_of_ble_eq_true rfl) rfl rfl (Nat.le_of_ble_eq_true rfl) dX11_behind_29 ?_
  refine v_if_eq (pc := 32) 40 dX11_behind_32 (by decide) (fun c8 => ?_) (fun c8 => ?_)
  · replace hf := it_t c8 hf
    refine v_bipush (pc := 40) (22 : Int32) dX11_behind_40 cb_22 ?_
    exact V_sub [0] rfl (wX11_behind_j42 hk0 hF hf)
  · replace hf := it_f c8 hf
    refine v_bipush (pc := 35) (21 : Int32) dX11_behind_35 cb_21 ?_
    refine v_goto (pc := 37) 42 dX11_behind_37 (by decide) ?_
    exact V_sub [0] rfl (wX11_behind_j42 hk0 hF hf)
set_option maxRecDepth 20000 in
theorem wX11_behind_j114 {G : Wc} {Γ : Cx} {o : Nat} {S : Ob} {r : Int32 × Ob} (hk0 : kd o = 10) (hF : Fnl G Γ (some .boolean) (some (.int r.1)) (ov Γ.2.2.2 [(o, r.2)])) (hf : pX11_behind_j114 S = some r) : V cX11_behind RX11 3 104 1 G Γ [(o, S)] 114 [(0, .ref (wA G o 0))] [] := by
  unfold pX11_behind_j114 at hf
  refine v_aload_n (pc := 114) 0 dX11_behind_114 rfl ?_
  refine v_iconst (pc := 115) (1 : Int32) dX11_behind_115 ci_1 ?_
  replace hf := bd_some hf; obtain ⟨r25, h26, hf⟩ := hf
  refine V_call (pc := 116) (us1 := [_]) [0] 0 (kX11_bad (o := o) hk0 h26) rfl rfl rfl rfl rfl hk0 (Nat.le_of_ble_eq_true rfl) rfl rfl rfl wm_RX11_170 md_X11_bad (Nat.le_of_ble_eq_true rfl) (Nat.le_of_ble_eq_true rfl) rfl rfl (Nat.le_of_ble_eq_true rfl) dX11_behind_116 ?_
  replace hf := gd_some hf; obtain ⟨g27, hf⟩ := hf
  have hf2 := Option.some.inj hf; subst hf2
  exact V_zret (pc := 119) hF g27 dX11_behind_119
set_option maxRecDepth 20000 in
theorem kX11_behind {G : Wc} {o : Nat} {S : Ob}  {r : Int32 × Ob} (hk0 : kd o = 10) (hf : pX11_behind S   = some r) : Cn yX11_behind cX11_behind 1 (some .boolean) 3 104 G [.ref (wA G o 0)] [(o, S)] [(o, r.2)] (some (.int r.1)) := by
  refine V_method [(0, .ref (wA G o 0))] (by decide) rfl (Nat.le_of_ble_eq_true rfl) rfl (fun Γ hF => ?_)
  unfold pX11_behind at hf
  refine v_aload_n (pc := 0) 0 dX11_behind_0 rfl ?_
  replace hf := bd_some hf; obtain ⟨r1, h2, hf⟩ := hf
  refine V_call (pc := 1) (us1 := [_]) [0] 0 (kX11_nots (o := o) hk0 h2) rfl rfl rfl rfl rfl hk0 (Nat.le_of_ble_eq_true rfl) rfl rfl rfl wm_RX11_441 md_X11_nots (Nat.le_of_ble_eq_true rfl) (Nat.le_of_ble_eq_true rfl) rfl rfl (Nat.le_of_ble_eq_true rfl) dX11_behind_1 ?_
  refine v_aload_n (pc := 4) 0 dX11_behind_4 rfl ?_
  refine v_ldc2_w (pc := 5) dX11_behind_5 wc_RX11_111 ?_
  replace hf := bd_some hf; obtain ⟨r3, h4, hf⟩ := hf
  refine V_call (pc := 8) (us1 := [_]) [0] 0 (kX11_isWord (o := o) hk0 h4) rfl rfl rfl rfl rfl hk0 (Nat.le_of_ble_eq_true rfl) rfl rfl rfl wm_RX11_198 md_X11_isWord (Nat.le_of_ble_eq_true rfl) (Nat.le_of_ble_eq_true rfl) rfl rfl (Nat.le_of_ble_eq_true rfl) dX11_behind_8 ?_
  refine v_if_ne (pc := 11) 24 dX11_behind_11 (by decide) (fun c5 => ?_) (fun c5 => ?_)
  · replace hf := it_f c5 hf
    exact V_sub [0] rfl (wX11_behind_j24 hk0 hF hf)
  · replace hf := it_t c5 hf
    refine v_aload_n (pc := 14) 0 dX11_behind_14 rfl ?_
    refine v_ldc2_w (pc := 15) dX11_behind_15 wc_RX11_109 ?_
    replace hf := bd_some hf; obtain ⟨r17, h18, hf⟩ := hf
    refine V_call (pc := 18) (us1 := [_]) [0] 0 (kX11_isWord (o := o) hk0 h18) rfl rfl rfl rfl rfl hk0 (Nat.le_of_ble_eq_true rfl) rfl rfl rfl wm_RX11_198 md_X11_isWord (Nat.le_of_ble_eq_true rfl) (Nat.le_of_ble_eq_true rfl) rfl rfl (Nat.le_of_ble_eq_true rfl) dX11_behind_18 ?_
    refine v_if_eq (pc := 21) 92 dX11_behind_21 (by decide) (fun c19 => ?_) (fun c19 => ?_)
    · replace hf := it_t c19 hf
      refine v_aload_n (pc := 92) 0 dX11_behind_92 rfl ?_
      refine v_bipush (pc := 93) (22 : Int32) dX11_behind_93 cb_22 ?_
      replace hf := bd_some hf; obtain ⟨r20, h21, hf⟩ := hf
      refine V_call (pc := 95) (us1 := [_]) [0] 0 (kX11_joins (o := o) hk0 h21) rfl rfl rfl rfl rfl hk0 (Nat.le_of_ble_eq_true rfl) rfl rfl rfl wm_RX11_444 md_X11_joins (Nat.le_of_ble_eq_true rfl) (Nat.le_of_ble_eq_true rfl) rfl rfl (Nat.le_of_ble_eq_true rfl) dX11_behind_95 ?_
      refine v_aload_n (pc := 98) 0 dX11_behind_98 rfl ?_
      refine v_bipush (pc := 99) (41 : Int32) dX11_behind_99 cb_41 ?_
      replace hf := bd_some hf; obtain ⟨r22, h23, hf⟩ := hf
      refine V_call (pc := 101) (us1 := [_]) [0] 0 (kX11_isSign (o := o) hk0 h23) rfl rfl rfl rfl rfl hk0 (Nat.le_of_ble_eq_true rfl) rfl rfl rfl wm_RX11_167 md_X11_isSign (Nat.le_of_ble_eq_true rfl) (Nat.le_of_ble_eq_true rfl) rfl rfl (Nat.le_of_ble_eq_true rfl) dX11_behind_101 ?_
      refine v_if_eq (pc := 104) 114 dX11_behind_104 (by decide) (fun c24 => ?_) (fun c24 => ?_)
      · replace hf := it_t c24 hf
        exact V_sub [0] rfl (wX11_behind_j114 hk0 hF hf)
      · replace hf := it_f c24 hf
        refine v_aload_n (pc := 107) 0 dX11_behind_107 rfl ?_
        refine gf_RX11_422 (pc := 108) 0 rfl hk0 dX11_behind_108 ?_
        refine v_if_ne (pc := 111) 120 dX11_behind_111 (by decide) (fun c28 => ?_) (fun c28 => ?_)
        · replace hf := it_f c28 hf
          refine v_aload_n (pc := 120) 0 dX11_behind_120 rfl ?_
          refine v_dup (pc := 121) dX11_behind_121 rfl ?_
          refine gf_RX11_422 (pc := 122) 0 rfl hk0 dX11_behind_122 ?_
          refine v_iconst (pc := 125) (1 : Int32) dX11_behind_125 ci_1 ?_
          refine v_isub (pc := 126) dX11_behind_126 ?_
          refine pf_RX11_422 (pc := 127) [_] 0 rfl hk0 rfl dX11_behind_127 ?_
          refine v_aload_n (pc := 130) 0 dX11_behind_130 rfl ?_
          refine v_dup (pc := 131) dX11_behind_131 rfl ?_
          refine gf_RX11_429 (pc := 132) 0 rfl hk0 dX11_behind_132 ?_
          refine v_iconst (pc := 135) (1 : Int32) dX11_behind_135 ci_1 ?_
          refine v_isub (pc := 136) dX11_behind_136 ?_
          refine pf_RX11_429 (pc := 137) [_] 0 rfl hk0 rfl dX11_behind_137 ?_
          refine v_aload_n (pc := 140) 0 dX11_behind_140 rfl ?_
          replace hf := bd_some hf; obtain ⟨r29, h30, hf⟩ := hf
          refine V_call (pc := 141) (us1 := [_]) [0] 0 (kX11_next (o := o) hk0 h30) rfl rfl rfl rfl rfl hk0 (Nat.le_of_ble_eq_true rfl) rfl rfl rfl wm_RX11_173 md_X11_next (Nat.le_of_ble_eq_true rfl) (Nat.le_of_ble_eq_true rfl) rfl rfl (Nat.le_of_ble_eq_true rfl) dX11_behind_141 ?_
          refine v_iconst (pc := 144) (1 : Int32) dX11_behind_144 ci_1 ?_
          have hf2 := Option.some.inj hf; subst hf2
          exact V_zret (pc := 145) hF rfl dX11_behind_145
        · replace hf := it_t c28 hf
          exact V_sub [0] rfl (wX11_behind_j114 hk0 hF hf)
    · replace hf := it_f c19 hf
      exact V_sub [0] rfl (wX11_behind_j24 hk0 hF hf)
set_option maxRecDepth 20000 in
theorem wX11_sentence_l146 {G : Wc} {Γ : Cx} {o : Nat}  (hk0 : kd o = 10) : ∀ (n : Nat) {l2 : Int32} {S : Ob} {r : Ob}, pX11_sentence_l146   n l2 S = some r → V cX11_sentence RX11 4 129 3 G Γ [(o, r)] 178 [(0, .ref (wA G o 0))] [] → V cX11_sentence RX11 4 129 3 G Γ [(o, S)] 146 [(0, .ref (wA G o 0)), (2, .int l2)] [] := by
  intro n
  induction n with
  | zero => intro l2 S r hf hx; unfold pX11_sentence_l146 at hf; cases hf
  | succ n ih =>
    intro l2 S r hf hx
    have hrec : ∀ {l2 : Int32} {S : Ob}, pX11_sentence_l146   n l2 S = some r → V cX11_sentence RX11 4 129 3 G Γ [(o, S)] 146 [(0, .ref (wA G o 0)), (2, .int l2)] [] := fun h => ih h hx
    clear ih
    unfold pX11_sentence_l146 at hf
    refine v_iload_n (pc := 146) 1 dX11_sentence_146 rfl ?_
    refine v_iconst (pc := 147) (3 : Int32) dX11_sentence_147 ci_3 ?_
    refine v_aload_n (pc := 148) 0 dX11_sentence_148 rfl ?_
    refine gf_RX11_419 (pc := 149) 0 rfl hk0 dX11_sentence_149 ?_
    refine v_imul (pc := 152) dX11_sentence_152 ?_
    refine v_icmp_ge (pc := 153) 178 dX11_sentence_153 (by decide) (fun c6 => ?_) (fun c6 => ?_)
    · replace hf := it_t c6 hf
      have hf2 := Option.some.inj hf; subst hf2
      exact V_sub [0] rfl hx
    · replace hf := it_f c6 hf
      refine v_aload_n (pc := 156) 0 dX11_sentence_156 rfl ?_
      refine gf_RX11_33 (pc := 157) 0 rfl hk0 dX11_sentence_157 ?_
      refine v_sipush (pc := 160) (210 : Int32) dX11_sentence_160 cs_210 ?_
      refine v_iload_n (pc := 163) 1 dX11_sentence_163 rfl ?_
      refine v_iadd (pc := 164) dX11_sentence_164 ?_
      refine v_aload_n (pc := 165) 0 dX11_sentence_165 rfl ?_
      refine gf_RX11_40 (pc := 166) 0 rfl hk0 dX11_sentence_166 ?_
      refine v_iload_n (pc := 169) 1 dX11_sentence_169 rfl ?_
      replace hf := gd_some hf; obtain ⟨g7, hf⟩ := hf
      refine al_X11_8 (pc := 170) _ 0 rfl hk0 rfl g7 dX11_sentence_170 ?_
      replace hf := gd_some hf; obtain ⟨g8, hf⟩ := hf
      refine as_X11_6 (pc := 171) [_] _ 0 rfl hk0 rfl g8 rfl dX11_sentence_171 ?_
      refine v_iinc (pc := 172) 1 (l2 + (1 : Int32)) [(2, _), (0, _)] dX11_sentence_172 rfl (congrArg (fun z => _ + z) ci_1) (Nat.le_of_ble_eq_true rfl) rfl ?_
      refine v_goto (pc := 175) 146 dX11_sentence_175 (by decide) ?_
      exact V_sub [1, 0] rfl (hrec hf)
set_option maxRecDepth 20000 in
theorem wX11_sentence_j101 {G : Wc} {Γ : Cx} {o : Nat} {S : Ob} {l1 : Int32} {r : Int32 × Ob} (hk0 : kd o = 10) {rec : Int32 → Ob → Option (Int32 × Ob)} (hrec : ∀ {l1 : Int32} {S : Ob}, rec l1 S = some r → V cX11_sentence RX11 4 129 3 G Γ [(o, S)] 48 [(0, .ref (wA G o 0)), (1, .int l1)] []) (hF : Fnl G Γ (some .int) (some (.int r.1)) (ov Γ.2.2.2 [(o, r.2)])) (hf : pX11_sentence_j101 rec S l1 = some r) : V cX11_sentence RX11 4 129 3 G Γ [(o, S)] 101 [(0, .ref (wA G o 0)), (1, .int l1)] [] := by
  unfold pX11_sentence_j101 at hf
  refine v_aload_n (pc := 101) 0 dX11_sentence_101 rfl ?_
  refine gf_RX11_438 (pc := 102) 0 rfl hk0 dX11_sentence_102 ?_
  refine v_if_eq (pc := 105) 118 dX11_sentence_105 (by decide) (fun c12 => ?_) (fun c12 => ?_)
  · replace hf := it_t c12 hf
    refine v_aload_n (pc := 118) 0 dX11_sentence_118 rfl ?_
    replace hf := bd_some hf; obtain ⟨r13, h14, hf⟩ := hf
    refine V_call (pc := 119) (us1 := [_]) [0] 0 (kX11_operand (o := o) hk0 h14) rfl rfl rfl rfl rfl hk0 (Nat.le_of_ble_eq_true rfl) rfl rfl rfl wm_RX11_450 md_X11_operand (Nat.le_of_ble_eq_true rfl) (Nat.le_of_ble_eq_true rfl) rfl rfl (Nat.le_of_ble_eq_true rfl) dX11_sentence_119 ?_
    refine v_if_ne (pc := 122) 48 dX11_sentence_122 (by decide) (fun c15 => ?_) (fun c15 => ?_)
    · replace hf := it_f c15 hf
      exact V_sub [0, 1] rfl (hrec hf)
    · replace hf := it_t c15 hf
      refine v_iconst (pc := 125) (-1 : Int32) dX11_sentence_125 ci_m1 ?_
      refine v_aload_n (pc := 126) 0 dX11_sentence_126 rfl ?_
      refine gf_RX11_164 (pc := 127) 0 rfl hk0 dX11_sentence_127 ?_
      refine v_isub (pc := 130) dX11_sentence_130 ?_
      have hf2 := Option.some.inj hf; subst hf2
      exact V_iret (pc := 131) hF dX11_sentence_131
  · replace hf := it_f c12 hf
    refine v_aload_n (pc := 108) 0 dX11_sentence_108 rfl ?_
    replace hf := bd_some hf; obtain ⟨r16, h17, hf⟩ := hf
    refine V_call (pc := 109) (us1 := [_]) [0] 0 (kX11_behind (o := o) hk0 h17) rfl rfl rfl rfl rfl hk0 (Nat.le_of_ble_eq_true rfl) rfl rfl rfl wm_RX11_447 md_X11_behind (Nat.le_of_ble_eq_true rfl) (Nat.le_of_ble_eq_true rfl) rfl rfl (Nat.le_of_ble_eq_true rfl) dX11_sentence_109 ?_
    refine v_if_ne (pc := 112) 48 dX11_sentence_112 (by decide) (fun c18 => ?_) (fun c18 => ?_)
    · replace hf := it_f c18 hf
      exact V_sub [0, 1] rfl (hrec hf)
    · replace hf := it_t c18 hf
      refine v_goto (pc := 115) 125 dX11_sentence_115 (by decide) ?_
      refine v_iconst (pc := 125) (-1 : Int32) dX11_sentence_125 ci_m1 ?_
      refine v_aload_n (pc := 126) 0 dX11_sentence_126 rfl ?_
      refine gf_RX11_164 (pc := 127) 0 rfl hk0 dX11_sentence_127 ?_
      refine v_isub (pc := 130) dX11_sentence_130 ?_
      have hf2 := Option.some.inj hf; subst hf2
      exact V_iret (pc := 131) hF dX11_sentence_131
set_option maxRecDepth 20000 in
theorem wX11_sentence_l48 {G : Wc} {Γ : Cx} {o : Nat}  {r : Int32 × Ob} (hk0 : kd o = 10) (hF : Fnl G Γ (some .int) (some (.int r.1)) (ov Γ.2.2.2 [(o, r.2)])) : ∀ (n : Nat) {l1 : Int32} {S : Ob}, pX11_sentence_l48   n l1 S = some r → V cX11_sentence RX11 4 129 3 G Γ [(o, S)] 48 [(0, .ref (wA G o 0)), (1, .int l1)] [] := by
  intro n
  induction n with
  | zero => intro l1 S hf; unfold pX11_sentence_l48 at hf; cases hf
  | succ n ih =>
    intro l1 S hf
    have hrec : ∀ {l1 : Int32} {S : Ob}, pX11_sentence_l48   n l1 S = some r → V cX11_sentence RX11 4 129 3 G Γ [(o, S)] 48 [(0, .ref (wA G o 0)), (1, .int l1)] [] := fun h => ih h
    clear ih
    unfold pX11_sentence_l48 at hf
    refine v_iload_n (pc := 48) 1 dX11_sentence_48 rfl ?_
    refine v_if_eq (pc := 49) 132 dX11_sentence_49 (by decide) (fun c5 => ?_) (fun c5 => ?_)
    · replace hf := it_t c5 hf
      refine v_aload_n (pc := 132) 0 dX11_sentence_132 rfl ?_
      refine gf_RX11_33 (pc := 133) 0 rfl hk0 dX11_sentence_133 ?_
      refine v_sipush (pc := 136) (209 : Int32) dX11_sentence_136 cs_209 ?_
      refine v_aload_n (pc := 139) 0 dX11_sentence_139 rfl ?_
      refine gf_RX11_419 (pc := 140) 0 rfl hk0 dX11_sentence_140 ?_
      refine as_X11_6 (pc := 143) [_] 209 0 rfl hk0 rfl ib_209_390 rfl dX11_sentence_143 ?_
      refine v_iconst (pc := 144) (0 : Int32) dX11_sentence_144 ci_0 ?_
      refine v_istore_n (pc := 145) [(2, _), (0, _), (1, _)] dX11_sentence_145 (Nat.le_of_ble_eq_true rfl) rfl ?_
      replace hf := bd_some hf; obtain ⟨r9, h10, hf⟩ := hf
      refine V_sub [1, 0] rfl (wX11_sentence_l146 hk0 fu h10 ?_)
      refine v_aload_n (pc := 178) 0 dX11_sentence_178 rfl ?_
      refine gf_RX11_435 (pc := 179) 0 rfl hk0 dX11_sentence_179 ?_
      have hf2 := Option.some.inj hf; subst hf2
      exact V_iret (pc := 182) hF dX11_sentence_182
    · replace hf := it_f c5 hf
      refine v_aload_n (pc := 52) 0 dX11_sentence_52 rfl ?_
      refine gf_RX11_438 (pc := 53) 0 rfl hk0 dX11_sentence_53 ?_
      refine v_if_eq (pc := 56) 101 dX11_sentence_56 (by decide) (fun c11 => ?_) (fun c11 => ?_)
      · replace hf := it_t c11 hf
        exact V_sub [0, 1] rfl (wX11_sentence_j101 hk0 hrec hF hf)
      · replace hf := it_f c11 hf
        refine v_aload_n (pc := 59) 0 dX11_sentence_59 rfl ?_
        refine gf_RX11_144 (pc := 60) 0 rfl hk0 dX11_sentence_60 ?_
        refine v_if_ne (pc := 63) 101 dX11_sentence_63 (by decide) (fun c19 => ?_) (fun c19 => ?_)
        · replace hf := it_f c19 hf
          exact V_sub [0, 1] rfl (wX11_sentence_j101 hk0 hrec hF hf)
        · replace hf := it_t c19 hf
          refine v_aload_n (pc := 66) 0 dX11_sentence_66 rfl ?_
          replace hf := bd_some hf; obtain ⟨r20, h21, hf⟩ := hf
          refine V_call (pc := 67) (us1 := [_]) [0] 0 (kX11_nots (o := o) hk0 h21) rfl rfl rfl rfl rfl hk0 (Nat.le_of_ble_eq_true rfl) rfl rfl rfl wm_RX11_441 md_X11_nots (Nat.le_of_ble_eq_true rfl) (Nat.le_of_ble_eq_true rfl) rfl rfl (Nat.le_of_ble_eq_true rfl) dX11_sentence_67 ?_
          refine v_aload_n (pc := 70) 0 dX11_sentence_70 rfl ?_
          refine v_bipush (pc := 71) (22 : Int32) dX11_sentence_71 cb_22 ?_
          replace hf := bd_some hf; obtain ⟨r22, h23, hf⟩ := hf
          refine V_call (pc := 73) (us1 := [_]) [0] 0 (kX11_joins (o := o) hk0 h23) rfl rfl rfl rfl rfl hk0 (Nat.le_of_ble_eq_true rfl) rfl rfl rfl wm_RX11_444 md_X11_joins (Nat.le_of_ble_eq_true rfl) (Nat.le_of_ble_eq_true rfl) rfl rfl (Nat.le_of_ble_eq_true rfl) dX11_sentence_73 ?_
          refine v_aload_n (pc := 76) 0 dX11_sentence_76 rfl ?_
          refine gf_RX11_422 (pc := 77) 0 rfl hk0 dX11_sentence_77 ?_
          refine v_if_le (pc := 80) 96 dX11_sentence_80 (by decide) (fun c24 => ?_) (fun c24 => ?_)
          · replace hf := it_t c24 hf
            refine v_iconst (pc := 96) (0 : Int32) dX11_sentence_96 ci_0 ?_
            refine v_istore_n (pc := 97) [(1, _), (0, _)] dX11_sentence_97 (Nat.le_of_ble_eq_true rfl) rfl ?_
            refine v_goto (pc := 98) 48 dX11_sentence_98 (by decide) ?_
            exact V_sub [1, 0] rfl (hrec hf)
          · replace hf := it_f c24 hf
            refine v_aload_n (pc := 83) 0 dX11_sentence_83 rfl ?_
            refine v_iconst (pc := 84) (1 : Int32) dX11_sentence_84 ci_1 ?_
            replace hf := bd_some hf; obtain ⟨r25, h26, hf⟩ := hf
            refine V_call (pc := 85) (us1 := [_]) [0] 0 (kX11_bad (o := o) hk0 h26) rfl rfl rfl rfl rfl hk0 (Nat.le_of_ble_eq_true rfl) rfl rfl rfl wm_RX11_170 md_X11_bad (Nat.le_of_ble_eq_true rfl) (Nat.le_of_ble_eq_true rfl) rfl rfl (Nat.le_of_ble_eq_true rfl) dX11_sentence_85 ?_
            refine v_pop (pc := 88) dX11_sentence_88 rfl ?_
            refine v_iconst (pc := 89) (-1 : Int32) dX11_sentence_89 ci_m1 ?_
            refine v_aload_n (pc := 90) 0 dX11_sentence_90 rfl ?_
            refine gf_RX11_164 (pc := 91) 0 rfl hk0 dX11_sentence_91 ?_
            refine v_isub (pc := 94) dX11_sentence_94 ?_
            have hf2 := Option.some.inj hf; subst hf2
            exact V_iret (pc := 95) hF dX11_sentence_95
set_option maxRecDepth 20000 in
theorem kX11_sentence {G : Wc} {o : Nat} {S : Ob}  {r : Int32 × Ob} (hk0 : kd o = 10) (hf : pX11_sentence S   = some r) : Cn yX11_sentence cX11_sentence 3 (some .int) 4 129 G [.ref (wA G o 0)] [(o, S)] [(o, r.2)] (some (.int r.1)) := by
  refine V_method [(0, .ref (wA G o 0))] (by decide) rfl (Nat.le_of_ble_eq_true rfl) rfl (fun Γ hF => ?_)
  unfold pX11_sentence at hf
  refine v_aload_n (pc := 0) 0 dX11_sentence_0 rfl ?_
  refine v_iconst (pc := 1) (0 : Int32) dX11_sentence_1 ci_0 ?_
  refine pf_RX11_1 (pc := 2) [_] 0 rfl hk0 rfl dX11_sentence_2 ?_
  refine v_aload_n (pc := 5) 0 dX11_sentence_5 rfl ?_
  refine v_sipush (pc := 6) (200 : Int32) dX11_sentence_6 cs_200 ?_
  replace hf := bd_some hf; obtain ⟨r1, h2, hf⟩ := hf
  refine V_call (pc := 9) (us1 := [_]) [0] 0 (kX11_taken (o := o) hk0 h2) rfl rfl rfl rfl rfl hk0 (Nat.le_of_ble_eq_true rfl) rfl rfl rfl wm_RX11_230 md_X11_taken (Nat.le_of_ble_eq_true rfl) (Nat.le_of_ble_eq_true rfl) rfl rfl (Nat.le_of_ble_eq_true rfl) dX11_sentence_9 ?_
  refine v_aload_n (pc := 12) 0 dX11_sentence_12 rfl ?_
  refine v_iconst (pc := 13) (0 : Int32) dX11_sentence_13 ci_0 ?_
  refine pf_RX11_161 (pc := 14) [_] 0 rfl hk0 rfl dX11_sentence_14 ?_
  refine v_aload_n (pc := 17) 0 dX11_sentence_17 rfl ?_
  refine v_iconst (pc := 18) (0 : Int32) dX11_sentence_18 ci_0 ?_
  refine pf_RX11_419 (pc := 19) [_] 0 rfl hk0 rfl dX11_sentence_19 ?_
  refine v_aload_n (pc := 22) 0 dX11_sentence_22 rfl ?_
  refine v_iconst (pc := 23) (0 : Int32) dX11_sentence_23 ci_0 ?_
  refine pf_RX11_435 (pc := 24) [_] 0 rfl hk0 rfl dX11_sentence_24 ?_
  refine v_aload_n (pc := 27) 0 dX11_sentence_27 rfl ?_
  refine v_iconst (pc := 28) (0 : Int32) dX11_sentence_28 ci_0 ?_
  refine pf_RX11_422 (pc := 29) [_] 0 rfl hk0 rfl dX11_sentence_29 ?_
  refine v_aload_n (pc := 32) 0 dX11_sentence_32 rfl ?_
  refine v_iconst (pc := 33) (1 : Int32) dX11_sentence_33 ci_1 ?_
  refine pf_RX11_429 (pc := 34) [_] 0 rfl hk0 rfl dX11_sentence_34 ?_
  refine v_aload_n (pc := 37) 0 dX11_sentence_37 rfl ?_
  refine v_iconst (pc := 38) (0 : Int32) dX11_sentence_38 ci_0 ?_
  refine pf_RX11_438 (pc := 39) [_] 0 rfl hk0 rfl rfl dX11_sentence_39 ?_
  refine v_aload_n (pc := 42) 0 dX11_sentence_42 rfl ?_
  replace hf := bd_some hf; obtain ⟨r3, h4, hf⟩ := hf
  refine V_call (pc := 43) (us1 := [_]) [0] 0 (kX11_next (o := o) hk0 h4) rfl rfl rfl rfl rfl hk0 (Nat.le_of_ble_eq_true rfl) rfl rfl rfl wm_RX11_173 md_X11_next (Nat.le_of_ble_eq_true rfl) (Nat.le_of_ble_eq_true rfl) rfl rfl (Nat.le_of_ble_eq_true rfl) dX11_sentence_43 ?_
  refine v_iconst (pc := 46) (1 : Int32) dX11_sentence_46 ci_1 ?_
  refine v_istore_n (pc := 47) [(1, _), (0, _)] dX11_sentence_47 (Nat.le_of_ble_eq_true rfl) rfl ?_
  exact V_sub [1, 0] rfl (wX11_sentence_l48 hk0 hF fu hf)
