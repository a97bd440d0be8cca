def lg2 (x y : Int32) : Int64 := x.toInt64 <<< ((nI 32).toInt64 &&& 63) ||| y.toInt64 &&& lN 4294967295
/-- what holds all along the law's body -/
def gL (M : gM) (D : va_G) (tys : List (ClassId × FieldType)) (A : Nat → Prop) (cJ cQ : ClassId) (b L : Nat) (xs : Nat → Int32) : Prop := gX M cL_law RL wsL_law tys D vwCl A 8 ∧ gT A (gs M) (gs M).heap ∧ va_Nc xIA xIO (gs M) ∧ va_Nc xUO xIO (gs M) ∧ (gl M).stackTraces = false ∧ gR M = room_1 ∧ tys[0]? = some (cJ, .long) ∧ tys[1]? = some (cQ, .array .long) ∧ va_X b L xs (gs M) (gs M).heap ∧ b < (gs M).heap.size ∧ ¬ A b ∧ L ≤ 2560
abbrev lvB (b : Nat) (ad : Nat → Nat) (i : Nat) : gLv := [(4, some (.int (nI i))), (3, some (.ref (ad 26))), (2, some (.ref (ad 20))), (1, some (.ref (ad 0))), (0, some (.ref b))]
set_option maxRecDepth 20000 in
theorem k69 : Cond.constantLong RL 69 (lN 4294967295) ∈ wsL_law := by decide +kernel
set_option maxRecDepth 100000 in
set_option maxHeartbeats 4000000 in
theorem arm_field {M : gM} {D : va_G} {tys : List (ClassId × FieldType)} {A : Nat → Prop} {cJ cQ : ClassId} {b L : Nat} {xs : Nat → Int32} {ad : Nat → Nat} {cells slots : Nat} {Q : State → Prop} {ct : Nat → va_E} (G : gL M D tys A cJ cQ b L xs) {i : Nat} (hi : i + 4 < L) (hce : cells + 4 ≤ 601024) (hsl : slots + 24 ≤ 7293034) (Iv : inv cJ cQ ad ct) (k : ∀ ct', inv cJ cQ ad ct' → gW M D vwCl A 8 (cells + 4) (slots + 24) Q 27 ad 1418 (lvB b ad i) [] ct') : gW M D vwCl A 8 cells slots Q 27 ad 112 (lvB b ad i) [] ct := by
  obtain ⟨C, hT, hn1, hn2, hst, hRM, ht, ht2, hX, hbl, hbA, hL⟩ := G
  obtain ⟨p, g, Mr, Nw, c, wd, S, Dm, Ho, I⟩ := Iv
  obtain ⟨o, ho⟩ := id Ho
  refine g_aload_n C dL_law_112 (k := ?_)
  refine g_aload_n C dL_law_113 (k := ?_)
  refine g_iload C dL_law_114 (k := ?_)
  refine g_iconst C (nI 1) dL_law_116 (k := ?_)
  refine gN_iadd C dL_law_117 ?_
  refine g_sld C hX hbl hbA (by omega) (by omega) dL_law_118 ?_
  refine g_i2l C dL_law_119 ?_
  refine g_bipush C (nI 32) dL_law_120 (k := ?_)
  refine g_lshl C dL_law_122 ?_
  refine g_aload_n C dL_law_123 (k := ?_)
  refine g_iload C dL_law_124 (k := ?_)
  refine g_iconst C (nI 2) dL_law_126 (k := ?_)
  refine gN_iadd C dL_law_127 ?_
  refine g_sld C hX hbl hbA (by omega) (by omega) dL_law_128 ?_
  refine g_i2l C dL_law_129 ?_
  refine g_ldc2 C (v := lN 4294967295) k69 dL_law_130 ?_
  refine g_land C dL_law_133 ?_
  refine g_lor C dL_law_134 ?_
  refine g_tl (lg2 (xs (i + 1)) (xs (i + 2))) rfl ?_
  refine g_aload_n C dL_law_135 (k := ?_)
  refine g_cCi (n := 3) (av := [.ref (ad 0), .long (lg2 (xs (i + 1)) (xs (i + 2))), .ref (ad 26)]) (rest := []) C hT hn1 hn2 (w_field (by decide) S.1 ht _ (c_field hst (by decide) S ht ht2 (invN_nv I) _) (fun E ct1 h => h.1) (fun v ct1 h => by obtain ⟨n, g2, fa, -, -, -, -, rfl⟩ := h; rw [fld_far _ _ _ (by decide)]; exact ho)) gL_law_L_field rfl ⟨rfl, rfl⟩ (by rw [hRM]; exact ⟨Nat.le_of_ble_eq_true rfl, Nat.le_of_ble_eq_true rfl⟩) (by rw [hRM]; exact ⟨show cells + 1 ≤ 601024 by omega, show slots + 6 ≤ 7293034 by omega⟩) (Nat.le_of_ble_eq_true rfl) (by decide +kernel) rfl dL_law_136 (fun r5 ct1 h1 => ?_)
  have D1 := pm_field S Dm Ho I _ h1
  obtain ⟨⟨th, e20⟩, ec, ew, ⟨f23, e23⟩, ⟨f24, e24⟩, f25, e25⟩ := D1
  refine g_istore C dL_law_139 (k := ?_)
  refine g_aload_n C dL_law_141 (k := ?_)
  refine g_aload_n C dL_law_142 (k := ?_)
  refine g_iload C dL_law_143 (k := ?_)
  refine g_iconst C (nI 1) dL_law_145 (k := ?_)
  refine gN_iadd C dL_law_146 ?_
  refine g_sld C hX hbl hbA (by omega) (by omega) dL_law_147 ?_
  refine g_i2l C dL_law_148 ?_
  refine g_bipush C (nI 32) dL_law_149 (k := ?_)
  refine g_lshl C dL_law_151 ?_
  refine g_aload_n C dL_law_152 (k := ?_)
  refine g_iload C dL_law_153 (k := ?_)
  refine g_iconst C (nI 2) dL_law_155 (k := ?_)
  refine gN_iadd C dL_law_156 ?_
  refine g_sld C hX hbl hbA (by omega) (by omega) dL_law_157 ?_
  refine g_i2l C dL_law_158 ?_
  refine g_ldc2 C (v := lN 4294967295) k69 dL_law_159 ?_
  refine g_land C dL_law_162 ?_
  refine g_lor C dL_law_163 ?_
  refine g_tl (lg2 (xs (i + 1)) (xs (i + 2))) rfl ?_
  refine g_cVl (n := 1) (av := [.long (lg2 (xs (i + 1)) (xs (i + 2)))]) (rest := []) C 20 (by decide) e20 rfl (m_field (gl M) (by decide) e20 ec ew ht (pgk_lt I.1) I.1.1.2.1 (invN_c I) (invN_w I) all_root _) gL_law_X1_field rfl ⟨rfl, rfl⟩ (by rw [hRM]; exact ⟨Nat.le_of_ble_eq_true rfl, Nat.le_of_ble_eq_true rfl⟩) (by rw [hRM]; exact ⟨show cells + 1 ≤ 601024 by omega, show slots + 6 ≤ 7293034 by omega⟩) (Nat.le_of_ble_eq_true rfl) (by decide +kernel) rfl dL_law_164 (fun v6 ct2 h2 => ?_)
  obtain ⟨⟨p2, g2, e20b⟩, hval, Iv2⟩ := pu_field S Dm Ho I _ h1 h2
  refine g_lstore C dL_law_167 (k := ?_)
  refine g_aload_n C dL_law_169 (k := ?_)
  refine g_cVi (n := 0) (av := []) (rest := []) C 20 (by decide) e20b rfl (m_thrown (gl M) (by decide) e20b) gL_law_X1_thrown rfl ⟨rfl, rfl⟩ (by rw [hRM]; exact ⟨Nat.le_of_ble_eq_true rfl, Nat.le_of_ble_eq_true rfl⟩) (by rw [hRM]; exact ⟨show cells + 1 ≤ 601024 by omega, show slots + 6 ≤ 7293034 by omega⟩) (Nat.le_of_ble_eq_true rfl) (by decide +kernel) rfl dL_law_170 (fun r7 ct7 h7 => ?_)
  refine g_ti r5 h7.1 ?_
  refine g_ct (ct' := ct2) h7.2 ?_
  refine g_iload C dL_law_173 (k := ?_)
  refine g_ic_eq (tgt := 180) C dL_law_175 (by decide) (fun _ => ?_) (fun h => absurd rfl h)
  refine g_iload C dL_law_180 (k := ?_)
  refine g_if_ne (tgt := 196) C dL_law_182 (by decide) (fun _ => ?_) (fun h0 => ?_)
  · refine g_goto (tgt := 1418) C dL_law_196 (k := ?_)
    exact g_wd (by omega) (by omega) (g_l2 (k ct2 Iv2) ⟨Or.inr rfl, Or.inr rfl, Or.inr rfl, Or.inr rfl, Or.inr rfl, trivial⟩)
  · obtain ⟨o6, e26, ho6⟩ := hval (h0.trans nI_0.symm)
    refine g_aload_n C dL_law_185 (k := ?_)
    refine g_iconst C (nI 0) dL_law_186 (k := ?_)
    refine g_lald C 26 0 (by decide) e26 ht (by decide) (by decide) dL_law_187 ?_
    refine g_lload C dL_law_188 (k := ?_)
    refine g_lc_eq (tgt := 196) C dL_law_190 dL_law_191 (by decide) (fun _ => ?_) (fun h => absurd ho6 h)
    refine g_goto (tgt := 1418) C dL_law_196 (k := ?_)
    exact g_wd (by omega) (by omega) (g_l2 (k ct2 Iv2) ⟨Or.inr rfl, Or.inr rfl, Or.inr rfl, Or.inr rfl, Or.inr rfl, trivial⟩)

set_option maxRecDepth 100000 in
set_option maxHeartbeats 4000000 in
theorem arm_times {M : gM} {D : va_G} {tys : List (ClassId × FieldType)} {A : Nat → Prop} {cJ cQ : ClassId} {b L : Nat} {xs : Nat → Int32} {ad : Nat → Nat} {cells slots : Nat} {Q : State → Prop} {ct : Nat → va_E} (G : gL M D tys A cJ cQ b L xs) {i : Nat} (hi : i + 4 < L) (hce : cells + 4 ≤ 601024) (hsl : slots + 24 ≤ 7293034) (Iv : inv cJ cQ ad ct) (k : ∀ ct', inv cJ cQ ad ct' → gW M D vwCl A 8 (cells + 4) (slots + 24) Q 27 ad 1418 (lvB b ad i) [] ct') : gW M D vwCl A 8 cells slots Q 27 ad 199 (lvB b ad i) [] ct := by
  obtain ⟨C, hT, hn1, hn2, hst, hRM, ht, ht2, hX, hbl, hbA, hL⟩ := G
  obtain ⟨p, g, Mr, Nw, c, wd, S, Dm, Ho, I⟩ := Iv
  obtain ⟨o, ho⟩ := id Ho
  refine g_aload_n C dL_law_199 (k := ?_)
  refine g_aload_n C dL_law_200 (k := ?_)
  refine g_iload C dL_law_201 (k := ?_)
  refine g_iconst C (nI 1) dL_law_203 (k := ?_)
  refine gN_iadd C dL_law_204 ?_
  refine g_sld C hX hbl hbA (by omega) (by omega) dL_law_205 ?_
  refine g_i2l C dL_law_206 ?_
  refine g_bipush C (nI 32) dL_law_207 (k := ?_)
  refine g_lshl C dL_law_209 ?_
  refine g_aload_n C dL_law_210 (k := ?_)
  refine g_iload C dL_law_211 (k := ?_)
  refine g_iconst C (nI 2) dL_law_213 (k := ?_)
  refine gN_iadd C dL_law_214 ?_
  refine g_sld C hX hbl hbA (by omega) (by omega) dL_law_215 ?_
  refine g_i2l C dL_law_216 ?_
  refine g_ldc2 C (v := lN 4294967295) k69 dL_law_217 ?_
  refine g_land C dL_law_220 ?_
  refine g_lor C dL_law_221 ?_
  refine g_tl (lg2 (xs (i + 1)) (xs (i + 2))) rfl ?_
  refine g_aload_n C dL_law_222 (k := ?_)
  refine g_iload C dL_law_223 (k := ?_)
  refine g_iconst C (nI 3) dL_law_225 (k := ?_)
  refine gN_iadd C dL_law_226 ?_
  refine g_sld C hX hbl hbA (by omega) (by omega) dL_law_227 ?_
  refine g_i2l C dL_law_228 ?_
  refine g_bipush C (nI 32) dL_law_229 (k := ?_)
  refine g_lshl C dL_law_231 ?_
  refine g_aload_n C dL_law_232 (k := ?_)
  refine g_iload C dL_law_233 (k := ?_)
  refine g_iconst C (nI 4) dL_law_235 (k := ?_)
  refine gN_iadd C dL_law_236 ?_
  refine g_sld C hX hbl hbA (by omega) (by omega) dL_law_237 ?_
  refine g_i2l C dL_law_238 ?_
  refine g_ldc2 C (v := lN 4294967295) k69 dL_law_239 ?_
  refine g_land C dL_law_242 ?_
  refine g_lor C dL_law_243 ?_
  refine g_tl (lg2 (xs (i + 3)) (xs (i + 4))) rfl ?_
  refine g_cVl (n := 2) (av := [.long (lg2 (xs (i + 1)) (xs (i + 2))), .long (lg2 (xs (i + 3)) (xs (i + 4)))]) (rest := []) C 0 (by decide) S.1 rfl (c_times (gl M) (by decide) S ht ht2 (invN_nv I) _ _) gL_law_X0_times rfl ⟨rfl, rfl⟩ (by rw [hRM]; exact ⟨Nat.le_of_ble_eq_true rfl, Nat.le_of_ble_eq_true rfl⟩) (by rw [hRM]; exact ⟨show cells ≤ 601024 by omega, show slots ≤ 7293034 by omega⟩) (Nat.le_of_ble_eq_true rfl) (by decide +kernel) rfl dL_law_244 ?_
  rintro _ _ ⟨rfl, rfl⟩
  obtain ⟨⟨th, e20⟩, ec, ew, -⟩ := id Dm
  refine g_aload_n C dL_law_247 (k := ?_)
  refine g_aload_n C dL_law_248 (k := ?_)
  refine g_iload C dL_law_249 (k := ?_)
  refine g_iconst C (nI 1) dL_law_251 (k := ?_)
  refine gN_iadd C dL_law_252 ?_
  refine g_sld C hX hbl hbA (by omega) (by omega) dL_law_253 ?_
  refine g_i2l C dL_law_254 ?_
  refine g_bipush C (nI 32) dL_law_255 (k := ?_)
  refine g_lshl C dL_law_257 ?_
  refine g_aload_n C dL_law_258 (k := ?_)
  refine g_iload C dL_law_259 (k := ?_)
  refine g_iconst C (nI 2) dL_law_261 (k := ?_)
  refine gN_iadd C dL_law_262 ?_
  refine g_sld C hX hbl hbA (by omega) (by omega) dL_law_263 ?_
  refine g_i2l C dL_law_264 ?_
  refine g_ldc2 C (v := lN 4294967295) k69 dL_law_265 ?_
  refine g_land C dL_law_268 ?_
  refine g_lor C dL_law_269 ?_
  refine g_tl (lg2 (xs (i + 1)) (xs (i + 2))) rfl ?_
  refine g_aload_n C dL_law_270 (k := ?_)
  refine g_iload C dL_law_271 (k := ?_)
  refine g_iconst C (nI 3) dL_law_273 (k := ?_)
  refine gN_iadd C dL_law_274 ?_
  refine g_sld C hX hbl hbA (by omega) (by omega) dL_law_275 ?_
  refine g_i2l C dL_law_276 ?_
  refine g_bipush C (nI 32) dL_law_277 (k := ?_)
  refine g_lshl C dL_law_279 ?_
  refine g_aload_n C dL_law_280 (k := ?_)
  refine g_iload C dL_law_281 (k := ?_)
  refine g_iconst C (nI 4) dL_law_283 (k := ?_)
  refine gN_iadd C dL_law_284 ?_
  refine g_sld C hX hbl hbA (by omega) (by omega) dL_law_285 ?_
  refine g_i2l C dL_law_286 ?_
  refine g_ldc2 C (v := lN 4294967295) k69 dL_law_287 ?_
  refine g_land C dL_law_290 ?_
  refine g_lor C dL_law_291 ?_
  refine g_tl (lg2 (xs (i + 3)) (xs (i + 4))) rfl ?_
  refine g_cVl (n := 2) (av := [.long (lg2 (xs (i + 1)) (xs (i + 2))), .long (lg2 (xs (i + 3)) (xs (i + 4)))]) C 20 (by decide) e20 rfl (m_times (gl M) (by decide) e20 ec ew ht (pgk_lt I.1) I.1.1.2.1 (invN_c I) (invN_w I) _ _) gL_law_X1_times rfl ⟨rfl, rfl⟩ (by rw [hRM]; exact ⟨Nat.le_of_ble_eq_true rfl, Nat.le_of_ble_eq_true rfl⟩) (by rw [hRM]; exact ⟨show cells ≤ 601024 by omega, show slots ≤ 7293034 by omega⟩) (Nat.le_of_ble_eq_true rfl) (by decide +kernel) rfl dL_law_292 ?_
  rintro _ _ ⟨rfl, rfl⟩
  refine g_lc_eq (tgt := 1418) C dL_law_295 dL_law_296 (by decide) (fun _ => ?_) (fun h => absurd rfl h)
  exact g_wd (by omega) (by omega) (k _ (inv_k 0 S Dm Ho I).2)
