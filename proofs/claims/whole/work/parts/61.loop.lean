theorem and15 (x : Int32) : ∃ n, n < 16 ∧ x &&& nI 15 = nI n := by
  have e : x = nI x.toBitVec.toNat := by
    apply Int32.toBitVec_inj.1
    show x.toBitVec = BitVec.ofNat 32 x.toBitVec.toNat
    simp
  refine ⟨x.toBitVec.toNat % 16, Nat.mod_lt _ (by decide), ?_⟩
  rw [← Nat.and_two_pow_sub_one_eq_mod x.toBitVec.toNat 4, ← k_andI, ← e]
theorem gt5 {a L : Nat} (ha : a < 2 ^ 30) (hL : L < 2 ^ 30) : nI L - nI 5 < nI a ↔ L < a + 5 := by
  rw [Int32.lt_iff_toInt_lt, pk_sub_toInt hL (by decide), nI_toInt (by omega)]
  omega
set_option maxRecDepth 100000 in
set_option maxHeartbeats 4000000 in
theorem law_loop {M : gM} {D : va_G} {tys : List (ClassId × FieldType)} {A : Nat → Prop} {cJ cQ : ClassId} {b L : Nat} {xs : Nat → Int32} {ad : Nat → Nat} {Q : State → Prop} (G : gL M D tys A cJ cQ b L xs) (hend : ∀ (ct : Nat → va_E) (cells slots : Nat) (lv : gLv), cells ≤ 601024 → slots ≤ 7293034 → gW M D vwCl A 8 cells slots Q 27 ad 1425 lv [.int 1] ct) : ∀ (d j : Nat), 512 = j + d → ∀ ct, inv cJ cQ ad ct → gW M D vwCl A 8 (30 + 4 * j) (13000 + 24 * j) Q 27 ad 23 (lvB b ad (5 * j)) [] ct := by
  obtain ⟨C, hT, hn1, hn2, hst, hRM, ht, ht2, hX, hbl, hbA, hL⟩ := id G
  intro d
  induction d with
  | zero =>
    intro j hj ct Iv
    refine g_iload C dL_law_23 (k := ?_)
    refine g_aload_n C dL_law_25 (k := ?_)
    refine g_slen C hX hbl hbA dL_law_26 ?_
    refine g_iconst C (nI 5) dL_law_27 (k := ?_)
    refine g_isub C dL_law_28 ?_
    refine g_ic_gt (tgt := 1424) C dL_law_29 (by decide) (fun _ => ?_) (fun h => absurd ((gt5 (by omega) (by omega)).mpr (by omega)) h)
    refine g_iconst C 1 dL_law_1424 (k := ?_)
    exact hend _ _ _ _ (by omega) (by omega)
  | succ d ih =>
    intro j hj ct Iv
    refine g_iload C dL_law_23 (k := ?_)
    refine g_aload_n C dL_law_25 (k := ?_)
    refine g_slen C hX hbl hbA dL_law_26 ?_
    refine g_iconst C (nI 5) dL_law_27 (k := ?_)
    refine g_isub C dL_law_28 ?_
    refine g_ic_gt (tgt := 1424) C dL_law_29 (by decide) (fun _ => ?_) (fun h => ?_)
    · refine g_iconst C 1 dL_law_1424 (k := ?_)
      exact hend _ _ _ _ (by omega) (by omega)
    · have hi : 5 * j + 4 < L := by
        rcases Nat.lt_or_ge L (5 * j + 5) with q | q
        · exact absurd ((gt5 (a := 5 * j) (L := L) (by omega) (by omega)).mpr q) h
        · omega
      have hnext : ∀ ct', inv cJ cQ ad ct' → gW M D vwCl A 8 (30 + 4 * j + 4) (13000 + 24 * j + 24) Q 27 ad 1418 (lvB b ad (5 * j)) [] ct' := by
        intro ct' Iv'
        refine g_iinc C (nI (5 * (j + 1))) dL_law_1418 (by
          show nI (5 * j) + nI 5 = nI (5 * (j + 1))
          exact (Int32.ofNat_add (5 * j) 5).symm) (k := ?_)
        refine g_goto (tgt := 23) C dL_law_1421 (k := ?_)
        exact g_wd (by omega) (by omega) (g_l2 (ih (j + 1) (by omega) ct' Iv') ⟨Or.inr rfl, Or.inr rfl, Or.inr rfl, Or.inr rfl, Or.inr rfl, trivial⟩)
      refine g_aload_n C dL_law_32 (k := ?_)
      refine g_iload C dL_law_33 (k := ?_)
      refine g_sld C hX hbl hbA (by omega) (by omega) dL_law_35 ?_
      refine g_bipush C (nI 15) dL_law_36 (k := ?_)
      refine g_iand C dL_law_38 ?_
      obtain ⟨n, hn, en⟩ := and15 (xs (5 * j))
      refine g_ti (nI n) en ?_
      rcases (show n = 0 ∨ n = 1 ∨ n = 2 ∨ n = 3 ∨ n = 4 ∨ n = 5 ∨ n = 6 ∨ n = 7 ∨ n = 8 ∨ n = 9 ∨ n = 10 ∨ n = 11 ∨ n = 12 ∨ n = 13 ∨ n = 14 ∨ n = 15 by omega) with rfl | rfl | rfl | rfl | rfl | rfl | rfl | rfl | rfl | rfl | rfl | rfl | rfl | rfl | rfl | rfl
      · refine g_tin (off := 73) (tgt := 112) C dL_law_39 (by decide) (by decide) (by decide) (by decide) ?_
        exact arm_field G hi (by omega) (by omega) Iv hnext
      · refine g_tin (off := 160) (tgt := 199) C dL_law_39 (by decide) (by decide) (by decide) (by decide) ?_
        exact arm_times G hi (by omega) (by omega) Iv hnext
      · refine g_tin (off := 262) (tgt := 301) C dL_law_39 (by decide) (by decide) (by decide) (by decide) ?_
        exact arm_power G hi (by omega) (by omega) Iv hnext
      · refine g_tin (off := 393) (tgt := 432) C dL_law_39 (by decide) (by decide) (by decide) (by decide) ?_
        exact arm_inverse G hi (by omega) (by omega) Iv hnext
      · refine g_tin (off := 480) (tgt := 519) C dL_law_39 (by decide) (by decide) (by decide) (by decide) ?_
        exact arm_put G hi (by omega) (by omega) Iv hnext
      · refine g_tin (off := 599) (tgt := 638) C dL_law_39 (by decide) (by decide) (by decide) (by decide) ?_
        exact arm_get G hi (by omega) (by omega) Iv hnext
      · refine g_tin (off := 666) (tgt := 705) C dL_law_39 (by decide) (by decide) (by decide) (by decide) ?_
        exact arm_length G hi (by omega) (by omega) Iv hnext
      · refine g_tin (off := 722) (tgt := 761) C dL_law_39 (by decide) (by decide) (by decide) (by decide) ?_
        exact arm_turn G hi (by omega) (by omega) Iv hnext
      · refine g_tin (off := 798) (tgt := 837) C dL_law_39 (by decide) (by decide) (by decide) (by decide) ?_
        exact arm_product G hi (by omega) (by omega) Iv hnext
      · refine g_tin (off := 878) (tgt := 917) C dL_law_39 (by decide) (by decide) (by decide) (by decide) ?_
        exact arm_at G hi (by omega) (by omega) Iv hnext
      · refine g_tin (off := 977) (tgt := 1016) C dL_law_39 (by decide) (by decide) (by decide) (by decide) ?_
        exact arm_word G hi (by omega) (by omega) Iv hnext
      · refine g_tin (off := 1096) (tgt := 1135) C dL_law_39 (by decide) (by decide) (by decide) (by decide) ?_
        exact arm_wordAt G hi (by omega) (by omega) Iv hnext
      · refine g_tin (off := 1163) (tgt := 1202) C dL_law_39 (by decide) (by decide) (by decide) (by decide) ?_
        exact arm_size G hi (by omega) (by omega) Iv hnext
      · refine g_tin (off := 1219) (tgt := 1258) C dL_law_39 (by decide) (by decide) (by decide) (by decide) ?_
        exact arm_multiply G hi (by omega) (by omega) Iv hnext
      · refine g_tin (off := 1299) (tgt := 1338) C dL_law_39 (by decide) (by decide) (by decide) (by decide) ?_
        exact arm_sum G hi (by omega) (by omega) Iv hnext
      · refine g_tout (tgt := 1418) C dL_law_39 (by decide) (by decide) ?_
        exact g_wd (by omega) (by omega) (hnext ct Iv)
