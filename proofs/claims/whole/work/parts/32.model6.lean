theorem mi_ltB {a b : Nat → Nat} {i : Nat} (ha : a i < 2 ^ 32) {n : Nat} (hb : ∀ k, k < n → b k < 2 ^ 32) {s : Nat → Nat} (hs : ∀ k, s k < 2 ^ 32) : ∀ j, j ≤ n → (∀ k, (mi a b i s j).1 k < 2 ^ 32) ∧ (mi a b i s j).2 < 2 ^ 32
  | 0, _ => ⟨hs, Nat.two_pow_pos 32⟩
  | j + 1, hj => by
    obtain ⟨h1, h2⟩ := mi_ltB ha hb hs j (by omega)
    have h3 := mul32 ha (hb j (by omega)) (h1 (i + j)) h2
    refine ⟨fun k => ?_, ?_⟩
    · show nu (mi a b i s j).1 (i + j) _ k < _
      unfold nu
      split
      · exact Nat.mod_lt _ (by decide)
      · exact h1 k
    · show (a i * b j + (mi a b i s j).1 (i + j) + (mi a b i s j).2) / 4294967296 < 2 ^ 32
      omega
theorem mo_ltB {a b : Nat → Nat} {n m : Nat} (ha : ∀ k, k < m → a k < 2 ^ 32) (hb : ∀ k, k < n → b k < 2 ^ 32) : ∀ i, i ≤ m → ∀ k, mo a b n i k < 2 ^ 32
  | 0, _, _ => Nat.two_pow_pos 32
  | i + 1, hi, k => by
    obtain ⟨h1, h2⟩ := mi_ltB (ha i (by omega)) hb (mo_ltB ha hb i (by omega)) n (Nat.le_refl n)
    show nu (mi a b i (mo a b n i) n).1 (i + n) _ k < _
    unfold nu
    split
    · exact h2
    · exact h1 k
theorem k_lshr32 {a : Nat} (h : a < 2 ^ 63) : lN a >>> ((nI 32).toInt64 &&& 63) = lN (a / 4294967296) := by
  have hD : (((nI 32).toInt64 &&& 63).toBitVec.smod 64).toNat = 32 := by decide
  have hd : a / 4294967296 ≤ a := Nat.div_le_self _ _
  apply Int64.toInt_inj.mp
  have e : (lN a >>> ((nI 32).toInt64 &&& 63)).toInt = (lN a).toInt >>> 32 := by
    have := BitVec.toInt_sshiftRight (x := (lN a).toBitVec) (n := (((nI 32).toInt64 &&& 63).toBitVec.smod 64).toNat)
    rw [hD] at this
    exact this
  rw [e, Int.shiftRight_eq_div_pow, k_lI h, k_lI (by omega)]
  rfl

set_option maxRecDepth 100000 in
set_option maxHeartbeats 4000000 in
theorem m_multiply (l : Launch) {D : va_G} {tys : List (ClassId × FieldType)} {N : Nat} {ad : Nat → Nat} {ct : Nat → va_E} (hN : 26 ≤ N) {cJ : ClassId} {th : Int32} {p g : Nat} {c wd : Nat → Nat} (e20 : ct 20 = obM th p g ad) (ec : ct 21 = LN cJ 3072 c) (ew : ct 22 = LN cJ 1440 wd) (ht : tys[0]? = some (cJ, .long)) (hp1 : 512 < p) (hp2 : p < 2 ^ 31) (hc : ∀ k, k < 3072 → c k < p) (hw : ∀ k, k < 1440 → wd k < 2 ^ 32) {z0 : Nat → Nat} (ez : ct 25 = LN cJ 241 z0) (x y z : Int32) :
    gMi l yX1_multiply wsX1_multiply rmp D vwCl tys N ad [.ref (ad 20), .int x, .int y, .int z] ct (fun r ct1 => (¬ (ir x 6 ∧ ir y 6 ∧ ir z 6) ∧ ct1 = va_up ct 20 (obM (nI 1) p g ad)) ∨ (∃ t i j, t < 6 ∧ i < 6 ∧ j < 6 ∧ x = nI t ∧ y = nI i ∧ z = nI j ∧ ((up1 (fun k => wd (240 * i + k)) 240 ≠ 0 ∧ up1 (fun k => wd (240 * j + k)) 240 ≠ 0 ∧ 240 < up1 (fun k => wd (240 * i + k)) 240 + up1 (fun k => wd (240 * j + k)) 240 ∧ ct1 = va_up ct 20 (obM (nI 2) p g ad)) ∨ ((up1 (fun k => wd (240 * i + k)) 240 = 0 ∨ up1 (fun k => wd (240 * j + k)) 240 = 0 ∨ up1 (fun k => wd (240 * i + k)) 240 + up1 (fun k => wd (240 * j + k)) 240 ≤ 240) ∧ r = nI (up1 (mo (fun k => wd (240 * i + k)) (fun k => wd (240 * j + k)) (up1 (fun k => wd (240 * j + k)) 240) (up1 (fun k => wd (240 * i + k)) 240)) 240) ∧ ct1 = va_up (va_up (va_up ct 20 (obM (nI 0) p g ad)) 25 (LN cJ 241 (mo (fun k => wd (240 * i + k)) (fun k => wd (240 * j + k)) (up1 (fun k => wd (240 * j + k)) 240) (up1 (fun k => wd (240 * i + k)) 240)))) 22 (LN cJ 1440 (fr 240 t 240 (mo (fun k => wd (240 * i + k)) (fun k => wd (240 * j + k)) (up1 (fun k => wd (240 * j + k)) 240) (up1 (fun k => wd (240 * i + k)) 240)) wd)))))) := by
  refine gof_i (cc := cX1_multiply) (maxL := 13) (by decide) rfl (Nat.le_of_ble_eq_true rfl) ?_
  intro M sz C hlM hRM hr hsz
  have h20 : 20 < N := by omega
  have h21 : 21 < N := by omega
  have h22 : 22 < N := by omega
  have h25 : 25 < N := by omega
  have hw63 : ∀ k, k < 1440 → wd k < 2 ^ 63 := fun k hk => Nat.lt_trans (hw k hk) (by decide)
  have hgood : ∀ (t i j : Nat), t < 6 → i < 6 → j < 6 → x = nI t → y = nI i → z = nI j → (up1 (fun k => wd (240 * i + k)) 240 = 0 ∨ up1 (fun k => wd (240 * j + k)) 240 = 0 ∨ up1 (fun k => wd (240 * i + k)) 240 + up1 (fun k => wd (240 * j + k)) 240 ≤ 240) → ∀ lv : gLv, lvp lv [(0, some (.ref (ad 20))), (1, some (.int x)), (2, some (.int y)), (3, some (.int z)), (5, some (.int (nI (up1 (fun k => wd (240 * i + k)) 240)))), (6, some (.int (nI (up1 (fun k => wd (240 * j + k)) 240))))] → gW M D vwCl (ixA N ad sz) 13 0 0 (MQ (gb M) (va_Qi (fun r ct1 => (¬ (ir x 6 ∧ ir y 6 ∧ ir z 6) ∧ ct1 = va_up ct 20 (obM (nI 1) p g ad)) ∨ (∃ t i j, t < 6 ∧ i < 6 ∧ j < 6 ∧ x = nI t ∧ y = nI i ∧ z = nI j ∧ ((up1 (fun k => wd (240 * i + k)) 240 ≠ 0 ∧ up1 (fun k => wd (240 * j + k)) 240 ≠ 0 ∧ 240 < up1 (fun k => wd (240 * i + k)) 240 + up1 (fun k => wd (240 * j + k)) 240 ∧ ct1 = va_up ct 20 (obM (nI 2) p g ad)) ∨ ((up1 (fun k => wd (240 * i + k)) 240 = 0 ∨ up1 (fun k => wd (240 * j + k)) 240 = 0 ∨ up1 (fun k => wd (240 * i + k)) 240 + up1 (fun k => wd (240 * j + k)) 240 ≤ 240) ∧ r = nI (up1 (mo (fun k => wd (240 * i + k)) (fun k => wd (240 * j + k)) (up1 (fun k => wd (240 * j + k)) 240) (up1 (fun k => wd (240 * i + k)) 240)) 240) ∧ ct1 = va_up (va_up (va_up ct 20 (obM (nI 0) p g ad)) 25 (LN cJ 241 (mo (fun k => wd (240 * i + k)) (fun k => wd (240 * j + k)) (up1 (fun k => wd (240 * j + k)) 240) (up1 (fun k => wd (240 * i + k)) 240)))) 22 (LN cJ 1440 (fr 240 t 240 (mo (fun k => wd (240 * i + k)) (fun k => wd (240 * j + k)) (up1 (fun k => wd (240 * j + k)) 240) (up1 (fun k => wd (240 * i + k)) 240)) wd)))))) (gB D vwCl tys N ad (ixA N ad sz)) (ixA N ad sz)) (ga M) (gs M) 0 0 (ixA N ad sz)) N ad 108 lv [] (va_up ct 20 (obM (nI 0) p g ad)) := by
    rintro t i j ht6 hi hj rfl rfl rfl hsz2 lv hlv
    refine g_l2 ?_ hlv
    have hml := up1_le (fun k => wd (240 * i + k)) 240
    have hnl := up1_le (fun k => wd (240 * j + k)) 240
    generalize hme : up1 (fun k => wd (240 * i + k)) 240 = m at hml hsz2
    generalize hne : up1 (fun k => wd (240 * j + k)) 240 = n at hnl hsz2
    have hva : ∀ k, k < 240 → wd (240 * i + k) < 2 ^ 32 := fun k hk => hw _ (by omega)
    have hvb : ∀ k, k < 240 → wd (240 * j + k) < 2 ^ 32 := fun k hk => hw _ (by omega)
    generalize hae : (fun k => wd (240 * i + k)) = a at *
    generalize hbe : (fun k => wd (240 * j + k)) = b at *
    have ha1 : ∀ k, wd (240 * i + k) = a k := fun k => by rw [← hae]
    have hb1 : ∀ k, wd (240 * j + k) = b k := fun k => by rw [← hbe]
    simp only [ha1, hb1] at hva hvb
    have hin : ∀ q, q < m → q + n < 241 := fun q hq => by rcases hsz2 with h | h | h <;> omega
    have moB : ∀ q, q ≤ m → ∀ k, mo a b n q k < 2 ^ 32 := fun q hq => mo_ltB (n := n) (m := m) (fun k hk => hva k (by omega)) (fun k hk => hvb k (by omega)) q hq
    have outer : ∀ (d q : Nat), m = q + d → gW M D vwCl (ixA N ad sz) 13 0 0 (MQ (gb M) (va_Qi (fun r ct1 => (¬ (ir (nI t) 6 ∧ ir (nI i) 6 ∧ ir (nI j) 6) ∧ ct1 = va_up ct 20 (obM (nI 1) p g ad)) ∨ (∃ t_1 i_1 j_1, t_1 < 6 ∧ i_1 < 6 ∧ j_1 < 6 ∧ nI t = nI t_1 ∧ nI i = nI i_1 ∧ nI j = nI j_1 ∧ ((up1 (fun k => wd (240 * i_1 + k)) 240 ≠ 0 ∧ up1 (fun k => wd (240 * j_1 + k)) 240 ≠ 0 ∧ 240 < up1 (fun k => wd (240 * i_1 + k)) 240 + up1 (fun k => wd (240 * j_1 + k)) 240 ∧ ct1 = va_up ct 20 (obM (nI 2) p g ad)) ∨ ((up1 (fun k => wd (240 * i_1 + k)) 240 = 0 ∨ up1 (fun k => wd (240 * j_1 + k)) 240 = 0 ∨ up1 (fun k => wd (240 * i_1 + k)) 240 + up1 (fun k => wd (240 * j_1 + k)) 240 ≤ 240) ∧ r = nI (up1 (mo (fun k => wd (240 * i_1 + k)) (fun k => wd (240 * j_1 + k)) (up1 (fun k => wd (240 * j_1 + k)) 240) (up1 (fun k => wd (240 * i_1 + k)) 240)) 240) ∧ ct1 = va_up (va_up (va_up ct 20 (obM (nI 0) p g ad)) 25 (LN cJ 241 (mo (fun k => wd (240 * i_1 + k)) (fun k => wd (240 * j_1 + k)) (up1 (fun k => wd (240 * j_1 + k)) 240) (up1 (fun k => wd (240 * i_1 + k)) 240)))) 22 (LN cJ 1440 (fr 240 t_1 240 (mo (fun k => wd (240 * i_1 + k)) (fun k => wd (240 * j_1 + k)) (up1 (fun k => wd (240 * j_1 + k)) 240) (up1 (fun k => wd (240 * i_1 + k)) 240)) wd)))))) (gB D vwCl tys N ad (ixA N ad sz)) (ixA N ad sz)) (ga M) (gs M) 0 0 (ixA N ad sz)) N ad 115 [(0, some (.ref (ad 20))), (1, some (.int (nI t))), (2, some (.int (nI i))), (3, some (.int (nI j))), (5, some (.int (nI m))), (6, some (.int (nI n))), (7, some (.int (nI q)))] [] (va_up (va_up ct 20 (obM (nI 0) p g ad)) 25 (LN cJ 241 (mo a b n q))) := by
      intro d
      induction d with
      | zero =>
        intro q hd
        have hq : q = m := by omega
        subst hq
        refine g_iload C dX1_multiply_115 (k := ?_)
        refine g_iload C dX1_multiply_117 (k := ?_)
        refine g_icN_ge (tgt := 225) C (by omega) (by omega) dX1_multiply_119 (by decide) (fun _ => ?_) (fun h => absurd h (by omega))
        refine g_aload_n C dX1_multiply_225 (k := ?_)
        refine g_iload_n C dX1_multiply_226 (k := ?_)
        refine g_cVi (n := 1) (av := [.int (nI t)]) C 20 h20 (by (repeat rw [va_up_ne _ _ (by decide)]); rw [va_up_self]) rfl (by rw [hlM]; exact m_take l hN (by (repeat rw [va_up_ne _ _ (by decide)]); rw [va_up_self]) (by (repeat rw [va_up_ne _ _ (by decide)]); exact ew) (va_up_self _ _ _) ht ht6 hw63 (fun k _ => Nat.lt_trans (moB q (Nat.le_refl q) k) (by decide))) gX1_multiply_X1_take rfl ⟨rfl, rfl⟩ (by rw [hRM]; exact ⟨Nat.le_of_ble_eq_true rfl, Nat.le_of_ble_eq_true rfl⟩) (by rw [hRM]; exact ⟨Nat.le_of_ble_eq_true rfl, Nat.le_of_ble_eq_true rfl⟩) (Nat.le_of_ble_eq_true rfl) (by decide +kernel) rfl dX1_multiply_227 ?_
        rintro _ _ ⟨rfl, rfl⟩
        refine g_iret C hr (Or.inr ⟨t, i, j, ht6, hi, hj, rfl, rfl, rfl, Or.inr ?_⟩) dX1_multiply_230
        rw [hae, hbe, hme, hne]
        exact ⟨hsz2, rfl, rfl⟩
      | succ d ih =>
        intro q hd
        have hml := moB q (by omega)
        have ih2 := ih (q + 1) (by omega)
        rw [mo] at ih2
        generalize mo a b n q = s at hml ih2 ⊢
        have hq1 := hin q (by omega)
        have inner : ∀ (e r : Nat), n = r + e → gW M D vwCl (ixA N ad sz) 13 0 0 (MQ (gb M) (va_Qi (fun r ct1 => (¬ (ir (nI t) 6 ∧ ir (nI i) 6 ∧ ir (nI j) 6) ∧ ct1 = va_up ct 20 (obM (nI 1) p g ad)) ∨ (∃ t_1 i_1 j_1, t_1 < 6 ∧ i_1 < 6 ∧ j_1 < 6 ∧ nI t = nI t_1 ∧ nI i = nI i_1 ∧ nI j = nI j_1 ∧ ((up1 (fun k => wd (240 * i_1 + k)) 240 ≠ 0 ∧ up1 (fun k => wd (240 * j_1 + k)) 240 ≠ 0 ∧ 240 < up1 (fun k => wd (240 * i_1 + k)) 240 + up1 (fun k => wd (240 * j_1 + k)) 240 ∧ ct1 = va_up ct 20 (obM (nI 2) p g ad)) ∨ ((up1 (fun k => wd (240 * i_1 + k)) 240 = 0 ∨ up1 (fun k => wd (240 * j_1 + k)) 240 = 0 ∨ up1 (fun k => wd (240 * i_1 + k)) 240 + up1 (fun k => wd (240 * j_1 + k)) 240 ≤ 240) ∧ r = nI (up1 (mo (fun k => wd (240 * i_1 + k)) (fun k => wd (240 * j_1 + k)) (up1 (fun k => wd (240 * j_1 + k)) 240) (up1 (fun k => wd (240 * i_1 + k)) 240)) 240) ∧ ct1 = va_up (va_up (va_up ct 20 (obM (nI 0) p g ad)) 25 (LN cJ 241 (mo (fun k => wd (240 * i_1 + k)) (fun k => wd (240 * j_1 + k)) (up1 (fun k => wd (240 * j_1 + k)) 240) (up1 (fun k => wd (240 * i_1 + k)) 240)))) 22 (LN cJ 1440 (fr 240 t_1 240 (mo (fun k => wd (240 * i_1 + k)) (fun k => wd (240 * j_1 + k)) (up1 (fun k => wd (240 * j_1 + k)) 240) (up1 (fun k => wd (240 * i_1 + k)) 240)) wd)))))) (gB D vwCl tys N ad (ixA N ad sz)) (ixA N ad sz)) (ga M) (gs M) 0 0 (ixA N ad sz)) N ad 128 [(0, some (.ref (ad 20))), (1, some (.int (nI t))), (2, some (.int (nI i))), (3, some (.int (nI j))), (5, some (.int (nI m))), (6, some (.int (nI n))), (7, some (.int (nI q))), (8, some (.long (lN (mi a b q s r).2))), (10, some (.int (nI r)))] [] (va_up (va_up ct 20 (obM (nI 0) p g ad)) 25 (LN cJ 241 (mi a b q s r).1)) := by
          intro e
          induction e with
          | zero =>
            intro r hr2
            have hrn : r = n := by omega
            subst hrn
            refine g_iload C dX1_multiply_128 (k := ?_)
            refine g_iload C dX1_multiply_130 (k := ?_)
            refine g_icN_ge (tgt := 207) C (by omega) (by omega) dX1_multiply_132 (by decide) (fun _ => ?_) (fun h => absurd h (by omega))
            refine g_aload_n C dX1_multiply_207 (k := ?_)
            refine g_getf (Cn := RX1) (T := TX1) (n := 8) (ref := "WheelProductsModel") C 20 7 h20 (by (repeat rw [va_up_ne _ _ (by decide)]); rw [va_up_self]) rfl (by decide +kernel) (by decide) (by decide +kernel) (fun _ h => h) rfl dX1_multiply_208 ?_
            refine g_iload C dX1_multiply_211 (k := ?_)
            refine g_iload C dX1_multiply_213 (k := ?_)
            refine gN_iadd C dX1_multiply_215 ?_
            refine g_lload C dX1_multiply_216 (k := ?_)
            refine gN_last C 25 h25 (va_up_self _ _ _) ht (by omega) (by decide) dX1_multiply_218 ?_
            rw [bx_uu]
            refine gN_inc C dX1_multiply_219 (k := ?_)
            refine g_goto (tgt := 115) C dX1_multiply_222 (k := ?_)
            exact g_l2 ih2 ⟨Or.inr rfl, Or.inr rfl, Or.inr rfl, Or.inr rfl, Or.inr rfl, Or.inr rfl, Or.inr rfl, trivial⟩
          | succ e ihe =>
            intro r hr2
            have hqa := hva q (by omega)
            have hrb := hvb r (by omega)
            obtain ⟨q1, q2⟩ := mi_ltB (a := a) (b := b) (i := q) hqa (n := n) (fun k hk => hvb k (by omega)) hml r (by omega)
            have h3 := mul32 hqa hrb (q1 (q + r)) q2
            have ihe2 := ihe (r + 1) (by omega)
            rw [mi] at ihe2
            dsimp only at ihe2
            generalize (mi a b q s r).1 = s1 at q1 h3 ihe2 ⊢
            generalize (mi a b q s r).2 = c1 at q2 h3 ihe2 ⊢
            refine g_iload C dX1_multiply_128 (k := ?_)
            refine g_iload C dX1_multiply_130 (k := ?_)
            refine g_icN_ge (tgt := 207) C (by omega) (by omega) dX1_multiply_132 (by decide) (fun h => absurd h (by omega)) (fun _ => ?_)
            refine g_aload_n C dX1_multiply_135 (k := ?_)
            refine g_getf (Cn := RX1) (T := TX1) (n := 8) (ref := "WheelProductsModel") C 20 4 h20 (by (repeat rw [va_up_ne _ _ (by decide)]); rw [va_up_self]) rfl (by decide +kernel) (by decide) (by decide +kernel) (fun _ h => h) rfl dX1_multiply_136 ?_
            refine g_sipush C (nI 240) dX1_multiply_139 (k := ?_)
            refine g_iload_n C dX1_multiply_142 (k := ?_)
            refine gN_imul C dX1_multiply_143 ?_
            refine g_iload C dX1_multiply_144 (k := ?_)
            refine gN_iadd C dX1_multiply_146 ?_
            refine gN_lald C 22 h22 (by (repeat rw [va_up_ne _ _ (by decide)]); exact ew) ht (by omega) (by decide) dX1_multiply_147 ?_
            rw [ha1 q]
            refine g_aload_n C dX1_multiply_148 (k := ?_)
            refine g_getf (Cn := RX1) (T := TX1) (n := 8) (ref := "WheelProductsModel") C 20 4 h20 (by (repeat rw [va_up_ne _ _ (by decide)]); rw [va_up_self]) rfl (by decide +kernel) (by decide) (by decide +kernel) (fun _ h => h) rfl dX1_multiply_149 ?_
            refine g_sipush C (nI 240) dX1_multiply_152 (k := ?_)
            refine g_iload_n C dX1_multiply_155 (k := ?_)
            refine gN_imul C dX1_multiply_156 ?_
            refine g_iload C dX1_multiply_157 (k := ?_)
            refine gN_iadd C dX1_multiply_159 ?_
            refine gN_lald C 22 h22 (by (repeat rw [va_up_ne _ _ (by decide)]); exact ew) ht (by omega) (by decide) dX1_multiply_160 ?_
            rw [hb1 r]
            refine gN_lmul C dX1_multiply_161 ?_
            refine g_aload_n C dX1_multiply_162 (k := ?_)
            refine g_getf (Cn := RX1) (T := TX1) (n := 8) (ref := "WheelProductsModel") C 20 7 h20 (by (repeat rw [va_up_ne _ _ (by decide)]); rw [va_up_self]) rfl (by decide +kernel) (by decide) (by decide +kernel) (fun _ h => h) rfl dX1_multiply_163 ?_
            refine g_iload C dX1_multiply_166 (k := ?_)
            refine g_iload C dX1_multiply_168 (k := ?_)
            refine gN_iadd C dX1_multiply_170 ?_
            refine gN_lald C 25 h25 (va_up_self _ _ _) ht (by omega) (by decide) dX1_multiply_171 ?_
            refine gN_ladd C dX1_multiply_172 ?_
            refine g_lload C dX1_multiply_173 (k := ?_)
            refine gN_ladd C dX1_multiply_175 ?_
            refine g_lstore C dX1_multiply_176 (k := ?_)
            refine g_aload_n C dX1_multiply_178 (k := ?_)
            refine g_getf (Cn := RX1) (T := TX1) (n := 8) (ref := "WheelProductsModel") C 20 7 h20 (by (repeat rw [va_up_ne _ _ (by decide)]); rw [va_up_self]) rfl (by decide +kernel) (by decide) (by decide +kernel) (fun _ h => h) rfl dX1_multiply_179 ?_
            refine g_iload C dX1_multiply_182 (k := ?_)
            refine g_iload C dX1_multiply_184 (k := ?_)
            refine gN_iadd C dX1_multiply_186 ?_
            refine g_lload C dX1_multiply_187 (k := ?_)
            refine g_ldc2 (v := 4294967295) C (by decide +kernel) dX1_multiply_189 ?_
            refine g_tl (lN 4294967295) rfl ?_
            refine g_land C dX1_multiply_192 ?_
            refine g_tl _ (k_mask _) ?_
            refine gN_last C 25 h25 (va_up_self _ _ _) ht (by omega) (by decide) dX1_multiply_193 ?_
            rw [bx_uu]
            refine g_lload C dX1_multiply_194 (k := ?_)
            refine g_bipush C (nI 32) dX1_multiply_196 (k := ?_)
            refine g_lushr C dX1_multiply_198 ?_
            refine g_tl _ (k_ushr32 h3) ?_
            refine g_lstore C dX1_multiply_199 (k := ?_)
            refine gN_inc C dX1_multiply_201 (k := ?_)
            refine g_goto (tgt := 128) C dX1_multiply_204 (k := ?_)
            exact g_l2 ihe2 ⟨Or.inr rfl, Or.inr rfl, Or.inr rfl, Or.inr rfl, Or.inr rfl, Or.inr rfl, Or.inr rfl, Or.inr rfl, Or.inr rfl, trivial⟩
        refine g_iload C dX1_multiply_115 (k := ?_)
        refine g_iload C dX1_multiply_117 (k := ?_)
        refine g_icN_ge (tgt := 225) C (by omega) (by omega) dX1_multiply_119 (by decide) (fun h => absurd h (by omega)) (fun _ => ?_)
        refine g_lconst C (lN 0) dX1_multiply_122 (k := ?_)
        refine g_lstore C dX1_multiply_123 (k := ?_)
        refine g_iconst C (nI 0) dX1_multiply_125 (k := ?_)
        refine g_istore C dX1_multiply_126 (k := ?_)
        exact g_l2 (inner n 0 (by omega)) ⟨Or.inr rfl, Or.inr rfl, Or.inr rfl, Or.inr rfl, Or.inr rfl, Or.inr rfl, Or.inr rfl, Or.inr rfl, Or.inr rfl, trivial⟩
    refine g_aload_n C dX1_multiply_108 (k := ?_)
    refine g_cVv (n := 0) (av := []) C 20 h20 (va_up_self _ _ _) rfl (by rw [hlM]; exact m_clearSums l hN (va_up_self _ _ _) (by rw [va_up_ne _ _ (by decide)]; exact ez) ht) gX1_multiply_X1_clearSums rfl ⟨rfl, rfl⟩ (by rw [hRM]; exact ⟨Nat.le_of_ble_eq_true rfl, Nat.le_of_ble_eq_true rfl⟩) (by rw [hRM]; exact ⟨Nat.le_of_ble_eq_true rfl, Nat.le_of_ble_eq_true rfl⟩) (Nat.le_of_ble_eq_true rfl) (by decide +kernel) rfl dX1_multiply_109 ?_
    rintro _ rfl
    refine g_iconst C (nI 0) dX1_multiply_112 (k := ?_)
    refine g_istore C dX1_multiply_113 (k := ?_)
    exact g_l2 (outer m 0 (by omega)) ⟨Or.inr rfl, Or.inr rfl, Or.inr rfl, Or.inr rfl, Or.inr rfl, Or.inr rfl, Or.inr rfl, trivial⟩
  have hgo : ∀ f : Nat, ((f = 1 ∧ ir x 6 ∧ ir y 6 ∧ ir z 6) ∨ (f = 0 ∧ ¬ (ir x 6 ∧ ir y 6 ∧ ir z 6))) → gW M D vwCl (ixA N ad sz) 13 0 0 (MQ (gb M) (va_Qi (fun r ct1 => (¬ (ir x 6 ∧ ir y 6 ∧ ir z 6) ∧ ct1 = va_up ct 20 (obM (nI 1) p g ad)) ∨ (∃ t i j, t < 6 ∧ i < 6 ∧ j < 6 ∧ x = nI t ∧ y = nI i ∧ z = nI j ∧ ((up1 (fun k => wd (240 * i + k)) 240 ≠ 0 ∧ up1 (fun k => wd (240 * j + k)) 240 ≠ 0 ∧ 240 < up1 (fun k => wd (240 * i + k)) 240 + up1 (fun k => wd (240 * j + k)) 240 ∧ ct1 = va_up ct 20 (obM (nI 2) p g ad)) ∨ ((up1 (fun k => wd (240 * i + k)) 240 = 0 ∨ up1 (fun k => wd (240 * j + k)) 240 = 0 ∨ up1 (fun k => wd (240 * i + k)) 240 + up1 (fun k => wd (240 * j + k)) 240 ≤ 240) ∧ r = nI (up1 (mo (fun k => wd (240 * i + k)) (fun k => wd (240 * j + k)) (up1 (fun k => wd (240 * j + k)) 240) (up1 (fun k => wd (240 * i + k)) 240)) 240) ∧ ct1 = va_up (va_up (va_up ct 20 (obM (nI 0) p g ad)) 25 (LN cJ 241 (mo (fun k => wd (240 * i + k)) (fun k => wd (240 * j + k)) (up1 (fun k => wd (240 * j + k)) 240) (up1 (fun k => wd (240 * i + k)) 240)))) 22 (LN cJ 1440 (fr 240 t 240 (mo (fun k => wd (240 * i + k)) (fun k => wd (240 * j + k)) (up1 (fun k => wd (240 * j + k)) 240) (up1 (fun k => wd (240 * i + k)) 240)) wd)))))) (gB D vwCl tys N ad (ixA N ad sz)) (ixA N ad sz)) (ga M) (gs M) 0 0 (ixA N ad sz)) N ad 26 (lva 0 [.ref (ad 20), .int x, .int y, .int z]) [.int (nI f)] ct := by
    intro f hf
    refine g_istore C dX1_multiply_26 (k := ?_)
    refine g_iload C dX1_multiply_28 (k := ?_)
    rcases hf with ⟨rfl, ⟨t, ht6, hxt⟩, ⟨i, hi, hyi⟩, ⟨j, hj, hzj⟩⟩ | ⟨rfl, hno⟩
    · subst hxt hyi hzj
      refine g_ifN_eq (tgt := 41) C (by decide) dX1_multiply_30 (by decide) (fun h => absurd h (by decide)) (fun _ => ?_)
      refine g_aload_n C dX1_multiply_33 (k := ?_)
      refine g_iload_n C dX1_multiply_34 (k := ?_)
      refine g_cVi (n := 1) (av := [.int (nI i)]) C 20 h20 e20 rfl (by rw [hlM]; exact m_sizeOf l hN e20 ew ht hi hw63) gX1_multiply_X1_sizeOf rfl ⟨rfl, rfl⟩ (by rw [hRM]; exact ⟨Nat.le_of_ble_eq_true rfl, Nat.le_of_ble_eq_true rfl⟩) (by rw [hRM]; exact ⟨Nat.le_of_ble_eq_true rfl, Nat.le_of_ble_eq_true rfl⟩) (Nat.le_of_ble_eq_true rfl) (by decide +kernel) rfl dX1_multiply_35 ?_
      rintro _ ct ⟨rfl, rfl⟩
      refine g_goto (tgt := 42) C dX1_multiply_38 (k := ?_)
      refine g_istore C dX1_multiply_42 (k := ?_)
      refine g_iload C dX1_multiply_44 (k := ?_)
      refine g_ifN_eq (tgt := 57) C (by decide) dX1_multiply_46 (by decide) (fun h => absurd h (by decide)) (fun _ => ?_)
      refine g_aload_n C dX1_multiply_49 (k := ?_)
      refine g_iload_n C dX1_multiply_50 (k := ?_)
      refine g_cVi (n := 1) (av := [.int (nI j)]) C 20 h20 e20 rfl (by rw [hlM]; exact m_sizeOf l hN e20 ew ht hj hw63) gX1_multiply_X1_sizeOf rfl ⟨rfl, rfl⟩ (by rw [hRM]; exact ⟨Nat.le_of_ble_eq_true rfl, Nat.le_of_ble_eq_true rfl⟩) (by rw [hRM]; exact ⟨Nat.le_of_ble_eq_true rfl, Nat.le_of_ble_eq_true rfl⟩) (Nat.le_of_ble_eq_true rfl) (by decide +kernel) rfl dX1_multiply_51 ?_
      rintro _ ct ⟨rfl, rfl⟩
      have hml := up1_le (fun k => wd (240 * i + k)) 240
      have hnl := up1_le (fun k => wd (240 * j + k)) 240
      refine g_goto (tgt := 58) C dX1_multiply_54 (k := ?_)
      refine g_istore C dX1_multiply_58 (k := ?_)
      refine g_aload_n C dX1_multiply_60 (k := ?_)
      refine g_iload C dX1_multiply_61 (k := ?_)
      refine g_ifN_ne (tgt := 70) C (by decide) dX1_multiply_63 (by decide) (fun _ => ?_) (fun h => absurd h (by decide))
      refine g_iload C dX1_multiply_70 (k := ?_)
      by_cases hz1 : up1 (fun k => wd (240 * i + k)) 240 = 0
      · refine g_ifN_le (tgt := 95) C (by omega) dX1_multiply_72 (by decide) (fun _ => ?_) (fun h => absurd h (by omega))
        refine g_iconst C (nI 0) dX1_multiply_95 (k := ?_)
        refine g_putf (Cn := RX1) (T := TX1) (n := 8) (ref := "WheelProductsModel") (ty := .int) C 20 0 h20 e20 rfl (by decide +kernel) tyX1 tyX1_ok nmX1 (by decide) (by decide +kernel) (fun _ h => h) rfl (by decide +kernel) rfl rfl (Nat.le_of_ble_eq_true rfl) dX1_multiply_96 ?_
        refine g_ct (ct' := va_up (ct) 20 (obM (nI 0) p g ad)) rfl ?_
        refine g_aload_n C dX1_multiply_99 (k := ?_)
        refine g_getf (Cn := RX1) (T := TX1) (n := 8) (ref := "WheelProductsModel") C 20 0 h20 (va_up_self _ _ _) rfl (by decide +kernel) (by decide) (by decide +kernel) (fun _ h => h) rfl dX1_multiply_100 ?_
        refine g_ifN_le (tgt := 108) C (by decide) dX1_multiply_103 (by decide) (fun _ => ?_) (fun h => absurd h (by decide))
        exact hgood t i j ht6 hi hj rfl rfl rfl (Or.inl hz1) _ ⟨Or.inr rfl, Or.inr rfl, Or.inr rfl, Or.inr rfl, Or.inr rfl, Or.inr rfl, trivial⟩
      · refine g_ifN_le (tgt := 95) C (by omega) dX1_multiply_72 (by decide) (fun h => absurd h (by omega)) (fun _ => ?_)
        refine g_iload C dX1_multiply_75 (k := ?_)
        by_cases hz2 : up1 (fun k => wd (240 * j + k)) 240 = 0
        · refine g_ifN_le (tgt := 95) C (by omega) dX1_multiply_77 (by decide) (fun _ => ?_) (fun h => absurd h (by omega))
          refine g_iconst C (nI 0) dX1_multiply_95 (k := ?_)
          refine g_putf (Cn := RX1) (T := TX1) (n := 8) (ref := "WheelProductsModel") (ty := .int) C 20 0 h20 e20 rfl (by decide +kernel) tyX1 tyX1_ok nmX1 (by decide) (by decide +kernel) (fun _ h => h) rfl (by decide +kernel) rfl rfl (Nat.le_of_ble_eq_true rfl) dX1_multiply_96 ?_
          refine g_ct (ct' := va_up (ct) 20 (obM (nI 0) p g ad)) rfl ?_
          refine g_aload_n C dX1_multiply_99 (k := ?_)
          refine g_getf (Cn := RX1) (T := TX1) (n := 8) (ref := "WheelProductsModel") C 20 0 h20 (va_up_self _ _ _) rfl (by decide +kernel) (by decide) (by decide +kernel) (fun _ h => h) rfl dX1_multiply_100 ?_
          refine g_ifN_le (tgt := 108) C (by decide) dX1_multiply_103 (by decide) (fun _ => ?_) (fun h => absurd h (by decide))
          exact hgood t i j ht6 hi hj rfl rfl rfl (Or.inr (Or.inl hz2)) _ ⟨Or.inr rfl, Or.inr rfl, Or.inr rfl, Or.inr rfl, Or.inr rfl, Or.inr rfl, trivial⟩
        · refine g_ifN_le (tgt := 95) C (by omega) dX1_multiply_77 (by decide) (fun h => absurd h (by omega)) (fun _ => ?_)
          refine g_iload C dX1_multiply_80 (k := ?_)
          refine g_iload C dX1_multiply_82 (k := ?_)
          refine gN_iadd C dX1_multiply_84 ?_
          refine g_sipush C (nI 240) dX1_multiply_85 (k := ?_)
          by_cases hbig : 240 < up1 (fun k => wd (240 * i + k)) 240 + up1 (fun k => wd (240 * j + k)) 240
          · refine g_icN_le (tgt := 95) C (by omega) (by decide) dX1_multiply_88 (by decide) (fun h => absurd h (by omega)) (fun _ => ?_)
            refine g_iconst C (nI 2) dX1_multiply_91 (k := ?_)
            refine g_goto (tgt := 96) C dX1_multiply_92 (k := ?_)
            refine g_putf (Cn := RX1) (T := TX1) (n := 8) (ref := "WheelProductsModel") (ty := .int) C 20 0 h20 e20 rfl (by decide +kernel) tyX1 tyX1_ok nmX1 (by decide) (by decide +kernel) (fun _ h => h) rfl (by decide +kernel) rfl rfl (Nat.le_of_ble_eq_true rfl) dX1_multiply_96 ?_
            refine g_ct (ct' := va_up (ct) 20 (obM (nI 2) p g ad)) rfl ?_
            refine g_aload_n C dX1_multiply_99 (k := ?_)
            refine g_getf (Cn := RX1) (T := TX1) (n := 8) (ref := "WheelProductsModel") C 20 0 h20 (va_up_self _ _ _) rfl (by decide +kernel) (by decide) (by decide +kernel) (fun _ h => h) rfl dX1_multiply_100 ?_
            refine g_ifN_le (tgt := 108) C (by decide) dX1_multiply_103 (by decide) (fun h => absurd h (by decide)) (fun _ => ?_)
            refine g_iconst C (nI 0) dX1_multiply_106 (k := ?_)
            exact g_iret C hr (Or.inr ⟨t, i, j, ht6, hi, hj, rfl, rfl, rfl, Or.inl ⟨hz1, hz2, hbig, rfl⟩⟩) dX1_multiply_107
          · refine g_icN_le (tgt := 95) C (by omega) (by decide) dX1_multiply_88 (by decide) (fun _ => ?_) (fun h => absurd h (by omega))
            refine g_iconst C (nI 0) dX1_multiply_95 (k := ?_)
            refine g_putf (Cn := RX1) (T := TX1) (n := 8) (ref := "WheelProductsModel") (ty := .int) C 20 0 h20 e20 rfl (by decide +kernel) tyX1 tyX1_ok nmX1 (by decide) (by decide +kernel) (fun _ h => h) rfl (by decide +kernel) rfl rfl (Nat.le_of_ble_eq_true rfl) dX1_multiply_96 ?_
            refine g_ct (ct' := va_up (ct) 20 (obM (nI 0) p g ad)) rfl ?_
            refine g_aload_n C dX1_multiply_99 (k := ?_)
            refine g_getf (Cn := RX1) (T := TX1) (n := 8) (ref := "WheelProductsModel") C 20 0 h20 (va_up_self _ _ _) rfl (by decide +kernel) (by decide) (by decide +kernel) (fun _ h => h) rfl dX1_multiply_100 ?_
            refine g_ifN_le (tgt := 108) C (by decide) dX1_multiply_103 (by decide) (fun _ => ?_) (fun h => absurd h (by decide))
            exact hgood t i j ht6 hi hj rfl rfl rfl (Or.inr (Or.inr (by omega))) _ ⟨Or.inr rfl, Or.inr rfl, Or.inr rfl, Or.inr rfl, Or.inr rfl, Or.inr rfl, trivial⟩
    · refine g_ifN_eq (tgt := 41) C (by decide) dX1_multiply_30 (by decide) (fun _ => ?_) (fun h => absurd rfl h)
      refine g_iconst C (nI 0) dX1_multiply_41 (k := ?_)
      refine g_istore C dX1_multiply_42 (k := ?_)
      refine g_iload C dX1_multiply_44 (k := ?_)
      refine g_ifN_eq (tgt := 57) C (by decide) dX1_multiply_46 (by decide) (fun _ => ?_) (fun h => absurd rfl h)
      refine g_iconst C (nI 0) dX1_multiply_57 (k := ?_)
      refine g_istore C dX1_multiply_58 (k := ?_)
      refine g_aload_n C dX1_multiply_60 (k := ?_)
      refine g_iload C dX1_multiply_61 (k := ?_)
      refine g_ifN_ne (tgt := 70) C (by decide) dX1_multiply_63 (by decide) (fun h => absurd rfl h) (fun _ => ?_)
      refine g_iconst C (nI 1) dX1_multiply_66 (k := ?_)
      refine g_goto (tgt := 96) C dX1_multiply_67 (k := ?_)
      refine g_putf (Cn := RX1) (T := TX1) (n := 8) (ref := "WheelProductsModel") (ty := .int) C 20 0 h20 e20 rfl (by decide +kernel) tyX1 tyX1_ok nmX1 (by decide) (by decide +kernel) (fun _ h => h) rfl (by decide +kernel) rfl rfl (Nat.le_of_ble_eq_true rfl) dX1_multiply_96 ?_
      refine g_ct (ct' := va_up (ct) 20 (obM (nI 1) p g ad)) rfl ?_
      refine g_aload_n C dX1_multiply_99 (k := ?_)
      refine g_getf (Cn := RX1) (T := TX1) (n := 8) (ref := "WheelProductsModel") C 20 0 h20 (va_up_self _ _ _) rfl (by decide +kernel) (by decide) (by decide +kernel) (fun _ h => h) rfl dX1_multiply_100 ?_
      refine g_ifN_le (tgt := 108) C (by decide) dX1_multiply_103 (by decide) (fun h => absurd h (by decide)) (fun _ => ?_)
      refine g_iconst C (nI 0) dX1_multiply_106 (k := ?_)
      exact g_iret C hr (Or.inl ⟨hno, rfl⟩) dX1_multiply_107
  refine g_iload_n C dX1_multiply_0 (k := ?_)
  refine g_cSi (n := 1) (av := [.int x]) C (by rw [hlM]; exact m_isRow l x) gX1_multiply_X1_isRow rfl ⟨rfl, rfl⟩ (by rw [hRM]; exact ⟨Nat.le_of_ble_eq_true rfl, Nat.le_of_ble_eq_true rfl⟩) (by rw [hRM]; exact ⟨Nat.le_of_ble_eq_true rfl, Nat.le_of_ble_eq_true rfl⟩) (Nat.le_of_ble_eq_true rfl) (by decide +kernel) rfl dX1_multiply_1 ?_
  rintro _ ct ⟨h1, rfl⟩
  rcases h1 with ⟨rfl, h1⟩ | ⟨rfl, h1⟩
  · refine g_ifN_eq (tgt := 25) C (by decide) dX1_multiply_4 (by decide) (fun h => absurd h (by decide)) (fun _ => ?_)
    refine g_iload_n C dX1_multiply_7 (k := ?_)
    refine g_cSi (n := 1) (av := [.int y]) C (by rw [hlM]; exact m_isRow l y) gX1_multiply_X1_isRow rfl ⟨rfl, rfl⟩ (by rw [hRM]; exact ⟨Nat.le_of_ble_eq_true rfl, Nat.le_of_ble_eq_true rfl⟩) (by rw [hRM]; exact ⟨Nat.le_of_ble_eq_true rfl, Nat.le_of_ble_eq_true rfl⟩) (Nat.le_of_ble_eq_true rfl) (by decide +kernel) rfl dX1_multiply_8 ?_
    rintro _ ct ⟨h2, rfl⟩
    rcases h2 with ⟨rfl, h2⟩ | ⟨rfl, h2⟩
    · refine g_ifN_eq (tgt := 25) C (by decide) dX1_multiply_11 (by decide) (fun h => absurd h (by decide)) (fun _ => ?_)
      refine g_iload_n C dX1_multiply_14 (k := ?_)
      refine g_cSi (n := 1) (av := [.int z]) C (by rw [hlM]; exact m_isRow l z) gX1_multiply_X1_isRow rfl ⟨rfl, rfl⟩ (by rw [hRM]; exact ⟨Nat.le_of_ble_eq_true rfl, Nat.le_of_ble_eq_true rfl⟩) (by rw [hRM]; exact ⟨Nat.le_of_ble_eq_true rfl, Nat.le_of_ble_eq_true rfl⟩) (Nat.le_of_ble_eq_true rfl) (by decide +kernel) rfl dX1_multiply_15 ?_
      rintro _ ct ⟨h3, rfl⟩
      rcases h3 with ⟨rfl, h3⟩ | ⟨rfl, h3⟩
      · refine g_ifN_eq (tgt := 25) C (by decide) dX1_multiply_18 (by decide) (fun h => absurd h (by decide)) (fun _ => ?_)
        refine g_iconst C (nI 1) dX1_multiply_21 (k := ?_)
        refine g_goto (tgt := 26) C dX1_multiply_22 (k := ?_)
        exact hgo 1 (Or.inl ⟨rfl, h1, h2, h3⟩)
      · refine g_ifN_eq (tgt := 25) C (by decide) dX1_multiply_18 (by decide) (fun _ => ?_) (fun h => absurd rfl h)
        refine g_iconst C (nI 0) dX1_multiply_25 (k := ?_)
        exact hgo 0 (Or.inr ⟨rfl, fun q => h3 q.2.2⟩)
    · refine g_ifN_eq (tgt := 25) C (by decide) dX1_multiply_11 (by decide) (fun _ => ?_) (fun h => absurd rfl h)
      refine g_iconst C (nI 0) dX1_multiply_25 (k := ?_)
      exact hgo 0 (Or.inr ⟨rfl, fun q => h2 q.2.1⟩)
  · refine g_ifN_eq (tgt := 25) C (by decide) dX1_multiply_4 (by decide) (fun _ => ?_) (fun h => absurd rfl h)
    refine g_iconst C (nI 0) dX1_multiply_25 (k := ?_)
    exact hgo 0 (Or.inr ⟨rfl, fun q => h1 q.1⟩)
theorem cy_ltB {a b : Nat → Nat} {n : Nat} (ha : ∀ k, k < n → a k < 2 ^ 32) (hb : ∀ k, k < n → b k < 2 ^ 32) : ∀ k, k ≤ n → cy a b k < 2
  | 0, _ => Nat.zero_lt_two
  | k + 1, hk => by
    have h1 := ha k (by omega)
    have h2 := hb k (by omega)
    have h3 := cy_ltB ha hb k (by omega)
    unfold cy
    omega

set_option maxRecDepth 100000 in
set_option maxHeartbeats 4000000 in
theorem m_sum (l : Launch) {D : va_G} {tys : List (ClassId × FieldType)} {N : Nat} {ad : Nat → Nat} {ct : Nat → va_E} (hN : 26 ≤ N) {cJ : ClassId} {th : Int32} {p g : Nat} {c wd : Nat → Nat} (e20 : ct 20 = obM th p g ad) (ec : ct 21 = LN cJ 3072 c) (ew : ct 22 = LN cJ 1440 wd) (ht : tys[0]? = some (cJ, .long)) (hp1 : 512 < p) (hp2 : p < 2 ^ 31) (hc : ∀ k, k < 3072 → c k < p) (hw : ∀ k, k < 1440 → wd k < 2 ^ 32) {z0 : Nat → Nat} (ez : ct 25 = LN cJ 241 z0) (x y z : Int32) :
    gMi l yX1_sum wsX1_sum rmp D vwCl tys N ad [.ref (ad 20), .int x, .int y, .int z] ct (fun r ct1 => (¬ (ir x 6 ∧ ir y 6 ∧ ir z 6) ∧ ct1 = va_up (va_up ct 20 (obM (nI 1) p g ad)) 25 (LN cJ 241 (fun _ => 0))) ∨ (∃ t i j, t < 6 ∧ i < 6 ∧ j < 6 ∧ x = nI t ∧ y = nI i ∧ z = nI j ∧ ((cy (fun k => wd (240 * i + k)) (fun k => wd (240 * j + k)) 240 ≠ 0 ∧ ct1 = va_up (va_up (va_up ct 20 (obM (nI 0) p g ad)) 25 (LN cJ 241 (fun k => if k < 240 then sw1 (fun k => wd (240 * i + k)) (fun k => wd (240 * j + k)) k else 0))) 20 (obM (nI 2) p g ad)) ∨ (cy (fun k => wd (240 * i + k)) (fun k => wd (240 * j + k)) 240 = 0 ∧ r = nI (up1 (fun k => if k < 240 then sw1 (fun k => wd (240 * i + k)) (fun k => wd (240 * j + k)) k else 0) 240) ∧ ct1 = va_up (va_up (va_up ct 20 (obM (nI 0) p g ad)) 25 (LN cJ 241 (fun k => if k < 240 then sw1 (fun k => wd (240 * i + k)) (fun k => wd (240 * j + k)) k else 0))) 22 (LN cJ 1440 (fr 240 t 240 (fun k => if k < 240 then sw1 (fun k => wd (240 * i + k)) (fun k => wd (240 * j + k)) k else 0) wd)))))) := by
  refine gof_i (cc := cX1_sum) (maxL := 10) (by decide) rfl (Nat.le_of_ble_eq_true rfl) ?_
  intro M sz C hlM hRM hr hsz
  have h20 : 20 < N := by omega
  have h21 : 21 < N := by omega
  have h22 : 22 < N := by omega
  have h25 : 25 < N := by omega
  have hw63 : ∀ k, k < 1440 → wd k < 2 ^ 63 := fun k hk => Nat.lt_trans (hw k hk) (by decide)
  have hgo : ∀ f : Nat, ((f = 1 ∧ ir x 6 ∧ ir y 6 ∧ ir z 6) ∨ (f = 0 ∧ ¬ (ir x 6 ∧ ir y 6 ∧ ir z 6))) → gW M D vwCl (ixA N ad sz) 10 0 0 (MQ (gb M) (va_Qi (fun r ct1 => (¬ (ir x 6 ∧ ir y 6 ∧ ir z 6) ∧ ct1 = va_up (va_up ct 20 (obM (nI 1) p g ad)) 25 (LN cJ 241 (fun _ => 0))) ∨ (∃ t i j, t < 6 ∧ i < 6 ∧ j < 6 ∧ x = nI t ∧ y = nI i ∧ z = nI j ∧ ((cy (fun k => wd (240 * i + k)) (fun k => wd (240 * j + k)) 240 ≠ 0 ∧ ct1 = va_up (va_up (va_up ct 20 (obM (nI 0) p g ad)) 25 (LN cJ 241 (fun k => if k < 240 then sw1 (fun k => wd (240 * i + k)) (fun k => wd (240 * j + k)) k else 0))) 20 (obM (nI 2) p g ad)) ∨ (cy (fun k => wd (240 * i + k)) (fun k => wd (240 * j + k)) 240 = 0 ∧ r = nI (up1 (fun k => if k < 240 then sw1 (fun k => wd (240 * i + k)) (fun k => wd (240 * j + k)) k else 0) 240) ∧ ct1 = va_up (va_up (va_up ct 20 (obM (nI 0) p g ad)) 25 (LN cJ 241 (fun k => if k < 240 then sw1 (fun k => wd (240 * i + k)) (fun k => wd (240 * j + k)) k else 0))) 22 (LN cJ 1440 (fr 240 t 240 (fun k => if k < 240 then sw1 (fun k => wd (240 * i + k)) (fun k => wd (240 * j + k)) k else 0) wd)))))) (gB D vwCl tys N ad (ixA N ad sz)) (ixA N ad sz)) (ga M) (gs M) 0 0 (ixA N ad sz)) N ad 26 (lva 0 [.ref (ad 20), .int x, .int y, .int z]) [.int (nI f)] ct := by
    intro f hf
    refine g_istore C dX1_sum_26 (k := ?_)
    refine g_aload_n C dX1_sum_28 (k := ?_)
    refine g_iload C dX1_sum_29 (k := ?_)
    rcases hf with ⟨rfl, ⟨t, ht6, hxt⟩, ⟨i, hi, hyi⟩, ⟨j, hj, hzj⟩⟩ | ⟨rfl, hno⟩
    · subst hxt hyi hzj
      have hva : ∀ k, k < 240 → wd (240 * i + k) < 2 ^ 32 := fun k hk => hw _ (by omega)
      have hvb : ∀ k, k < 240 → wd (240 * j + k) < 2 ^ 32 := fun k hk => hw _ (by omega)
      generalize hae : (fun k => wd (240 * i + k)) = a
      generalize hbe : (fun k => wd (240 * j + k)) = b
      have ha1 : ∀ k, wd (240 * i + k) = a k := fun k => by rw [← hae]
      have hb1 : ∀ k, wd (240 * j + k) = b k := fun k => by rw [← hbe]
      simp only [ha1, hb1] at hva hvb
      have hSl : ∀ k, k < 240 → (fun k => if k < 240 then sw1 a b k else 0) k < 2 ^ 63 := fun k hk => by
        show (if k < 240 then sw1 a b k else 0) < _
        rw [if_pos hk]
        exact Nat.lt_trans (show sw1 a b k < 4294967296 from Nat.mod_lt _ (by decide)) (by decide)
      have hcy : ∀ k, k ≤ 240 → cy a b k < 2 := cy_ltB hva hvb
      refine g_ifN_eq (tgt := 38) C (by decide) dX1_sum_31 (by decide) (fun h => absurd h (by decide)) (fun _ => ?_)
      refine g_iconst C (nI 0) dX1_sum_34 (k := ?_)
      refine g_goto (tgt := 39) C dX1_sum_35 (k := ?_)
      refine g_putf (Cn := RX1) (T := TX1) (n := 8) (ref := "WheelProductsModel") (ty := .int) C 20 0 h20 e20 rfl (by decide +kernel) tyX1 tyX1_ok nmX1 (by decide) (by decide +kernel) (fun _ h => h) rfl (by decide +kernel) rfl rfl (Nat.le_of_ble_eq_true rfl) dX1_sum_39 ?_
      refine g_ct (ct' := va_up (ct) 20 (obM (nI 0) p g ad)) rfl ?_
      refine g_lconst C (lN 0) dX1_sum_42 (k := ?_)
      refine g_lstore C dX1_sum_43 (k := ?_)
      refine g_aload_n C dX1_sum_45 (k := ?_)
      refine g_cVv (n := 0) (av := []) C 20 h20 (va_up_self _ _ _) rfl (by rw [hlM]; exact m_clearSums l hN (va_up_self _ _ _) (by rw [va_up_ne _ _ (by decide)]; exact ez) ht) gX1_sum_X1_clearSums rfl ⟨rfl, rfl⟩ (by rw [hRM]; exact ⟨Nat.le_of_ble_eq_true rfl, Nat.le_of_ble_eq_true rfl⟩) (by rw [hRM]; exact ⟨Nat.le_of_ble_eq_true rfl, Nat.le_of_ble_eq_true rfl⟩) (Nat.le_of_ble_eq_true rfl) (by decide +kernel) rfl dX1_sum_46 ?_
      rintro _ rfl
      have loop : ∀ (d q : Nat), 240 = q + d → gW M D vwCl (ixA N ad sz) 10 0 0 (MQ (gb M) (va_Qi (fun r ct1 => (¬ (ir (nI t) 6 ∧ ir (nI i) 6 ∧ ir (nI j) 6) ∧ ct1 = va_up (va_up ct 20 (obM (nI 1) p g ad)) 25 (LN cJ 241 (fun _ => 0))) ∨ (∃ t_1 i_1 j_1, t_1 < 6 ∧ i_1 < 6 ∧ j_1 < 6 ∧ nI t = nI t_1 ∧ nI i = nI i_1 ∧ nI j = nI j_1 ∧ ((cy (fun k => wd (240 * i_1 + k)) (fun k => wd (240 * j_1 + k)) 240 ≠ 0 ∧ ct1 = va_up (va_up (va_up ct 20 (obM (nI 0) p g ad)) 25 (LN cJ 241 (fun k => if k < 240 then sw1 (fun k => wd (240 * i_1 + k)) (fun k => wd (240 * j_1 + k)) k else 0))) 20 (obM (nI 2) p g ad)) ∨ (cy (fun k => wd (240 * i_1 + k)) (fun k => wd (240 * j_1 + k)) 240 = 0 ∧ r = nI (up1 (fun k => if k < 240 then sw1 (fun k => wd (240 * i_1 + k)) (fun k => wd (240 * j_1 + k)) k else 0) 240) ∧ ct1 = va_up (va_up (va_up ct 20 (obM (nI 0) p g ad)) 25 (LN cJ 241 (fun k => if k < 240 then sw1 (fun k => wd (240 * i_1 + k)) (fun k => wd (240 * j_1 + k)) k else 0))) 22 (LN cJ 1440 (fr 240 t_1 240 (fun k => if k < 240 then sw1 (fun k => wd (240 * i_1 + k)) (fun k => wd (240 * j_1 + k)) k else 0) wd)))))) (gB D vwCl tys N ad (ixA N ad sz)) (ixA N ad sz)) (ga M) (gs M) 0 0 (ixA N ad sz)) N ad 52 [(0, some (.ref (ad 20))), (1, some (.int (nI t))), (2, some (.int (nI i))), (3, some (.int (nI j))), (4, some (.int (nI 1))), (5, some (.long (lN (cy a b q)))), (7, some (.int (nI q)))] [] (va_up (va_up ct 20 (obM (nI 0) p g ad)) 25 (LN cJ 241 (fun k => if k < q then sw1 a b k else 0))) := by
        intro d
        induction d with
        | zero =>
          intro q hd
          have hq : q = 240 := by omega
          subst hq
          have hc2 := hcy 240 (Nat.le_refl _)
          refine g_iload C dX1_sum_52 (k := ?_)
          refine g_sipush C (nI 240) dX1_sum_54 (k := ?_)
          refine g_icN_ge (tgt := 123) C (by decide) (by decide) dX1_sum_57 (by decide) (fun _ => ?_) (fun h => absurd h (by decide))
          refine g_aload_n C dX1_sum_123 (k := ?_)
          refine g_aload_n C dX1_sum_124 (k := ?_)
          refine g_getf (Cn := RX1) (T := TX1) (n := 8) (ref := "WheelProductsModel") C 20 0 h20 (by (repeat rw [va_up_ne _ _ (by decide)]); rw [va_up_self]) rfl (by decide +kernel) (by decide) (by decide +kernel) (fun _ h => h) rfl dX1_sum_125 ?_
          refine g_ifN_ne (tgt := 142) C (by decide) dX1_sum_128 (by decide) (fun h => absurd rfl h) (fun _ => ?_)
          refine g_lload C dX1_sum_131 (k := ?_)
          refine g_lconst C (lN 0) dX1_sum_133 (k := ?_)
          by_cases hz : cy a b 240 = 0
          · refine g_lcN_le (tgt := 142) C (by omega) (by decide) dX1_sum_134 dX1_sum_135 (by decide) (fun _ => ?_) (fun h => absurd h (by omega))
            refine g_aload_n C dX1_sum_142 (k := ?_)
            refine g_getf (Cn := RX1) (T := TX1) (n := 8) (ref := "WheelProductsModel") C 20 0 h20 (by (repeat rw [va_up_ne _ _ (by decide)]); rw [va_up_self]) rfl (by decide +kernel) (by decide) (by decide +kernel) (fun _ h => h) rfl dX1_sum_143 ?_
            refine g_putf (Cn := RX1) (T := TX1) (n := 8) (ref := "WheelProductsModel") (ty := .int) C 20 0 h20 (by (repeat rw [va_up_ne _ _ (by decide)]); rw [va_up_self]) rfl (by decide +kernel) tyX1 tyX1_ok nmX1 (by decide) (by decide +kernel) (fun _ h => h) rfl (by decide +kernel) rfl rfl (Nat.le_of_ble_eq_true rfl) dX1_sum_146 ?_
            refine g_ct (ct' := va_up (va_up ct 20 (obM (nI 0) p g ad)) 25 (LN cJ 241 (fun k => if k < 240 then sw1 a b k else 0))) (up_id (q := 20) (e := obM (nI 0) p g ad) (by (repeat rw [va_up_ne _ _ (by decide)]); rw [va_up_self])) ?_
            refine g_aload_n C dX1_sum_149 (k := ?_)
            refine g_getf (Cn := RX1) (T := TX1) (n := 8) (ref := "WheelProductsModel") C 20 0 h20 (by (repeat rw [va_up_ne _ _ (by decide)]); rw [va_up_self]) rfl (by decide +kernel) (by decide) (by decide +kernel) (fun _ h => h) rfl dX1_sum_150 ?_
            refine g_ifN_le (tgt := 160) C (by decide) dX1_sum_153 (by decide) (fun _ => ?_) (fun h => absurd h (by decide))
            refine g_aload_n C dX1_sum_160 (k := ?_)
            refine g_iload_n C dX1_sum_161 (k := ?_)
            refine g_cVi (n := 1) (av := [.int (nI t)]) C 20 h20 (by (repeat rw [va_up_ne _ _ (by decide)]); rw [va_up_self]) rfl (by rw [hlM]; exact m_take l hN (by (repeat rw [va_up_ne _ _ (by decide)]); rw [va_up_self]) (by (repeat rw [va_up_ne _ _ (by decide)]); exact ew) (va_up_self _ _ _) ht ht6 hw63 hSl) gX1_sum_X1_take rfl ⟨rfl, rfl⟩ (by rw [hRM]; exact ⟨Nat.le_of_ble_eq_true rfl, Nat.le_of_ble_eq_true rfl⟩) (by rw [hRM]; exact ⟨Nat.le_of_ble_eq_true rfl, Nat.le_of_ble_eq_true rfl⟩) (Nat.le_of_ble_eq_true rfl) (by decide +kernel) rfl dX1_sum_162 ?_
            rintro _ _ ⟨rfl, rfl⟩
            refine g_iret C hr (Or.inr ⟨t, i, j, ht6, hi, hj, rfl, rfl, rfl, Or.inr ?_⟩) dX1_sum_165
            rw [hae, hbe]
            exact ⟨hz, rfl, rfl⟩
          · refine g_lcN_le (tgt := 142) C (by omega) (by decide) dX1_sum_134 dX1_sum_135 (by decide) (fun h => absurd h (by omega)) (fun _ => ?_)
            refine g_iconst C (nI 2) dX1_sum_138 (k := ?_)
            refine g_goto (tgt := 146) C dX1_sum_139 (k := ?_)
            refine g_putf (Cn := RX1) (T := TX1) (n := 8) (ref := "WheelProductsModel") (ty := .int) C 20 0 h20 (by (repeat rw [va_up_ne _ _ (by decide)]); rw [va_up_self]) rfl (by decide +kernel) tyX1 tyX1_ok nmX1 (by decide) (by decide +kernel) (fun _ h => h) rfl (by decide +kernel) rfl rfl (Nat.le_of_ble_eq_true rfl) dX1_sum_146 ?_
            refine g_ct (ct' := va_up (va_up (va_up ct 20 (obM (nI 0) p g ad)) 25 (LN cJ 241 (fun k => if k < 240 then sw1 a b k else 0))) 20 (obM (nI 2) p g ad)) rfl ?_
            refine g_aload_n C dX1_sum_149 (k := ?_)
            refine g_getf (Cn := RX1) (T := TX1) (n := 8) (ref := "WheelProductsModel") C 20 0 h20 (va_up_self _ _ _) rfl (by decide +kernel) (by decide) (by decide +kernel) (fun _ h => h) rfl dX1_sum_150 ?_
            refine g_ifN_le (tgt := 160) C (by decide) dX1_sum_153 (by decide) (fun h => absurd h (by decide)) (fun _ => ?_)
            refine g_iconst C (nI 0) dX1_sum_156 (k := ?_)
            refine g_goto (tgt := 165) C dX1_sum_157 (k := ?_)
            refine g_iret C hr (Or.inr ⟨t, i, j, ht6, hi, hj, rfl, rfl, rfl, Or.inl ?_⟩) dX1_sum_165
            rw [hae, hbe]
            exact ⟨hz, rfl⟩
        | succ d ih =>
          intro q hd
          have h1 := hva q (by omega)
          have h2 := hvb q (by omega)
          have h3 := hcy q (by omega)
          refine g_iload C dX1_sum_52 (k := ?_)
          refine g_sipush C (nI 240) dX1_sum_54 (k := ?_)
          refine g_icN_ge (tgt := 123) C (by omega) (by decide) dX1_sum_57 (by decide) (fun h => absurd h (by omega)) (fun _ => ?_)
          refine g_iload C dX1_sum_60 (k := ?_)
          refine g_ifN_eq (tgt := 123) C (by decide) dX1_sum_62 (by decide) (fun h => absurd h (by decide)) (fun _ => ?_)
          refine g_aload_n C dX1_sum_65 (k := ?_)
          refine g_getf (Cn := RX1) (T := TX1) (n := 8) (ref := "WheelProductsModel") C 20 4 h20 (by (repeat rw [va_up_ne _ _ (by decide)]); rw [va_up_self]) rfl (by decide +kernel) (by decide) (by decide +kernel) (fun _ h => h) rfl dX1_sum_66 ?_
          refine g_sipush C (nI 240) dX1_sum_69 (k := ?_)
          refine g_iload_n C dX1_sum_72 (k := ?_)
          refine gN_imul C dX1_sum_73 ?_
          refine g_iload C dX1_sum_74 (k := ?_)
          refine gN_iadd C dX1_sum_76 ?_
          refine gN_lald C 22 h22 (by (repeat rw [va_up_ne _ _ (by decide)]); exact ew) ht (by omega) (by decide) dX1_sum_77 ?_
          rw [ha1 q]
          refine g_aload_n C dX1_sum_78 (k := ?_)
          refine g_getf (Cn := RX1) (T := TX1) (n := 8) (ref := "WheelProductsModel") C 20 4 h20 (by (repeat rw [va_up_ne _ _ (by decide)]); rw [va_up_self]) rfl (by decide +kernel) (by decide) (by decide +kernel) (fun _ h => h) rfl dX1_sum_79 ?_
          refine g_sipush C (nI 240) dX1_sum_82 (k := ?_)
          refine g_iload_n C dX1_sum_85 (k := ?_)
          refine gN_imul C dX1_sum_86 ?_
          refine g_iload C dX1_sum_87 (k := ?_)
          refine gN_iadd C dX1_sum_89 ?_
          refine gN_lald C 22 h22 (by (repeat rw [va_up_ne _ _ (by decide)]); exact ew) ht (by omega) (by decide) dX1_sum_90 ?_
          rw [hb1 q]
          refine gN_ladd C dX1_sum_91 ?_
          refine g_lload C dX1_sum_92 (k := ?_)
          refine gN_ladd C dX1_sum_94 ?_
          refine g_lstore C dX1_sum_95 (k := ?_)
          refine g_aload_n C dX1_sum_97 (k := ?_)
          refine g_getf (Cn := RX1) (T := TX1) (n := 8) (ref := "WheelProductsModel") C 20 7 h20 (by (repeat rw [va_up_ne _ _ (by decide)]); rw [va_up_self]) rfl (by decide +kernel) (by decide) (by decide +kernel) (fun _ h => h) rfl dX1_sum_98 ?_
          refine g_iload C dX1_sum_101 (k := ?_)
          refine g_lload C dX1_sum_103 (k := ?_)
          refine g_ldc2 (v := 4294967295) C (by decide +kernel) dX1_sum_105 ?_
          refine g_tl (lN 4294967295) rfl ?_
          refine g_land C dX1_sum_108 ?_
          refine g_tl _ (k_mask _) ?_
          refine gN_last C 25 h25 (va_up_self _ _ _) ht (by omega) (by decide) dX1_sum_109 ?_
          refine g_lload C dX1_sum_110 (k := ?_)
          refine g_bipush C (nI 32) dX1_sum_112 (k := ?_)
          refine g_lshr C dX1_sum_114 ?_
          refine g_tl _ (k_lshr32 (by omega)) ?_
          refine g_lstore C dX1_sum_115 (k := ?_)
          refine gN_inc C dX1_sum_117 (k := ?_)
          refine g_goto (tgt := 52) C dX1_sum_120 (k := ?_)
          have e9 : nu (fun k => if k < q then sw1 a b k else 0) q ((a q + b q + cy a b q) % 4294967296) = fun k => if k < q + 1 then sw1 a b k else 0 := by
            funext k
            unfold nu
            by_cases h1 : k = q
            · subst h1; rw [if_pos rfl, if_pos (by omega)]; rfl
            · rw [if_neg h1]
              show (if k < q then sw1 a b k else 0) = _
              by_cases h2 : k < q
              · rw [if_pos h2, if_pos (by omega)]
              · rw [if_neg h2, if_neg (by omega)]
          rw [bx_uu, e9]
          exact g_l2 (ih (q + 1) (by omega)) ⟨Or.inr rfl, Or.inr rfl, Or.inr rfl, Or.inr rfl, Or.inr rfl, Or.inr rfl, Or.inr rfl, trivial⟩
      refine g_iconst C (nI 0) dX1_sum_49 (k := ?_)
      refine g_istore C dX1_sum_50 (k := ?_)
      exact g_l2 (loop 240 0 (by omega)) ⟨Or.inr rfl, Or.inr rfl, Or.inr rfl, Or.inr rfl, Or.inr rfl, Or.inr rfl, Or.inr rfl, trivial⟩
    · refine g_ifN_eq (tgt := 38) C (by decide) dX1_sum_31 (by decide) (fun _ => ?_) (fun h => absurd rfl h)
      refine g_iconst C (nI 1) dX1_sum_38 (k := ?_)
      refine g_putf (Cn := RX1) (T := TX1) (n := 8) (ref := "WheelProductsModel") (ty := .int) C 20 0 h20 e20 rfl (by decide +kernel) tyX1 tyX1_ok nmX1 (by decide) (by decide +kernel) (fun _ h => h) rfl (by decide +kernel) rfl rfl (Nat.le_of_ble_eq_true rfl) dX1_sum_39 ?_
      refine g_ct (ct' := va_up (ct) 20 (obM (nI 1) p g ad)) rfl ?_
      refine g_lconst C (lN 0) dX1_sum_42 (k := ?_)
      refine g_lstore C dX1_sum_43 (k := ?_)
      refine g_aload_n C dX1_sum_45 (k := ?_)
      refine g_cVv (n := 0) (av := []) C 20 h20 (va_up_self _ _ _) rfl (by rw [hlM]; exact m_clearSums l hN (va_up_self _ _ _) (by rw [va_up_ne _ _ (by decide)]; exact ez) ht) gX1_sum_X1_clearSums rfl ⟨rfl, rfl⟩ (by rw [hRM]; exact ⟨Nat.le_of_ble_eq_true rfl, Nat.le_of_ble_eq_true rfl⟩) (by rw [hRM]; exact ⟨Nat.le_of_ble_eq_true rfl, Nat.le_of_ble_eq_true rfl⟩) (Nat.le_of_ble_eq_true rfl) (by decide +kernel) rfl dX1_sum_46 ?_
      rintro _ rfl
      refine g_iconst C (nI 0) dX1_sum_49 (k := ?_)
      refine g_istore C dX1_sum_50 (k := ?_)
      refine g_iload C dX1_sum_52 (k := ?_)
      refine g_sipush C (nI 240) dX1_sum_54 (k := ?_)
      refine g_icN_ge (tgt := 123) C (by decide) (by decide) dX1_sum_57 (by decide) (fun h => absurd h (by decide)) (fun _ => ?_)
      refine g_iload C dX1_sum_60 (k := ?_)
      refine g_ifN_eq (tgt := 123) C (by decide) dX1_sum_62 (by decide) (fun _ => ?_) (fun h => absurd rfl h)
      refine g_aload_n C dX1_sum_123 (k := ?_)
      refine g_aload_n C dX1_sum_124 (k := ?_)
      refine g_getf (Cn := RX1) (T := TX1) (n := 8) (ref := "WheelProductsModel") C 20 0 h20 (by (repeat rw [va_up_ne _ _ (by decide)]); rw [va_up_self]) rfl (by decide +kernel) (by decide) (by decide +kernel) (fun _ h => h) rfl dX1_sum_125 ?_
      refine g_ifN_ne (tgt := 142) C (by decide) dX1_sum_128 (by decide) (fun _ => ?_) (fun h => absurd h (by decide))
      refine g_aload_n C dX1_sum_142 (k := ?_)
      refine g_getf (Cn := RX1) (T := TX1) (n := 8) (ref := "WheelProductsModel") C 20 0 h20 (by (repeat rw [va_up_ne _ _ (by decide)]); rw [va_up_self]) rfl (by decide +kernel) (by decide) (by decide +kernel) (fun _ h => h) rfl dX1_sum_143 ?_
      refine g_putf (Cn := RX1) (T := TX1) (n := 8) (ref := "WheelProductsModel") (ty := .int) C 20 0 h20 (by (repeat rw [va_up_ne _ _ (by decide)]); rw [va_up_self]) rfl (by decide +kernel) tyX1 tyX1_ok nmX1 (by decide) (by decide +kernel) (fun _ h => h) rfl (by decide +kernel) rfl rfl (Nat.le_of_ble_eq_true rfl) dX1_sum_146 ?_
      refine g_ct (ct' := va_up (va_up ct 20 (obM (nI 1) p g ad)) 25 (LN cJ 241 (fun _ => 0))) (up_id (q := 20) (e := obM (nI 1) p g ad) (by (repeat rw [va_up_ne _ _ (by decide)]); rw [va_up_self])) ?_
      refine g_aload_n C dX1_sum_149 (k := ?_)
      refine g_getf (Cn := RX1) (T := TX1) (n := 8) (ref := "WheelProductsModel") C 20 0 h20 (by (repeat rw [va_up_ne _ _ (by decide)]); rw [va_up_self]) rfl (by decide +kernel) (by decide) (by decide +kernel) (fun _ h => h) rfl dX1_sum_150 ?_
      refine g_ifN_le (tgt := 160) C (by decide) dX1_sum_153 (by decide) (fun h => absurd h (by decide)) (fun _ => ?_)
      refine g_iconst C (nI 0) dX1_sum_156 (k := ?_)
      refine g_goto (tgt := 165) C dX1_sum_157 (k := ?_)
      exact g_iret C hr (Or.inl ⟨hno, rfl⟩) dX1_sum_165
  refine g_iload_n C dX1_sum_0 (k := ?_)
  refine g_cSi (n := 1) (av := [.int x]) C (by rw [hlM]; exact m_isRow l x) gX1_sum_X1_isRow rfl ⟨rfl, rfl⟩ (by rw [hRM]; exact ⟨Nat.le_of_ble_eq_true rfl, Nat.le_of_ble_eq_true rfl⟩) (by rw [hRM]; exact ⟨Nat.le_of_ble_eq_true rfl, Nat.le_of_ble_eq_true rfl⟩) (Nat.le_of_ble_eq_true rfl) (by decide +kernel) rfl dX1_sum_1 ?_
  rintro _ ct ⟨h1, rfl⟩
  rcases h1 with ⟨rfl, h1⟩ | ⟨rfl, h1⟩
  · refine g_ifN_eq (tgt := 25) C (by decide) dX1_sum_4 (by decide) (fun h => absurd h (by decide)) (fun _ => ?_)
    refine g_iload_n C dX1_sum_7 (k := ?_)
    refine g_cSi (n := 1) (av := [.int y]) C (by rw [hlM]; exact m_isRow l y) gX1_sum_X1_isRow rfl ⟨rfl, rfl⟩ (by rw [hRM]; exact ⟨Nat.le_of_ble_eq_true rfl, Nat.le_of_ble_eq_true rfl⟩) (by rw [hRM]; exact ⟨Nat.le_of_ble_eq_true rfl, Nat.le_of_ble_eq_true rfl⟩) (Nat.le_of_ble_eq_true rfl) (by decide +kernel) rfl dX1_sum_8 ?_
    rintro _ ct ⟨h2, rfl⟩
    rcases h2 with ⟨rfl, h2⟩ | ⟨rfl, h2⟩
    · refine g_ifN_eq (tgt := 25) C (by decide) dX1_sum_11 (by decide) (fun h => absurd h (by decide)) (fun _ => ?_)
      refine g_iload_n C dX1_sum_14 (k := ?_)
      refine g_cSi (n := 1) (av := [.int z]) C (by rw [hlM]; exact m_isRow l z) gX1_sum_X1_isRow rfl ⟨rfl, rfl⟩ (by rw [hRM]; exact ⟨Nat.le_of_ble_eq_true rfl, Nat.le_of_ble_eq_true rfl⟩) (by rw [hRM]; exact ⟨Nat.le_of_ble_eq_true rfl, Nat.le_of_ble_eq_true rfl⟩) (Nat.le_of_ble_eq_true rfl) (by decide +kernel) rfl dX1_sum_15 ?_
      rintro _ ct ⟨h3, rfl⟩
      rcases h3 with ⟨rfl, h3⟩ | ⟨rfl, h3⟩
      · refine g_ifN_eq (tgt := 25) C (by decide) dX1_sum_18 (by decide) (fun h => absurd h (by decide)) (fun _ => ?_)
        refine g_iconst C (nI 1) dX1_sum_21 (k := ?_)
        refine g_goto (tgt := 26) C dX1_sum_22 (k := ?_)
        exact hgo 1 (Or.inl ⟨rfl, h1, h2, h3⟩)
      · refine g_ifN_eq (tgt := 25) C (by decide) dX1_sum_18 (by decide) (fun _ => ?_) (fun h => absurd rfl h)
        refine g_iconst C (nI 0) dX1_sum_25 (k := ?_)
        exact hgo 0 (Or.inr ⟨rfl, fun q => h3 q.2.2⟩)
    · refine g_ifN_eq (tgt := 25) C (by decide) dX1_sum_11 (by decide) (fun _ => ?_) (fun h => absurd rfl h)
      refine g_iconst C (nI 0) dX1_sum_25 (k := ?_)
      exact hgo 0 (Or.inr ⟨rfl, fun q => h2 q.2.1⟩)
  · refine g_ifN_eq (tgt := 25) C (by decide) dX1_sum_4 (by decide) (fun _ => ?_) (fun h => absurd rfl h)
    refine g_iconst C (nI 0) dX1_sum_25 (k := ?_)
    exact hgo 0 (Or.inr ⟨rfl, fun q => h1 q.1⟩)
