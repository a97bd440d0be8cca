/-! ===== the reference's product ===== -/
def cvj (p : Nat) (a b : Nat → Nat) (i : Nat) (w : Nat → Nat) : Nat → Nat → Nat
  | 0 => w
  | j + 1 => nu (cvj p a b i w j) (i + j) ((cvj p a b i w j (i + j) + a i * b j) % p)
def cvo (p : Nat) (a b : Nat → Nat) (n : Nat) : Nat → Nat → Nat
  | 0 => fun _ => 0
  | i + 1 => cvj p a b i (cvo p a b n i) n
theorem cvj_lt {p : Nat} (hp : 0 < p) {a b w : Nat → Nat} {i : Nat} (hw : ∀ k, w k < p) : ∀ j k, cvj p a b i w j k < p
  | 0, k => hw k
  | j + 1, k => by
    show nu (cvj p a b i w j) (i + j) _ k < p
    unfold nu
    split
    · exact Nat.mod_lt _ hp
    · exact cvj_lt hp hw j k
theorem cvo_lt {p : Nat} (hp : 0 < p) {a b : Nat → Nat} {n : Nat} : ∀ i k, cvo p a b n i k < p
  | 0, _ => hp
  | i + 1, k => cvj_lt hp (cvo_lt hp i) n k
abbrev rmp : Room := { frames := 2, cells := 0, slots := 0, locals := 60 }

set_option maxRecDepth 100000 in
set_option maxHeartbeats 4000000 in
theorem m_product (l : Launch) {D : va_G} {tys : List (ClassId × FieldType)} {N : Nat} {ad : Nat → Nat} {ct : Nat → va_E} (hN : 26 ≤ N) {cJ : ClassId} {th : Int32} {p g : Nat} {c wd : Nat → Nat} (e20 : ct 20 = obM th p g ad) (ec : ct 21 = LN cJ 3072 c) (ew : ct 22 = LN cJ 1440 wd) (ht : tys[0]? = some (cJ, .long)) (hp1 : 512 < p) (hp2 : p < 2 ^ 31) (hc : ∀ k, k < 3072 → c k < p) (hw : ∀ k, k < 1440 → wd k < 2 ^ 32) {wk : Nat → Nat} (ek : ct 23 = LN cJ 512 wk) (x y z : Int32) :
    gMi l yX1_product wsX1_product rmp D vwCl tys N ad [.ref (ad 20), .int x, .int y, .int z] ct (fun r ct1 => (¬ (ir x 6 ∧ ir y 6 ∧ ir z 6) ∧ ct1 = va_up ct 20 (obM (nI 1) p g ad)) ∨ (∃ t i j, t < 6 ∧ i < 6 ∧ j < 6 ∧ x = nI t ∧ y = nI i ∧ z = nI j ∧ ((up1 (fun k => c (512 * i + k)) 512 ≠ 0 ∧ up1 (fun k => c (512 * j + k)) 512 ≠ 0 ∧ 512 < up1 (fun k => c (512 * i + k)) 512 + up1 (fun k => c (512 * j + k)) 512 - 1 ∧ ct1 = va_up ct 20 (obM (nI 2) p g ad)) ∨ ((up1 (fun k => c (512 * i + k)) 512 = 0 ∨ up1 (fun k => c (512 * j + k)) 512 = 0 ∨ up1 (fun k => c (512 * i + k)) 512 + up1 (fun k => c (512 * j + k)) 512 - 1 ≤ 512) ∧ r = nI (up1 (cvo p (fun k => c (512 * i + k)) (fun k => c (512 * j + k)) (up1 (fun k => c (512 * j + k)) 512) (up1 (fun k => c (512 * i + k)) 512)) 512) ∧ ct1 = va_up (va_up (va_up ct 20 (obM (nI 0) p g ad)) 23 (LN cJ 512 (cvo p (fun k => c (512 * i + k)) (fun k => c (512 * j + k)) (up1 (fun k => c (512 * j + k)) 512) (up1 (fun k => c (512 * i + k)) 512)))) 21 (LN cJ 3072 (fr 512 t 512 (cvo p (fun k => c (512 * i + k)) (fun k => c (512 * j + k)) (up1 (fun k => c (512 * j + k)) 512) (up1 (fun k => c (512 * i + k)) 512)) c)))))) := by
  refine gof_i (cc := cX1_product) (maxL := 9) (by decide) rfl (Nat.le_of_ble_eq_true rfl) ?_
  intro M sz C hlM hRM hr hsz
  have h20 : 20 < N := by omega
  have h21 : 21 < N := by omega
  have h22 : 22 < N := by omega
  have h23 : 23 < N := by omega
  have hc63 : ∀ k, k < 3072 → c k < 2 ^ 63 := fun k hk => Nat.lt_trans (hc k hk) (by omega)
  have hgood : ∀ (t i j : Nat), t < 6 → i < 6 → j < 6 → x = nI t → y = nI i → z = nI j → (up1 (fun k => c (512 * i + k)) 512 = 0 ∨ up1 (fun k => c (512 * j + k)) 512 = 0 ∨ up1 (fun k => c (512 * i + k)) 512 + up1 (fun k => c (512 * j + k)) 512 - 1 ≤ 512) → ∀ lv : gLv, lvp lv [(0, some (.ref (ad 20))), (1, some (.int x)), (2, some (.int y)), (3, some (.int z)), (5, some (.int (nI (up1 (fun k => c (512 * i + k)) 512)))), (6, some (.int (nI (up1 (fun k => c (512 * j + k)) 512))))] → gW M D vwCl (ixA N ad sz) 9 0 0 (MQ (gb M) (va_Qi (fun r ct1 => (¬ (ir x 6 ∧ ir y 6 ∧ ir z 6) ∧ ct1 = va_up ct 20 (obM (nI 1) p g ad)) ∨ (∃ t i j, t < 6 ∧ i < 6 ∧ j < 6 ∧ x = nI t ∧ y = nI i ∧ z = nI j ∧ ((up1 (fun k => c (512 * i + k)) 512 ≠ 0 ∧ up1 (fun k => c (512 * j + k)) 512 ≠ 0 ∧ 512 < up1 (fun k => c (512 * i + k)) 512 + up1 (fun k => c (512 * j + k)) 512 - 1 ∧ ct1 = va_up ct 20 (obM (nI 2) p g ad)) ∨ ((up1 (fun k => c (512 * i + k)) 512 = 0 ∨ up1 (fun k => c (512 * j + k)) 512 = 0 ∨ up1 (fun k => c (512 * i + k)) 512 + up1 (fun k => c (512 * j + k)) 512 - 1 ≤ 512) ∧ r = nI (up1 (cvo p (fun k => c (512 * i + k)) (fun k => c (512 * j + k)) (up1 (fun k => c (512 * j + k)) 512) (up1 (fun k => c (512 * i + k)) 512)) 512) ∧ ct1 = va_up (va_up (va_up ct 20 (obM (nI 0) p g ad)) 23 (LN cJ 512 (cvo p (fun k => c (512 * i + k)) (fun k => c (512 * j + k)) (up1 (fun k => c (512 * j + k)) 512) (up1 (fun k => c (512 * i + k)) 512)))) 21 (LN cJ 3072 (fr 512 t 512 (cvo p (fun k => c (512 * i + k)) (fun k => c (512 * j + k)) (up1 (fun k => c (512 * j + k)) 512) (up1 (fun k => c (512 * i + k)) 512)) c)))))) (gB D vwCl tys N ad (ixA N ad sz)) (ixA N ad sz)) (ga M) (gs M) 0 0 (ixA N ad sz)) N ad 110 lv [] (va_up ct 20 (obM (nI 0) p g ad)) := by
    rintro t i j ht6 hi hj rfl rfl rfl hsz2 lv hlv
    refine g_l2 ?_ hlv
    have hml := up1_le (fun k => c (512 * i + k)) 512
    have hnl := up1_le (fun k => c (512 * j + k)) 512
    generalize hme : up1 (fun k => c (512 * i + k)) 512 = m at hml hsz2
    generalize hne : up1 (fun k => c (512 * j + k)) 512 = n at hnl hsz2
    have hva : ∀ k, k < 512 → c (512 * i + k) < p := fun k hk => hc _ (by omega)
    have hvb : ∀ k, k < 512 → c (512 * j + k) < p := fun k hk => hc _ (by omega)
    generalize hae : (fun k => c (512 * i + k)) = a at *
    generalize hbe : (fun k => c (512 * j + k)) = b at *
    have ha1 : ∀ k, c (512 * i + k) = a k := fun k => by rw [← hae]
    have hb1 : ∀ k, c (512 * j + k) = b k := fun k => by rw [← hbe]
    simp only [ha1, hb1] at hva hvb
    have loop3 : ∀ (d q : Nat), 512 = q + d → gW M D vwCl (ixA N ad sz) 9 0 0 (MQ (gb M) (va_Qi (fun r ct1 => (¬ (ir (nI t) 6 ∧ ir (nI i) 6 ∧ ir (nI j) 6) ∧ ct1 = va_up ct 20 (obM (nI 1) p g ad)) ∨ (∃ t_1 i_1 j_1, t_1 < 6 ∧ i_1 < 6 ∧ j_1 < 6 ∧ nI t = nI t_1 ∧ nI i = nI i_1 ∧ nI j = nI j_1 ∧ ((up1 (fun k => c (512 * i_1 + k)) 512 ≠ 0 ∧ up1 (fun k => c (512 * j_1 + k)) 512 ≠ 0 ∧ 512 < up1 (fun k => c (512 * i_1 + k)) 512 + up1 (fun k => c (512 * j_1 + k)) 512 - 1 ∧ ct1 = va_up ct 20 (obM (nI 2) p g ad)) ∨ ((up1 (fun k => c (512 * i_1 + k)) 512 = 0 ∨ up1 (fun k => c (512 * j_1 + k)) 512 = 0 ∨ up1 (fun k => c (512 * i_1 + k)) 512 + up1 (fun k => c (512 * j_1 + k)) 512 - 1 ≤ 512) ∧ r = nI (up1 (cvo p (fun k => c (512 * i_1 + k)) (fun k => c (512 * j_1 + k)) (up1 (fun k => c (512 * j_1 + k)) 512) (up1 (fun k => c (512 * i_1 + k)) 512)) 512) ∧ ct1 = va_up (va_up (va_up ct 20 (obM (nI 0) p g ad)) 23 (LN cJ 512 (cvo p (fun k => c (512 * i_1 + k)) (fun k => c (512 * j_1 + k)) (up1 (fun k => c (512 * j_1 + k)) 512) (up1 (fun k => c (512 * i_1 + k)) 512)))) 21 (LN cJ 3072 (fr 512 t_1 512 (cvo p (fun k => c (512 * i_1 + k)) (fun k => c (512 * j_1 + k)) (up1 (fun k => c (512 * j_1 + k)) 512) (up1 (fun k => c (512 * i_1 + k)) 512)) c)))))) (gB D vwCl tys N ad (ixA N ad sz)) (ixA N ad sz)) (ga M) (gs M) 0 0 (ixA N ad sz)) N ad 223 [(0, some (.ref (ad 20))), (1, some (.int (nI t))), (2, some (.int (nI i))), (3, some (.int (nI j))), (5, some (.int (nI m))), (6, some (.int (nI n))), (7, some (.int (nI q)))] [] (va_up (va_up (va_up ct 20 (obM (nI 0) p g ad)) 23 (LN cJ 512 (cvo p a b n m))) 21 (LN cJ 3072 (fr 512 t q (cvo p a b n m) c))) := by
      intro d
      induction d with
      | zero =>
        intro q hd
        have hq : q = 512 := by omega
        subst hq
        refine g_iload C dX1_product_223 (k := ?_)
        refine g_sipush C (nI 512) dX1_product_225 (k := ?_)
        refine g_icN_ge (tgt := 257) C (by decide) (by decide) dX1_product_228 (by decide) (fun _ => ?_) (fun h => absurd h (by decide))
        refine g_aload_n C dX1_product_257 (k := ?_)
        refine g_iload_n C dX1_product_258 (k := ?_)
        have hfrl : ∀ k, k < 3072 → fr 512 t 512 (cvo p a b n m) c k < 2 ^ 63 := fun k hk => by
          unfold fr
          split
          · exact Nat.lt_trans (cvo_lt (by omega) _ _) (by omega)
          · exact hc63 k hk
        refine g_cVi (n := 1) (av := [.int (nI t)]) C 20 h20 (by (repeat rw [va_up_ne _ _ (by decide)]); rw [va_up_self]) rfl (by rw [hlM]; exact m_lengthOf l hN (by (repeat rw [va_up_ne _ _ (by decide)]); rw [va_up_self]) (va_up_self _ _ _) ht ht6 hfrl) gX1_product_X1_lengthOf rfl ⟨rfl, rfl⟩ (by rw [hRM]; exact ⟨Nat.le_of_ble_eq_true rfl, Nat.le_of_ble_eq_true rfl⟩) (by rw [hRM]; exact ⟨Nat.le_of_ble_eq_true rfl, Nat.le_of_ble_eq_true rfl⟩) (Nat.le_of_ble_eq_true rfl) (by decide +kernel) rfl dX1_product_259 ?_
        rintro _ _ ⟨rfl, rfl⟩
        refine g_iret C hr (Or.inr ⟨t, i, j, ht6, hi, hj, rfl, rfl, rfl, Or.inr ?_⟩) dX1_product_262
        rw [hae, hbe, hme, hne]
        exact ⟨hsz2, by rw [up1_congr (fun k hk => fr_at 512 t 512 (cvo p a b n m) c hk)], rfl⟩
      | succ d ih =>
        intro q hd
        refine g_iload C dX1_product_223 (k := ?_)
        refine g_sipush C (nI 512) dX1_product_225 (k := ?_)
        refine g_icN_ge (tgt := 257) C (by omega) (by decide) dX1_product_228 (by decide) (fun h => absurd h (by omega)) (fun _ => ?_)
        refine g_aload_n C dX1_product_231 (k := ?_)
        refine g_getf (Cn := RX1) (T := TX1) (n := 8) (ref := "WheelProductsModel") C 20 3 h20 (by (repeat rw [va_up_ne _ _ (by decide)]); rw [va_up_self]) rfl (by decide +kernel) (by decide) (by decide +kernel) (fun _ h => h) rfl dX1_product_232 ?_
        refine g_sipush C (nI 512) dX1_product_235 (k := ?_)
        refine g_iload_n C dX1_product_238 (k := ?_)
        refine gN_imul C dX1_product_239 ?_
        refine g_iload C dX1_product_240 (k := ?_)
        refine gN_iadd C dX1_product_242 ?_
        refine g_aload_n C dX1_product_243 (k := ?_)
        refine g_getf (Cn := RX1) (T := TX1) (n := 8) (ref := "WheelProductsModel") C 20 5 h20 (by (repeat rw [va_up_ne _ _ (by decide)]); rw [va_up_self]) rfl (by decide +kernel) (by decide) (by decide +kernel) (fun _ h => h) rfl dX1_product_244 ?_
        refine g_iload C dX1_product_247 (k := ?_)
        refine gN_lald C 23 h23 (by rw [va_up_ne _ _ (by decide), va_up_self]) ht (by omega) (by decide) dX1_product_249 ?_
        refine gN_last C 21 h21 (va_up_self _ _ _) ht (by omega) (by decide) dX1_product_250 ?_
        rw [bx_uu, fr_s]
        refine gN_inc C dX1_product_251 (k := ?_)
        refine g_goto (tgt := 223) C dX1_product_254 (k := ?_)
        exact g_l2 (ih (q + 1) (by omega)) ⟨Or.inr rfl, Or.inr rfl, Or.inr rfl, Or.inr rfl, Or.inr rfl, Or.inr rfl, Or.inr rfl, trivial⟩
    have loop2 : ∀ (d q : Nat), m = q + d → gW M D vwCl (ixA N ad sz) 9 0 0 (MQ (gb M) (va_Qi (fun r ct1 => (¬ (ir (nI t) 6 ∧ ir (nI i) 6 ∧ ir (nI j) 6) ∧ ct1 = va_up ct 20 (obM (nI 1) p g ad)) ∨ (∃ t_1 i_1 j_1, t_1 < 6 ∧ i_1 < 6 ∧ j_1 < 6 ∧ nI t = nI t_1 ∧ nI i = nI i_1 ∧ nI j = nI j_1 ∧ ((up1 (fun k => c (512 * i_1 + k)) 512 ≠ 0 ∧ up1 (fun k => c (512 * j_1 + k)) 512 ≠ 0 ∧ 512 < up1 (fun k => c (512 * i_1 + k)) 512 + up1 (fun k => c (512 * j_1 + k)) 512 - 1 ∧ ct1 = va_up ct 20 (obM (nI 2) p g ad)) ∨ ((up1 (fun k => c (512 * i_1 + k)) 512 = 0 ∨ up1 (fun k => c (512 * j_1 + k)) 512 = 0 ∨ up1 (fun k => c (512 * i_1 + k)) 512 + up1 (fun k => c (512 * j_1 + k)) 512 - 1 ≤ 512) ∧ r = nI (up1 (cvo p (fun k => c (512 * i_1 + k)) (fun k => c (512 * j_1 + k)) (up1 (fun k => c (512 * j_1 + k)) 512) (up1 (fun k => c (512 * i_1 + k)) 512)) 512) ∧ ct1 = va_up (va_up (va_up ct 20 (obM (nI 0) p g ad)) 23 (LN cJ 512 (cvo p (fun k => c (512 * i_1 + k)) (fun k => c (512 * j_1 + k)) (up1 (fun k => c (512 * j_1 + k)) 512) (up1 (fun k => c (512 * i_1 + k)) 512)))) 21 (LN cJ 3072 (fr 512 t_1 512 (cvo p (fun k => c (512 * i_1 + k)) (fun k => c (512 * j_1 + k)) (up1 (fun k => c (512 * j_1 + k)) 512) (up1 (fun k => c (512 * i_1 + k)) 512)) c)))))) (gB D vwCl tys N ad (ixA N ad sz)) (ixA N ad sz)) (ga M) (gs M) 0 0 (ixA N ad sz)) N ad 138 [(0, some (.ref (ad 20))), (1, some (.int (nI t))), (2, some (.int (nI i))), (3, some (.int (nI j))), (5, some (.int (nI m))), (6, some (.int (nI n))), (7, some (.int (nI q)))] [] (va_up (va_up ct 20 (obM (nI 0) p g ad)) 23 (LN cJ 512 (cvo p a b n q))) := by
      intro d
      induction d with
      | zero =>
        intro q hd
        have hq : q = m := by omega
        subst hq
        refine g_iload C dX1_product_138 (k := ?_)
        refine g_iload C dX1_product_140 (k := ?_)
        refine g_icN_ge (tgt := 220) C (by omega) (by omega) dX1_product_142 (by decide) (fun _ => ?_) (fun h => absurd h (by omega))
        refine g_iconst C (nI 0) dX1_product_220 (k := ?_)
        refine g_istore C dX1_product_221 (k := ?_)
        have h9 := loop3 512 0 (by omega)
        rw [fr_0, up_id (q := 21) (e := LN cJ 3072 c) (by (repeat rw [va_up_ne _ _ (by decide)]); exact ec)] at h9
        exact g_l2 h9 ⟨Or.inr rfl, Or.inr rfl, Or.inr rfl, Or.inr rfl, Or.inr rfl, Or.inr rfl, Or.inr rfl, trivial⟩
      | succ d ih =>
        intro q hd
        have ih2 := ih (q + 1) (by omega)
        rw [cvo] at ih2
        have hwl := cvo_lt (p := p) (a := a) (b := b) (n := n) (by omega) q
        generalize cvo p a b n q = W at ih2 hwl ⊢
        have inner : ∀ (e r : Nat), n = r + e → gW M D vwCl (ixA N ad sz) 9 0 0 (MQ (gb M) (va_Qi (fun r ct1 => (¬ (ir (nI t) 6 ∧ ir (nI i) 6 ∧ ir (nI j) 6) ∧ ct1 = va_up ct 20 (obM (nI 1) p g ad)) ∨ (∃ t_1 i_1 j_1, t_1 < 6 ∧ i_1 < 6 ∧ j_1 < 6 ∧ nI t = nI t_1 ∧ nI i = nI i_1 ∧ nI j = nI j_1 ∧ ((up1 (fun k => c (512 * i_1 + k)) 512 ≠ 0 ∧ up1 (fun k => c (512 * j_1 + k)) 512 ≠ 0 ∧ 512 < up1 (fun k => c (512 * i_1 + k)) 512 + up1 (fun k => c (512 * j_1 + k)) 512 - 1 ∧ ct1 = va_up ct 20 (obM (nI 2) p g ad)) ∨ ((up1 (fun k => c (512 * i_1 + k)) 512 = 0 ∨ up1 (fun k => c (512 * j_1 + k)) 512 = 0 ∨ up1 (fun k => c (512 * i_1 + k)) 512 + up1 (fun k => c (512 * j_1 + k)) 512 - 1 ≤ 512) ∧ r = nI (up1 (cvo p (fun k => c (512 * i_1 + k)) (fun k => c (512 * j_1 + k)) (up1 (fun k => c (512 * j_1 + k)) 512) (up1 (fun k => c (512 * i_1 + k)) 512)) 512) ∧ ct1 = va_up (va_up (va_up ct 20 (obM (nI 0) p g ad)) 23 (LN cJ 512 (cvo p (fun k => c (512 * i_1 + k)) (fun k => c (512 * j_1 + k)) (up1 (fun k => c (512 * j_1 + k)) 512) (up1 (fun k => c (512 * i_1 + k)) 512)))) 21 (LN cJ 3072 (fr 512 t_1 512 (cvo p (fun k => c (512 * i_1 + k)) (fun k => c (512 * j_1 + k)) (up1 (fun k => c (512 * j_1 + k)) 512) (up1 (fun k => c (512 * i_1 + k)) 512)) c)))))) (gB D vwCl tys N ad (ixA N ad sz)) (ixA N ad sz)) (ga M) (gs M) 0 0 (ixA N ad sz)) N ad 148 [(0, some (.ref (ad 20))), (1, some (.int (nI t))), (2, some (.int (nI i))), (3, some (.int (nI j))), (5, some (.int (nI m))), (6, some (.int (nI n))), (7, some (.int (nI q))), (8, some (.int (nI r)))] [] (va_up (va_up ct 20 (obM (nI 0) p g ad)) 23 (LN cJ 512 (cvj p a b q W r))) := by
          intro e
          induction e with
          | zero =>
            intro r hr2
            have hrn : r = n := by omega
            subst hrn
            refine g_iload C dX1_product_148 (k := ?_)
            refine g_iload C dX1_product_150 (k := ?_)
            refine g_icN_ge (tgt := 214) C (by omega) (by omega) dX1_product_152 (by decide) (fun _ => ?_) (fun h => absurd h (by omega))
            refine gN_inc C dX1_product_214 (k := ?_)
            refine g_goto (tgt := 138) C dX1_product_217 (k := ?_)
            exact g_l2 ih2 ⟨Or.inr rfl, Or.inr rfl, Or.inr rfl, Or.inr rfl, Or.inr rfl, Or.inr rfl, Or.inr rfl, trivial⟩
          | succ e ihe =>
            intro r hr2
            have hqa := hva q (by omega)
            have hrb := hvb r (by omega)
            have hwr := cvj_lt (p := p) (a := a) (b := b) (i := q) (by omega) hwl r (q + r)
            have hmul : a q * b r < 2 ^ 62 := Nat.lt_of_lt_of_le (Nat.mul_lt_mul'' (Nat.lt_trans hqa hp2) (Nat.lt_trans hrb hp2)) (by decide)
            have hqr : q + r < 512 := by
              rcases hsz2 with h | h | h <;> omega
            refine g_iload C dX1_product_148 (k := ?_)
            refine g_iload C dX1_product_150 (k := ?_)
            refine g_icN_ge (tgt := 214) C (by omega) (by omega) dX1_product_152 (by decide) (fun h => absurd h (by omega)) (fun _ => ?_)
            refine g_aload_n C dX1_product_155 (k := ?_)
            refine g_getf (Cn := RX1) (T := TX1) (n := 8) (ref := "WheelProductsModel") C 20 5 h20 (by (repeat rw [va_up_ne _ _ (by decide)]); rw [va_up_self]) rfl (by decide +kernel) (by decide) (by decide +kernel) (fun _ h => h) rfl dX1_product_156 ?_
            refine g_iload C dX1_product_159 (k := ?_)
            refine g_iload C dX1_product_161 (k := ?_)
            refine gN_iadd C dX1_product_163 ?_
            refine g_aload_n C dX1_product_164 (k := ?_)
            refine g_getf (Cn := RX1) (T := TX1) (n := 8) (ref := "WheelProductsModel") C 20 5 h20 (by (repeat rw [va_up_ne _ _ (by decide)]); rw [va_up_self]) rfl (by decide +kernel) (by decide) (by decide +kernel) (fun _ h => h) rfl dX1_product_165 ?_
            refine g_iload C dX1_product_168 (k := ?_)
            refine g_iload C dX1_product_170 (k := ?_)
            refine gN_iadd C dX1_product_172 ?_
            refine gN_lald C 23 h23 (va_up_self _ _ _) ht hqr (by decide) dX1_product_173 ?_
            refine g_aload_n C dX1_product_174 (k := ?_)
            refine g_getf (Cn := RX1) (T := TX1) (n := 8) (ref := "WheelProductsModel") C 20 3 h20 (by (repeat rw [va_up_ne _ _ (by decide)]); rw [va_up_self]) rfl (by decide +kernel) (by decide) (by decide +kernel) (fun _ h => h) rfl dX1_product_175 ?_
            refine g_sipush C (nI 512) dX1_product_178 (k := ?_)
            refine g_iload_n C dX1_product_181 (k := ?_)
            refine gN_imul C dX1_product_182 ?_
            refine g_iload C dX1_product_183 (k := ?_)
            refine gN_iadd C dX1_product_185 ?_
            refine gN_lald C 21 h21 (by (repeat rw [va_up_ne _ _ (by decide)]); exact ec) ht (by omega) (by decide) dX1_product_186 ?_
            rw [ha1 q]
            refine g_aload_n C dX1_product_187 (k := ?_)
            refine g_getf (Cn := RX1) (T := TX1) (n := 8) (ref := "WheelProductsModel") C 20 3 h20 (by (repeat rw [va_up_ne _ _ (by decide)]); rw [va_up_self]) rfl (by decide +kernel) (by decide) (by decide +kernel) (fun _ h => h) rfl dX1_product_188 ?_
            refine g_sipush C (nI 512) dX1_product_191 (k := ?_)
            refine g_iload_n C dX1_product_194 (k := ?_)
            refine gN_imul C dX1_product_195 ?_
            refine g_iload C dX1_product_196 (k := ?_)
            refine gN_iadd C dX1_product_198 ?_
            refine gN_lald C 21 h21 (by (repeat rw [va_up_ne _ _ (by decide)]); exact ec) ht (by omega) (by decide) dX1_product_199 ?_
            rw [hb1 r]
            refine gN_lmul C dX1_product_200 ?_
            refine gN_ladd C dX1_product_201 ?_
            refine g_aload_n C dX1_product_202 (k := ?_)
            refine g_getf (Cn := RX1) (T := TX1) (n := 8) (ref := "WheelProductsModel") C 20 1 h20 (by (repeat rw [va_up_ne _ _ (by decide)]); rw [va_up_self]) rfl (by decide +kernel) (by decide) (by decide +kernel) (fun _ h => h) rfl dX1_product_203 ?_
            refine gN_lrem C (by omega) (by omega) (by omega) dX1_product_206 ?_
            refine gN_last C 23 h23 (va_up_self _ _ _) ht hqr (by decide) dX1_product_207 ?_
            rw [bx_uu]
            refine gN_inc C dX1_product_208 (k := ?_)
            refine g_goto (tgt := 148) C dX1_product_211 (k := ?_)
            exact g_l2 (ihe (r + 1) (by omega)) ⟨Or.inr rfl, Or.inr rfl, Or.inr rfl, Or.inr rfl, Or.inr rfl, Or.inr rfl, Or.inr rfl, Or.inr rfl, trivial⟩
        refine g_iload C dX1_product_138 (k := ?_)
        refine g_iload C dX1_product_140 (k := ?_)
        refine g_icN_ge (tgt := 220) C (by omega) (by omega) dX1_product_142 (by decide) (fun h => absurd h (by omega)) (fun _ => ?_)
        refine g_iconst C (nI 0) dX1_product_145 (k := ?_)
        refine g_istore C dX1_product_146 (k := ?_)
        exact g_l2 (inner n 0 (by omega)) ⟨Or.inr rfl, Or.inr rfl, Or.inr rfl, Or.inr rfl, Or.inr rfl, Or.inr rfl, Or.inr rfl, Or.inr rfl, trivial⟩
    have loop1 : ∀ (d q : Nat), 512 = q + d → gW M D vwCl (ixA N ad sz) 9 0 0 (MQ (gb M) (va_Qi (fun r ct1 => (¬ (ir (nI t) 6 ∧ ir (nI i) 6 ∧ ir (nI j) 6) ∧ ct1 = va_up ct 20 (obM (nI 1) p g ad)) ∨ (∃ t_1 i_1 j_1, t_1 < 6 ∧ i_1 < 6 ∧ j_1 < 6 ∧ nI t = nI t_1 ∧ nI i = nI i_1 ∧ nI j = nI j_1 ∧ ((up1 (fun k => c (512 * i_1 + k)) 512 ≠ 0 ∧ up1 (fun k => c (512 * j_1 + k)) 512 ≠ 0 ∧ 512 < up1 (fun k => c (512 * i_1 + k)) 512 + up1 (fun k => c (512 * j_1 + k)) 512 - 1 ∧ ct1 = va_up ct 20 (obM (nI 2) p g ad)) ∨ ((up1 (fun k => c (512 * i_1 + k)) 512 = 0 ∨ up1 (fun k => c (512 * j_1 + k)) 512 = 0 ∨ up1 (fun k => c (512 * i_1 + k)) 512 + up1 (fun k => c (512 * j_1 + k)) 512 - 1 ≤ 512) ∧ r = nI (up1 (cvo p (fun k => c (512 * i_1 + k)) (fun k => c (512 * j_1 + k)) (up1 (fun k => c (512 * j_1 + k)) 512) (up1 (fun k => c (512 * i_1 + k)) 512)) 512) ∧ ct1 = va_up (va_up (va_up ct 20 (obM (nI 0) p g ad)) 23 (LN cJ 512 (cvo p (fun k => c (512 * i_1 + k)) (fun k => c (512 * j_1 + k)) (up1 (fun k => c (512 * j_1 + k)) 512) (up1 (fun k => c (512 * i_1 + k)) 512)))) 21 (LN cJ 3072 (fr 512 t_1 512 (cvo p (fun k => c (512 * i_1 + k)) (fun k => c (512 * j_1 + k)) (up1 (fun k => c (512 * j_1 + k)) 512) (up1 (fun k => c (512 * i_1 + k)) 512)) c)))))) (gB D vwCl tys N ad (ixA N ad sz)) (ixA N ad sz)) (ga M) (gs M) 0 0 (ixA N ad sz)) N ad 113 [(0, some (.ref (ad 20))), (1, some (.int (nI t))), (2, some (.int (nI i))), (3, some (.int (nI j))), (5, some (.int (nI m))), (6, some (.int (nI n))), (7, some (.int (nI q)))] [] (va_up (va_up ct 20 (obM (nI 0) p g ad)) 23 (LN cJ 512 (fun k => if k < q then 0 else wk k))) := by
      intro d
      induction d with
      | zero =>
        intro q hd
        have hq : q = 512 := by omega
        subst hq
        refine g_iload C dX1_product_113 (k := ?_)
        refine g_sipush C (nI 512) dX1_product_115 (k := ?_)
        refine g_icN_ge (tgt := 135) C (by decide) (by decide) dX1_product_118 (by decide) (fun _ => ?_) (fun h => absurd h (by decide))
        refine g_ext 23 (va_up_self _ _ _) (g := fun k => lN ((fun _ => 0) k)) (fun k hk => by show lN (if k < 512 then 0 else wk k) = _; rw [if_pos hk]) ?_
        rw [bx_uu]
        refine g_iconst C (nI 0) dX1_product_135 (k := ?_)
        refine g_istore C dX1_product_136 (k := ?_)
        exact g_l2 (loop2 m 0 (by omega)) ⟨Or.inr rfl, Or.inr rfl, Or.inr rfl, Or.inr rfl, Or.inr rfl, Or.inr rfl, Or.inr rfl, trivial⟩
      | succ d ih =>
        intro q hd
        refine g_iload C dX1_product_113 (k := ?_)
        refine g_sipush C (nI 512) dX1_product_115 (k := ?_)
        refine g_icN_ge (tgt := 135) C (by omega) (by decide) dX1_product_118 (by decide) (fun h => absurd h (by omega)) (fun _ => ?_)
        refine g_aload_n C dX1_product_121 (k := ?_)
        refine g_getf (Cn := RX1) (T := TX1) (n := 8) (ref := "WheelProductsModel") C 20 5 h20 (by (repeat rw [va_up_ne _ _ (by decide)]); rw [va_up_self]) rfl (by decide +kernel) (by decide) (by decide +kernel) (fun _ h => h) rfl dX1_product_122 ?_
        refine g_iload C dX1_product_125 (k := ?_)
        refine g_lconst C (lN 0) dX1_product_127 (k := ?_)
        refine gN_last C 23 h23 (va_up_self _ _ _) ht (by omega) (by decide) dX1_product_128 ?_
        refine gN_inc C dX1_product_129 (k := ?_)
        refine g_goto (tgt := 113) C dX1_product_132 (k := ?_)
        have e9 : nu (fun k => if k < q then 0 else wk k) q 0 = fun k => if k < q + 1 then 0 else wk k := by
          funext k
          unfold nu
          by_cases h1 : k = q
          · rw [if_pos h1, if_pos (by omega)]
          · rw [if_neg h1]
            show (if k < q then 0 else wk k) = _
            by_cases h2 : k < q
            · rw [if_pos h2, if_pos (by omega)]
            · rw [if_neg h2, if_neg (by omega)]
        rw [bx_uu, e9]
        exact g_l2 (ih (q + 1) (by omega)) ⟨Or.inr rfl, Or.inr rfl, Or.inr rfl, Or.inr rfl, Or.inr rfl, Or.inr rfl, Or.inr rfl, trivial⟩
    refine g_iconst C (nI 0) dX1_product_110 (k := ?_)
    refine g_istore C dX1_product_111 (k := ?_)
    have h8 := loop1 512 0 (by omega)
    have e8 : (fun k => if k < 0 then 0 else wk k) = wk := funext fun k => if_neg (by omega)
    rw [e8, up_id (q := 23) (e := LN cJ 512 wk) (by rw [va_up_ne _ _ (by decide)]; exact ek)] at h8
    exact g_l2 h8 ⟨Or.inr rfl, Or.inr rfl, Or.inr rfl, Or.inr rfl, Or.inr rfl, Or.inr rfl, Or.inr rfl, trivial⟩
  have hgo : ∀ f : Nat, ((f = 1 ∧ ir x 6 ∧ ir y 6 ∧ ir z 6) ∨ (f = 0 ∧ ¬ (ir x 6 ∧ ir y 6 ∧ ir z 6))) → gW M D vwCl (ixA N ad sz) 9 0 0 (MQ (gb M) (va_Qi (fun r ct1 => (¬ (ir x 6 ∧ ir y 6 ∧ ir z 6) ∧ ct1 = va_up ct 20 (obM (nI 1) p g ad)) ∨ (∃ t i j, t < 6 ∧ i < 6 ∧ j < 6 ∧ x = nI t ∧ y = nI i ∧ z = nI j ∧ ((up1 (fun k => c (512 * i + k)) 512 ≠ 0 ∧ up1 (fun k => c (512 * j + k)) 512 ≠ 0 ∧ 512 < up1 (fun k => c (512 * i + k)) 512 + up1 (fun k => c (512 * j + k)) 512 - 1 ∧ ct1 = va_up ct 20 (obM (nI 2) p g ad)) ∨ ((up1 (fun k => c (512 * i + k)) 512 = 0 ∨ up1 (fun k => c (512 * j + k)) 512 = 0 ∨ up1 (fun k => c (512 * i + k)) 512 + up1 (fun k => c (512 * j + k)) 512 - 1 ≤ 512) ∧ r = nI (up1 (cvo p (fun k => c (512 * i + k)) (fun k => c (512 * j + k)) (up1 (fun k => c (512 * j + k)) 512) (up1 (fun k => c (512 * i + k)) 512)) 512) ∧ ct1 = va_up (va_up (va_up ct 20 (obM (nI 0) p g ad)) 23 (LN cJ 512 (cvo p (fun k => c (512 * i + k)) (fun k => c (512 * j + k)) (up1 (fun k => c (512 * j + k)) 512) (up1 (fun k => c (512 * i + k)) 512)))) 21 (LN cJ 3072 (fr 512 t 512 (cvo p (fun k => c (512 * i + k)) (fun k => c (512 * j + k)) (up1 (fun k => c (512 * j + k)) 512) (up1 (fun k => c (512 * i + k)) 512)) c)))))) (gB D vwCl tys N ad (ixA N ad sz)) (ixA N ad sz)) (ga M) (gs M) 0 0 (ixA N ad sz)) N ad 26 (lva 0 [.ref (ad 20), .int x, .int y, .int z]) [.int (nI f)] ct := by
    intro f hf
    refine g_istore C dX1_product_26 (k := ?_)
    refine g_iload C dX1_product_28 (k := ?_)
    rcases hf with ⟨rfl, ⟨t, ht6, hxt⟩, ⟨i, hi, hyi⟩, ⟨j, hj, hzj⟩⟩ | ⟨rfl, hno⟩
    · subst hxt hyi hzj
      refine g_ifN_eq (tgt := 41) C (by decide) dX1_product_30 (by decide) (fun h => absurd h (by decide)) (fun _ => ?_)
      refine g_aload_n C dX1_product_33 (k := ?_)
      refine g_iload_n C dX1_product_34 (k := ?_)
      refine g_cVi (n := 1) (av := [.int (nI i)]) C 20 h20 e20 rfl (by rw [hlM]; exact m_lengthOf l hN e20 ec ht hi hc63) gX1_product_X1_lengthOf rfl ⟨rfl, rfl⟩ (by rw [hRM]; exact ⟨Nat.le_of_ble_eq_true rfl, Nat.le_of_ble_eq_true rfl⟩) (by rw [hRM]; exact ⟨Nat.le_of_ble_eq_true rfl, Nat.le_of_ble_eq_true rfl⟩) (Nat.le_of_ble_eq_true rfl) (by decide +kernel) rfl dX1_product_35 ?_
      rintro _ ct ⟨rfl, rfl⟩
      refine g_goto (tgt := 42) C dX1_product_38 (k := ?_)
      refine g_istore C dX1_product_42 (k := ?_)
      refine g_iload C dX1_product_44 (k := ?_)
      refine g_ifN_eq (tgt := 57) C (by decide) dX1_product_46 (by decide) (fun h => absurd h (by decide)) (fun _ => ?_)
      refine g_aload_n C dX1_product_49 (k := ?_)
      refine g_iload_n C dX1_product_50 (k := ?_)
      refine g_cVi (n := 1) (av := [.int (nI j)]) C 20 h20 e20 rfl (by rw [hlM]; exact m_lengthOf l hN e20 ec ht hj hc63) gX1_product_X1_lengthOf rfl ⟨rfl, rfl⟩ (by rw [hRM]; exact ⟨Nat.le_of_ble_eq_true rfl, Nat.le_of_ble_eq_true rfl⟩) (by rw [hRM]; exact ⟨Nat.le_of_ble_eq_true rfl, Nat.le_of_ble_eq_true rfl⟩) (Nat.le_of_ble_eq_true rfl) (by decide +kernel) rfl dX1_product_51 ?_
      rintro _ ct ⟨rfl, rfl⟩
      have hml := up1_le (fun k => c (512 * i + k)) 512
      have hnl := up1_le (fun k => c (512 * j + k)) 512
      refine g_goto (tgt := 58) C dX1_product_54 (k := ?_)
      refine g_istore C dX1_product_58 (k := ?_)
      refine g_aload_n C dX1_product_60 (k := ?_)
      refine g_iload C dX1_product_61 (k := ?_)
      refine g_ifN_ne (tgt := 70) C (by decide) dX1_product_63 (by decide) (fun _ => ?_) (fun h => absurd h (by decide))
      refine g_iload C dX1_product_70 (k := ?_)
      by_cases hz1 : up1 (fun k => c (512 * i + k)) 512 = 0
      · refine g_ifN_le (tgt := 97) C (by omega) dX1_product_72 (by decide) (fun _ => ?_) (fun h => absurd h (by omega))
        refine g_iconst C (nI 0) dX1_product_97 (k := ?_)
        refine g_putf (Cn := RX1) (T := TX1) (n := 8) (ref := "WheelProductsModel") (ty := .int) C 20 0 h20 e20 rfl (by decide +kernel) tyX1 tyX1_ok nmX1 (by decide) (by decide +kernel) (fun _ h => h) rfl (by decide +kernel) rfl rfl (Nat.le_of_ble_eq_true rfl) dX1_product_98 ?_
        refine g_ct (ct' := va_up (ct) 20 (obM (nI 0) p g ad)) rfl ?_
        refine g_aload_n C dX1_product_101 (k := ?_)
        refine g_getf (Cn := RX1) (T := TX1) (n := 8) (ref := "WheelProductsModel") C 20 0 h20 (va_up_self _ _ _) rfl (by decide +kernel) (by decide) (by decide +kernel) (fun _ h => h) rfl dX1_product_102 ?_
        refine g_ifN_le (tgt := 110) C (by decide) dX1_product_105 (by decide) (fun _ => ?_) (fun h => absurd h (by decide))
        exact hgood t i j ht6 hi hj rfl rfl rfl (Or.inl hz1) _ ⟨Or.inr rfl, Or.inr rfl, Or.inr rfl, Or.inr rfl, Or.inr rfl, Or.inr rfl, trivial⟩
      · refine g_ifN_le (tgt := 97) C (by omega) dX1_product_72 (by decide) (fun h => absurd h (by omega)) (fun _ => ?_)
        refine g_iload C dX1_product_75 (k := ?_)
        by_cases hz2 : up1 (fun k => c (512 * j + k)) 512 = 0
        · refine g_ifN_le (tgt := 97) C (by omega) dX1_product_77 (by decide) (fun _ => ?_) (fun h => absurd h (by omega))
          refine g_iconst C (nI 0) dX1_product_97 (k := ?_)
          refine g_putf (Cn := RX1) (T := TX1) (n := 8) (ref := "WheelProductsModel") (ty := .int) C 20 0 h20 e20 rfl (by decide +kernel) tyX1 tyX1_ok nmX1 (by decide) (by decide +kernel) (fun _ h => h) rfl (by decide +kernel) rfl rfl (Nat.le_of_ble_eq_true rfl) dX1_product_98 ?_
          refine g_ct (ct' := va_up (ct) 20 (obM (nI 0) p g ad)) rfl ?_
          refine g_aload_n C dX1_product_101 (k := ?_)
          refine g_getf (Cn := RX1) (T := TX1) (n := 8) (ref := "WheelProductsModel") C 20 0 h20 (va_up_self _ _ _) rfl (by decide +kernel) (by decide) (by decide +kernel) (fun _ h => h) rfl dX1_product_102 ?_
          refine g_ifN_le (tgt := 110) C (by decide) dX1_product_105 (by decide) (fun _ => ?_) (fun h => absurd h (by decide))
          exact hgood t i j ht6 hi hj rfl rfl rfl (Or.inr (Or.inl hz2)) _ ⟨Or.inr rfl, Or.inr rfl, Or.inr rfl, Or.inr rfl, Or.inr rfl, Or.inr rfl, trivial⟩
        · refine g_ifN_le (tgt := 97) C (by omega) dX1_product_77 (by decide) (fun h => absurd h (by omega)) (fun _ => ?_)
          refine g_iload C dX1_product_80 (k := ?_)
          refine g_iload C dX1_product_82 (k := ?_)
          refine gN_iadd C dX1_product_84 ?_
          refine g_iconst C (nI 1) dX1_product_85 (k := ?_)
          refine gN_isub C (by omega) dX1_product_86 ?_
          refine g_sipush C (nI 512) dX1_product_87 (k := ?_)
          by_cases hbig : 512 < up1 (fun k => c (512 * i + k)) 512 + up1 (fun k => c (512 * j + k)) 512 - 1
          · refine g_icN_le (tgt := 97) C (by omega) (by decide) dX1_product_90 (by decide) (fun h => absurd h (by omega)) (fun _ => ?_)
            refine g_iconst C (nI 2) dX1_product_93 (k := ?_)
            refine g_goto (tgt := 98) C dX1_product_94 (k := ?_)
            refine g_putf (Cn := RX1) (T := TX1) (n := 8) (ref := "WheelProductsModel") (ty := .int) C 20 0 h20 e20 rfl (by decide +kernel) tyX1 tyX1_ok nmX1 (by decide) (by decide +kernel) (fun _ h => h) rfl (by decide +kernel) rfl rfl (Nat.le_of_ble_eq_true rfl) dX1_product_98 ?_
            refine g_ct (ct' := va_up (ct) 20 (obM (nI 2) p g ad)) rfl ?_
            refine g_aload_n C dX1_product_101 (k := ?_)
            refine g_getf (Cn := RX1) (T := TX1) (n := 8) (ref := "WheelProductsModel") C 20 0 h20 (va_up_self _ _ _) rfl (by decide +kernel) (by decide) (by decide +kernel) (fun _ h => h) rfl dX1_product_102 ?_
            refine g_ifN_le (tgt := 110) C (by decide) dX1_product_105 (by decide) (fun h => absurd h (by decide)) (fun _ => ?_)
            refine g_iconst C (nI 0) dX1_product_108 (k := ?_)
            exact g_iret C hr (Or.inr ⟨t, i, j, ht6, hi, hj, rfl, rfl, rfl, Or.inl ⟨hz1, hz2, hbig, rfl⟩⟩) dX1_product_109
          · refine g_icN_le (tgt := 97) C (by omega) (by decide) dX1_product_90 (by decide) (fun _ => ?_) (fun h => absurd h (by omega))
            refine g_iconst C (nI 0) dX1_product_97 (k := ?_)
            refine g_putf (Cn := RX1) (T := TX1) (n := 8) (ref := "WheelProductsModel") (ty := .int) C 20 0 h20 e20 rfl (by decide +kernel) tyX1 tyX1_ok nmX1 (by decide) (by decide +kernel) (fun _ h => h) rfl (by decide +kernel) rfl rfl (Nat.le_of_ble_eq_true rfl) dX1_product_98 ?_
            refine g_ct (ct' := va_up (ct) 20 (obM (nI 0) p g ad)) rfl ?_
            refine g_aload_n C dX1_product_101 (k := ?_)
            refine g_getf (Cn := RX1) (T := TX1) (n := 8) (ref := "WheelProductsModel") C 20 0 h20 (va_up_self _ _ _) rfl (by decide +kernel) (by decide) (by decide +kernel) (fun _ h => h) rfl dX1_product_102 ?_
            refine g_ifN_le (tgt := 110) C (by decide) dX1_product_105 (by decide) (fun _ => ?_) (fun h => absurd h (by decide))
            exact hgood t i j ht6 hi hj rfl rfl rfl (Or.inr (Or.inr (by omega))) _ ⟨Or.inr rfl, Or.inr rfl, Or.inr rfl, Or.inr rfl, Or.inr rfl, Or.inr rfl, trivial⟩
    · refine g_ifN_eq (tgt := 41) C (by decide) dX1_product_30 (by decide) (fun _ => ?_) (fun h => absurd rfl h)
      refine g_iconst C (nI 0) dX1_product_41 (k := ?_)
      refine g_istore C dX1_product_42 (k := ?_)
      refine g_iload C dX1_product_44 (k := ?_)
      refine g_ifN_eq (tgt := 57) C (by decide) dX1_product_46 (by decide) (fun _ => ?_) (fun h => absurd rfl h)
      refine g_iconst C (nI 0) dX1_product_57 (k := ?_)
      refine g_istore C dX1_product_58 (k := ?_)
      refine g_aload_n C dX1_product_60 (k := ?_)
      refine g_iload C dX1_product_61 (k := ?_)
      refine g_ifN_ne (tgt := 70) C (by decide) dX1_product_63 (by decide) (fun h => absurd rfl h) (fun _ => ?_)
      refine g_iconst C (nI 1) dX1_product_66 (k := ?_)
      refine g_goto (tgt := 98) C dX1_product_67 (k := ?_)
      refine g_putf (Cn := RX1) (T := TX1) (n := 8) (ref := "WheelProductsModel") (ty := .int) C 20 0 h20 e20 rfl (by decide +kernel) tyX1 tyX1_ok nmX1 (by decide) (by decide +kernel) (fun _ h => h) rfl (by decide +kernel) rfl rfl (Nat.le_of_ble_eq_true rfl) dX1_product_98 ?_
      refine g_ct (ct' := va_up (ct) 20 (obM (nI 1) p g ad)) rfl ?_
      refine g_aload_n C dX1_product_101 (k := ?_)
      refine g_getf (Cn := RX1) (T := TX1) (n := 8) (ref := "WheelProductsModel") C 20 0 h20 (va_up_self _ _ _) rfl (by decide +kernel) (by decide) (by decide +kernel) (fun _ h => h) rfl dX1_product_102 ?_
      refine g_ifN_le (tgt := 110) C (by decide) dX1_product_105 (by decide) (fun h => absurd h (by decide)) (fun _ => ?_)
      refine g_iconst C (nI 0) dX1_product_108 (k := ?_)
      exact g_iret C hr (Or.inl ⟨hno, rfl⟩) dX1_product_109
  refine g_iload_n C dX1_product_0 (k := ?_)
  refine g_cSi (n := 1) (av := [.int x]) C (by rw [hlM]; exact m_isRow l x) gX1_product_X1_isRow rfl ⟨rfl, rfl⟩ (by rw [hRM]; exact ⟨Nat.le_of_ble_eq_true rfl, Nat.le_of_ble_eq_true rfl⟩) (by rw [hRM]; exact ⟨Nat.le_of_ble_eq_true rfl, Nat.le_of_ble_eq_true rfl⟩) (Nat.le_of_ble_eq_true rfl) (by decide +kernel) rfl dX1_product_1 ?_
  rintro _ ct ⟨h1, rfl⟩
  rcases h1 with ⟨rfl, h1⟩ | ⟨rfl, h1⟩
  · refine g_ifN_eq (tgt := 25) C (by decide) dX1_product_4 (by decide) (fun h => absurd h (by decide)) (fun _ => ?_)
    refine g_iload_n C dX1_product_7 (k := ?_)
    refine g_cSi (n := 1) (av := [.int y]) C (by rw [hlM]; exact m_isRow l y) gX1_product_X1_isRow rfl ⟨rfl, rfl⟩ (by rw [hRM]; exact ⟨Nat.le_of_ble_eq_true rfl, Nat.le_of_ble_eq_true rfl⟩) (by rw [hRM]; exact ⟨Nat.le_of_ble_eq_true rfl, Nat.le_of_ble_eq_true rfl⟩) (Nat.le_of_ble_eq_true rfl) (by decide +kernel) rfl dX1_product_8 ?_
    rintro _ ct ⟨h2, rfl⟩
    rcases h2 with ⟨rfl, h2⟩ | ⟨rfl, h2⟩
    · refine g_ifN_eq (tgt := 25) C (by decide) dX1_product_11 (by decide) (fun h => absurd h (by decide)) (fun _ => ?_)
      refine g_iload_n C dX1_product_14 (k := ?_)
      refine g_cSi (n := 1) (av := [.int z]) C (by rw [hlM]; exact m_isRow l z) gX1_product_X1_isRow rfl ⟨rfl, rfl⟩ (by rw [hRM]; exact ⟨Nat.le_of_ble_eq_true rfl, Nat.le_of_ble_eq_true rfl⟩) (by rw [hRM]; exact ⟨Nat.le_of_ble_eq_true rfl, Nat.le_of_ble_eq_true rfl⟩) (Nat.le_of_ble_eq_true rfl) (by decide +kernel) rfl dX1_product_15 ?_
      rintro _ ct ⟨h3, rfl⟩
      rcases h3 with ⟨rfl, h3⟩ | ⟨rfl, h3⟩
      · refine g_ifN_eq (tgt := 25) C (by decide) dX1_product_18 (by decide) (fun h => absurd h (by decide)) (fun _ => ?_)
        refine g_iconst C (nI 1) dX1_product_21 (k := ?_)
        refine g_goto (tgt := 26) C dX1_product_22 (k := ?_)
        exact hgo 1 (Or.inl ⟨rfl, h1, h2, h3⟩)
      · refine g_ifN_eq (tgt := 25) C (by decide) dX1_product_18 (by decide) (fun _ => ?_) (fun h => absurd rfl h)
        refine g_iconst C (nI 0) dX1_product_25 (k := ?_)
        exact hgo 0 (Or.inr ⟨rfl, fun q => h3 q.2.2⟩)
    · refine g_ifN_eq (tgt := 25) C (by decide) dX1_product_11 (by decide) (fun _ => ?_) (fun h => absurd rfl h)
      refine g_iconst C (nI 0) dX1_product_25 (k := ?_)
      exact hgo 0 (Or.inr ⟨rfl, fun q => h2 q.2.1⟩)
  · refine g_ifN_eq (tgt := 25) C (by decide) dX1_product_4 (by decide) (fun _ => ?_) (fun h => absurd rfl h)
    refine g_iconst C (nI 0) dX1_product_25 (k := ?_)
    exact hgo 0 (Or.inr ⟨rfl, fun q => h1 q.1⟩)
