abbrev rm1 : Room := { frames := 1, cells := 0, slots := 0, locals := 31 }
set_option maxRecDepth 100000 in
set_option maxHeartbeats 4000000 in
theorem m_times (l : Launch) {D : va_G} {tys : List (ClassId × FieldType)} {N : Nat} {ad : Nat → Nat} {ct : Nat → va_E} (hN : 26 ≤ N) {cJ : ClassId} {th : Int32} {p g : Nat} {c wd : Nat → Nat} (e20 : ct 20 = obM th p g ad) (ec : ct 21 = LN cJ 3072 c) (ew : ct 22 = LN cJ 1440 wd) (ht : tys[0]? = some (cJ, .long)) (hp1 : 512 < p) (hp2 : p < 2 ^ 31) (hc : ∀ k, k < 3072 → c k < p) (hw : ∀ k, k < 1440 → wd k < 2 ^ 32) (x y : Int64) :
    gMl l yX1_times wsX1_times rm1 D vwCl tys N ad [.ref (ad 20), .long x, .long y] ct (fun r ct1 => r = lN (fm p x * fm p y % p) ∧ ct1 = va_up ct 20 (obM (nI 0) p g ad)) := by
  refine gof_l (cc := cX1_times) (maxL := 5) (by decide) rfl (Nat.le_of_ble_eq_true rfl) ?_
  intro M sz C hlM hRM hr hsz
  have h20 : 20 < N := by omega
  have h21 : 21 < N := by omega
  have h22 : 22 < N := by omega
  have hx := fm_lt (p := p) (by omega) x
  have hy := fm_lt (p := p) (by omega) y
  have hmul : fm p x * fm p y < 2 ^ 62 := Nat.lt_of_lt_of_le (Nat.mul_lt_mul'' (Nat.lt_trans hx hp2) (Nat.lt_trans hy hp2)) (by decide)
  refine g_aload_n C dX1_times_0 (k := ?_)
  refine g_iconst C (nI 0) dX1_times_1 (k := ?_)
  refine g_putf (Cn := RX1) (T := TX1) (n := 8) (ref := "WheelProductsModel") (ty := .int) C 20 0 h20 e20 rfl (by decide +kernel) tyX1 tyX1_ok nmX1 (by decide) (by decide +kernel) (fun _ h => h) rfl (by decide +kernel) rfl rfl (Nat.le_of_ble_eq_true rfl) dX1_times_2 ?_
  refine g_ct (ct' := va_up (ct) 20 (obM (nI 0) p g ad)) rfl ?_
  refine g_aload_n C dX1_times_5 (k := ?_)
  refine g_lload_n C dX1_times_6 (k := ?_)
  refine g_cVl (n := 1) (av := [.long x]) C 20 h20 (va_up_self _ _ _) rfl (by rw [hlM]; exact m_rest l hN (va_up_self _ _ _) x (by omega) hp2) gX1_times_X1_rest rfl ⟨rfl, rfl⟩ (by rw [hRM]; exact ⟨Nat.le_of_ble_eq_true rfl, Nat.le_of_ble_eq_true rfl⟩) (by rw [hRM]; exact ⟨Nat.le_of_ble_eq_true rfl, Nat.le_of_ble_eq_true rfl⟩) (Nat.le_of_ble_eq_true rfl) (by decide +kernel) rfl dX1_times_7 ?_
  rintro _ _ ⟨rfl, rfl⟩
  refine g_aload_n C dX1_times_10 (k := ?_)
  refine g_lload_n C dX1_times_11 (k := ?_)
  refine g_cVl (n := 1) (av := [.long y]) C 20 h20 (va_up_self _ _ _) rfl (by rw [hlM]; exact m_rest l hN (va_up_self _ _ _) y (by omega) hp2) gX1_times_X1_rest rfl ⟨rfl, rfl⟩ (by rw [hRM]; exact ⟨Nat.le_of_ble_eq_true rfl, Nat.le_of_ble_eq_true rfl⟩) (by rw [hRM]; exact ⟨Nat.le_of_ble_eq_true rfl, Nat.le_of_ble_eq_true rfl⟩) (Nat.le_of_ble_eq_true rfl) (by decide +kernel) rfl dX1_times_12 ?_
  rintro _ _ ⟨rfl, rfl⟩
  refine gN_lmul C dX1_times_15 ?_
  refine g_aload_n C dX1_times_16 (k := ?_)
  refine g_getf (Cn := RX1) (T := TX1) (n := 8) (ref := "WheelProductsModel") C 20 1 h20 (va_up_self _ _ _) rfl (by decide +kernel) (by decide) (by decide +kernel) (fun _ h => h) rfl dX1_times_17 ?_
  refine gN_lrem C (by omega) (by omega) (by omega) dX1_times_20 ?_
  exact g_lret C hr ⟨rfl, rfl⟩ dX1_times_21
set_option maxRecDepth 100000 in
set_option maxHeartbeats 4000000 in
theorem m_power (l : Launch) {D : va_G} {tys : List (ClassId × FieldType)} {N : Nat} {ad : Nat → Nat} {ct : Nat → va_E} (hN : 26 ≤ N) {cJ : ClassId} {th : Int32} {p g : Nat} {c wd : Nat → Nat} (e20 : ct 20 = obM th p g ad) (ec : ct 21 = LN cJ 3072 c) (ew : ct 22 = LN cJ 1440 wd) (ht : tys[0]? = some (cJ, .long)) (hp1 : 512 < p) (hp2 : p < 2 ^ 31) (hc : ∀ k, k < 3072 → c k < p) (hw : ∀ k, k < 1440 → wd k < 2 ^ 32) (x e : Int64) :
    gMl l yX1_power wsX1_power rm1 D vwCl tys N ad [.ref (ad 20), .long x, .long e] ct (fun r ct1 => (e < 0 ∧ ct1 = va_up ct 20 (obM (nI 1) p g ad)) ∨ (∃ n, n < 2 ^ 63 ∧ e = lN n ∧ r = lN (fm p x ^ n % p) ∧ ct1 = va_up ct 20 (obM (nI 0) p g ad))) := by
  refine gof_l (cc := cX1_power) (maxL := 5) (by decide) rfl (Nat.le_of_ble_eq_true rfl) ?_
  intro M sz C hlM hRM hr hsz
  have h20 : 20 < N := by omega
  have h21 : 21 < N := by omega
  have h22 : 22 < N := by omega
  have hx := fm_lt (p := p) (by omega) x
  refine g_aload_n C dX1_power_0 (k := ?_)
  refine g_lload_n C dX1_power_1 (k := ?_)
  refine g_lconst C (lN 0) dX1_power_2 (k := ?_)
  by_cases hneg : e < 0
  · refine g_lc_ge (tgt := 11) C dX1_power_3 dX1_power_4 (by decide) (fun h => absurd hneg (by rw [Int64.not_lt]; exact h)) (fun _ => ?_)
    refine g_iconst C (nI 1) dX1_power_7 (k := ?_)
    refine g_goto (tgt := 12) C dX1_power_8 (k := ?_)
    refine g_putf (Cn := RX1) (T := TX1) (n := 8) (ref := "WheelProductsModel") (ty := .int) C 20 0 h20 e20 rfl (by decide +kernel) tyX1 tyX1_ok nmX1 (by decide) (by decide +kernel) (fun _ h => h) rfl (by decide +kernel) rfl rfl (Nat.le_of_ble_eq_true rfl) dX1_power_12 ?_
    refine g_ct (ct' := va_up (ct) 20 (obM (nI 1) p g ad)) rfl ?_
    refine g_aload_n C dX1_power_15 (k := ?_)
    refine g_getf (Cn := RX1) (T := TX1) (n := 8) (ref := "WheelProductsModel") C 20 0 h20 (va_up_self _ _ _) rfl (by decide +kernel) (by decide) (by decide +kernel) (fun _ h => h) rfl dX1_power_16 ?_
    refine g_ifN_le (tgt := 26) C (by decide) dX1_power_19 (by decide) (fun h => absurd h (by decide)) (fun _ => ?_)
    refine g_lconst C (lN 0) dX1_power_22 (k := ?_)
    refine g_goto (tgt := 39) C dX1_power_23 (k := ?_)
    exact g_lret C hr (Or.inl ⟨hneg, rfl⟩) dX1_power_39
  · obtain ⟨n, hn, rfl⟩ := pk_lOf hneg
    refine g_lcN_ge (tgt := 11) C hn (by decide) dX1_power_3 dX1_power_4 (by decide) (fun _ => ?_) (fun h => absurd h (by omega))
    refine g_iconst C (nI 0) dX1_power_11 (k := ?_)
    refine g_putf (Cn := RX1) (T := TX1) (n := 8) (ref := "WheelProductsModel") (ty := .int) C 20 0 h20 e20 rfl (by decide +kernel) tyX1 tyX1_ok nmX1 (by decide) (by decide +kernel) (fun _ h => h) rfl (by decide +kernel) rfl rfl (Nat.le_of_ble_eq_true rfl) dX1_power_12 ?_
    refine g_ct (ct' := va_up (ct) 20 (obM (nI 0) p g ad)) rfl ?_
    refine g_aload_n C dX1_power_15 (k := ?_)
    refine g_getf (Cn := RX1) (T := TX1) (n := 8) (ref := "WheelProductsModel") C 20 0 h20 (va_up_self _ _ _) rfl (by decide +kernel) (by decide) (by decide +kernel) (fun _ h => h) rfl dX1_power_16 ?_
    refine g_ifN_le (tgt := 26) C (by decide) dX1_power_19 (by decide) (fun _ => ?_) (fun h => absurd h (by decide))
    refine g_aload_n C dX1_power_26 (k := ?_)
    refine g_lload_n C dX1_power_27 (k := ?_)
    refine g_cVl (n := 1) (av := [.long x]) C 20 h20 (va_up_self _ _ _) rfl (by rw [hlM]; exact m_rest l hN (va_up_self _ _ _) x (by omega) hp2) gX1_power_X1_rest rfl ⟨rfl, rfl⟩ (by rw [hRM]; exact ⟨Nat.le_of_ble_eq_true rfl, Nat.le_of_ble_eq_true rfl⟩) (by rw [hRM]; exact ⟨Nat.le_of_ble_eq_true rfl, Nat.le_of_ble_eq_true rfl⟩) (Nat.le_of_ble_eq_true rfl) (by decide +kernel) rfl dX1_power_28 ?_
    rintro _ _ ⟨rfl, rfl⟩
    refine g_lload_n C dX1_power_31 (k := ?_)
    refine g_aload_n C dX1_power_32 (k := ?_)
    refine g_getf (Cn := RX1) (T := TX1) (n := 8) (ref := "WheelProductsModel") C 20 1 h20 (va_up_self _ _ _) rfl (by decide +kernel) (by decide) (by decide +kernel) (fun _ h => h) rfl dX1_power_33 ?_
    refine g_cSl (n := 3) (av := [.long (lN (fm p x)), .long (lN (n)), .long (lN p)]) C (by rw [hlM]; exact m_raise l (by omega) hn (by omega) hp2) gX1_power_X1_raise rfl ⟨rfl, rfl⟩ (by rw [hRM]; exact ⟨Nat.le_of_ble_eq_true rfl, Nat.le_of_ble_eq_true rfl⟩) (by rw [hRM]; exact ⟨Nat.le_of_ble_eq_true rfl, Nat.le_of_ble_eq_true rfl⟩) (Nat.le_of_ble_eq_true rfl) (by decide +kernel) rfl dX1_power_36 ?_
    rintro _ _ ⟨rfl, rfl⟩
    exact g_lret C hr (Or.inr ⟨n, hn, rfl, rfl, rfl⟩) dX1_power_39
set_option maxRecDepth 100000 in
set_option maxHeartbeats 4000000 in
theorem m_inverse (l : Launch) {D : va_G} {tys : List (ClassId × FieldType)} {N : Nat} {ad : Nat → Nat} {ct : Nat → va_E} (hN : 26 ≤ N) {cJ : ClassId} {th : Int32} {p g : Nat} {c wd : Nat → Nat} (e20 : ct 20 = obM th p g ad) (ec : ct 21 = LN cJ 3072 c) (ew : ct 22 = LN cJ 1440 wd) (ht : tys[0]? = some (cJ, .long)) (hp1 : 512 < p) (hp2 : p < 2 ^ 31) (hc : ∀ k, k < 3072 → c k < p) (hw : ∀ k, k < 1440 → wd k < 2 ^ 32) (x : Int64) :
    gMl l yX1_inverse wsX1_inverse rm1 D vwCl tys N ad [.ref (ad 20), .long x] ct (fun r ct1 => (fm p x = 0 ∧ ct1 = va_up ct 20 (obM (nI 1) p g ad)) ∨ (fm p x ≠ 0 ∧ r = lN (fm p x ^ (p - 2) % p) ∧ ct1 = va_up ct 20 (obM (nI 0) p g ad))) := by
  refine gof_l (cc := cX1_inverse) (maxL := 3) (by decide) rfl (Nat.le_of_ble_eq_true rfl) ?_
  intro M sz C hlM hRM hr hsz
  have h20 : 20 < N := by omega
  have h21 : 21 < N := by omega
  have h22 : 22 < N := by omega
  have hx := fm_lt (p := p) (by omega) x
  refine g_aload_n C dX1_inverse_0 (k := ?_)
  refine g_aload_n C dX1_inverse_1 (k := ?_)
  refine g_lload_n C dX1_inverse_2 (k := ?_)
  refine g_cVl (n := 1) (av := [.long x]) C 20 h20 e20 rfl (by rw [hlM]; exact m_rest l hN e20 x (by omega) hp2) gX1_inverse_X1_rest rfl ⟨rfl, rfl⟩ (by rw [hRM]; exact ⟨Nat.le_of_ble_eq_true rfl, Nat.le_of_ble_eq_true rfl⟩) (by rw [hRM]; exact ⟨Nat.le_of_ble_eq_true rfl, Nat.le_of_ble_eq_true rfl⟩) (Nat.le_of_ble_eq_true rfl) (by decide +kernel) rfl dX1_inverse_3 ?_
  rintro _ ct ⟨rfl, rfl⟩
  refine g_lconst C (lN 0) dX1_inverse_6 (k := ?_)
  by_cases hz : fm p x = 0
  · refine g_lcN_ne (tgt := 15) C (by omega) (by decide) dX1_inverse_7 dX1_inverse_8 (by decide) (fun h => absurd hz h) (fun _ => ?_)
    refine g_iconst C (nI 1) dX1_inverse_11 (k := ?_)
    refine g_goto (tgt := 16) C dX1_inverse_12 (k := ?_)
    refine g_putf (Cn := RX1) (T := TX1) (n := 8) (ref := "WheelProductsModel") (ty := .int) C 20 0 h20 e20 rfl (by decide +kernel) tyX1 tyX1_ok nmX1 (by decide) (by decide +kernel) (fun _ h => h) rfl (by decide +kernel) rfl rfl (Nat.le_of_ble_eq_true rfl) dX1_inverse_16 ?_
    refine g_ct (ct' := va_up (ct) 20 (obM (nI 1) p g ad)) rfl ?_
    refine g_aload_n C dX1_inverse_19 (k := ?_)
    refine g_getf (Cn := RX1) (T := TX1) (n := 8) (ref := "WheelProductsModel") C 20 0 h20 (va_up_self _ _ _) rfl (by decide +kernel) (by decide) (by decide +kernel) (fun _ h => h) rfl dX1_inverse_20 ?_
    refine g_ifN_le (tgt := 30) C (by decide) dX1_inverse_23 (by decide) (fun h => absurd h (by decide)) (fun _ => ?_)
    refine g_lconst C (lN 0) dX1_inverse_26 (k := ?_)
    refine g_goto (tgt := 50) C dX1_inverse_27 (k := ?_)
    exact g_lret C hr (Or.inl ⟨hz, rfl⟩) dX1_inverse_50
  · refine g_lcN_ne (tgt := 15) C (by omega) (by decide) dX1_inverse_7 dX1_inverse_8 (by decide) (fun _ => ?_) (fun h => absurd h hz)
    refine g_iconst C (nI 0) dX1_inverse_15 (k := ?_)
    refine g_putf (Cn := RX1) (T := TX1) (n := 8) (ref := "WheelProductsModel") (ty := .int) C 20 0 h20 e20 rfl (by decide +kernel) tyX1 tyX1_ok nmX1 (by decide) (by decide +kernel) (fun _ h => h) rfl (by decide +kernel) rfl rfl (Nat.le_of_ble_eq_true rfl) dX1_inverse_16 ?_
    refine g_ct (ct' := va_up (ct) 20 (obM (nI 0) p g ad)) rfl ?_
    refine g_aload_n C dX1_inverse_19 (k := ?_)
    refine g_getf (Cn := RX1) (T := TX1) (n := 8) (ref := "WheelProductsModel") C 20 0 h20 (va_up_self _ _ _) rfl (by decide +kernel) (by decide) (by decide +kernel) (fun _ h => h) rfl dX1_inverse_20 ?_
    refine g_ifN_le (tgt := 30) C (by decide) dX1_inverse_23 (by decide) (fun _ => ?_) (fun h => absurd h (by decide))
    refine g_aload_n C dX1_inverse_30 (k := ?_)
    refine g_lload_n C dX1_inverse_31 (k := ?_)
    refine g_cVl (n := 1) (av := [.long x]) C 20 h20 (va_up_self _ _ _) rfl (by rw [hlM]; exact m_rest l hN (va_up_self _ _ _) x (by omega) hp2) gX1_inverse_X1_rest rfl ⟨rfl, rfl⟩ (by rw [hRM]; exact ⟨Nat.le_of_ble_eq_true rfl, Nat.le_of_ble_eq_true rfl⟩) (by rw [hRM]; exact ⟨Nat.le_of_ble_eq_true rfl, Nat.le_of_ble_eq_true rfl⟩) (Nat.le_of_ble_eq_true rfl) (by decide +kernel) rfl dX1_inverse_32 ?_
    rintro _ _ ⟨rfl, rfl⟩
    refine g_aload_n C dX1_inverse_35 (k := ?_)
    refine g_getf (Cn := RX1) (T := TX1) (n := 8) (ref := "WheelProductsModel") C 20 1 h20 (va_up_self _ _ _) rfl (by decide +kernel) (by decide) (by decide +kernel) (fun _ h => h) rfl dX1_inverse_36 ?_
    refine g_ldc2 (v := 2) C (by decide +kernel) dX1_inverse_39 ?_
    refine g_tl (lN 2) rfl ?_
    refine gN_lsub C (by omega) dX1_inverse_42 ?_
    refine g_aload_n C dX1_inverse_43 (k := ?_)
    refine g_getf (Cn := RX1) (T := TX1) (n := 8) (ref := "WheelProductsModel") C 20 1 h20 (va_up_self _ _ _) rfl (by decide +kernel) (by decide) (by decide +kernel) (fun _ h => h) rfl dX1_inverse_44 ?_
    refine g_cSl (n := 3) (av := [.long (lN (fm p x)), .long (lN (p - 2)), .long (lN p)]) C (by rw [hlM]; exact m_raise l (by omega) (by omega) (by omega) hp2) gX1_inverse_X1_raise rfl ⟨rfl, rfl⟩ (by rw [hRM]; exact ⟨Nat.le_of_ble_eq_true rfl, Nat.le_of_ble_eq_true rfl⟩) (by rw [hRM]; exact ⟨Nat.le_of_ble_eq_true rfl, Nat.le_of_ble_eq_true rfl⟩) (Nat.le_of_ble_eq_true rfl) (by decide +kernel) rfl dX1_inverse_47 ?_
    rintro _ _ ⟨rfl, rfl⟩
    exact g_lret C hr (Or.inr ⟨hz, rfl, rfl⟩) dX1_inverse_50
set_option maxRecDepth 100000 in
set_option maxHeartbeats 4000000 in
theorem m_get (l : Launch) {D : va_G} {tys : List (ClassId × FieldType)} {N : Nat} {ad : Nat → Nat} {ct : Nat → va_E} (hN : 26 ≤ N) {cJ : ClassId} {th : Int32} {p g : Nat} {c wd : Nat → Nat} (e20 : ct 20 = obM th p g ad) (ec : ct 21 = LN cJ 3072 c) (ew : ct 22 = LN cJ 1440 wd) (ht : tys[0]? = some (cJ, .long)) (hp1 : 512 < p) (hp2 : p < 2 ^ 31) (hc : ∀ k, k < 3072 → c k < p) (hw : ∀ k, k < 1440 → wd k < 2 ^ 32) (x y : Int32) :
    gMl l yX1_get wsX1_get rm1 D vwCl tys N ad [.ref (ad 20), .int x, .int y] ct (fun r ct1 => (¬ (ir x 6 ∧ ir y 512) ∧ ct1 = va_up ct 20 (obM (nI 1) p g ad)) ∨ (∃ i k, i < 6 ∧ k < 512 ∧ x = nI i ∧ y = nI k ∧ r = lN (c (512 * i + k)) ∧ ct1 = va_up ct 20 (obM (nI 0) p g ad))) := by
  refine gof_l (cc := cX1_get) (maxL := 3) (by decide) rfl (Nat.le_of_ble_eq_true rfl) ?_
  intro M sz C hlM hRM hr hsz
  have h20 : 20 < N := by omega
  have h21 : 21 < N := by omega
  have h22 : 22 < N := by omega
  refine g_aload_n C dX1_get_0 (k := ?_)
  refine g_iload_n C dX1_get_1 (k := ?_)
  refine g_cSi (n := 1) (av := [.int x]) C (by rw [hlM]; exact m_isRow l x) gX1_get_X1_isRow rfl ⟨rfl, rfl⟩ (by rw [hRM]; exact ⟨Nat.le_of_ble_eq_true rfl, Nat.le_of_ble_eq_true rfl⟩) (by rw [hRM]; exact ⟨Nat.le_of_ble_eq_true rfl, Nat.le_of_ble_eq_true rfl⟩) (Nat.le_of_ble_eq_true rfl) (by decide +kernel) rfl dX1_get_2 ?_
  rintro _ ct ⟨hir, rfl⟩
  have hbad : ¬ (ir x 6 ∧ ir y 512) → gW M D vwCl (ixA N ad sz) 3 0 0 (MQ (gb M) (va_Ql (fun r ct1 => (¬ (ir x 6 ∧ ir y 512) ∧ ct1 = va_up ct 20 (obM (nI 1) p g ad)) ∨ (∃ i k, i < 6 ∧ k < 512 ∧ x = nI i ∧ y = nI k ∧ r = lN (c (512 * i + k)) ∧ ct1 = va_up ct 20 (obM (nI 0) p g ad))) (gB D vwCl tys N ad (ixA N ad sz)) (ixA N ad sz)) (ga M) (gs M) 0 0 (ixA N ad sz)) N ad 23 (lva 0 [.ref (ad 20), .int x, .int y]) [.ref (ad 20)] ct := by
    intro hno
    refine g_iconst C (nI 1) dX1_get_23 (k := ?_)
    refine g_putf (Cn := RX1) (T := TX1) (n := 8) (ref := "WheelProductsModel") (ty := .int) C 20 0 h20 e20 rfl (by decide +kernel) tyX1 tyX1_ok nmX1 (by decide) (by decide +kernel) (fun _ h => h) rfl (by decide +kernel) rfl rfl (Nat.le_of_ble_eq_true rfl) dX1_get_24 ?_
    refine g_ct (ct' := va_up (ct) 20 (obM (nI 1) p g ad)) rfl ?_
    refine g_aload_n C dX1_get_27 (k := ?_)
    refine g_getf (Cn := RX1) (T := TX1) (n := 8) (ref := "WheelProductsModel") C 20 0 h20 (va_up_self _ _ _) rfl (by decide +kernel) (by decide) (by decide +kernel) (fun _ h => h) rfl dX1_get_28 ?_
    refine g_ifN_le (tgt := 38) C (by decide) dX1_get_31 (by decide) (fun h => absurd h (by decide)) (fun _ => ?_)
    refine g_lconst C (lN 0) dX1_get_34 (k := ?_)
    refine g_goto (tgt := 50) C dX1_get_35 (k := ?_)
    exact g_lret C hr (Or.inl ⟨hno, rfl⟩) dX1_get_50
  rcases hir with ⟨rfl, hi⟩ | ⟨rfl, hno⟩
  · refine g_ifN_eq (tgt := 23) C (by decide) dX1_get_5 (by decide) (fun h => absurd h (by decide)) (fun _ => ?_)
    refine g_iload_n C dX1_get_8 (k := ?_)
    rcases pk_ix y (n := 512) (by decide) with h | h | ⟨k, hk, rfl⟩
    · refine g_if_lt (tgt := 23) C dX1_get_9 (by decide) (fun _ => ?_) (fun h2 => absurd h h2)
      exact hbad (fun q => ir_no (by decide) (Or.inl h) q.2)
    · refine g_if_lt (tgt := 23) C dX1_get_9 (by decide) (fun h2 => ?_) (fun _ => ?_)
      · exact hbad (fun q => ir_no (by decide) (Or.inl h2) q.2)
      · refine g_iload_n C dX1_get_12 (k := ?_)
        refine g_sipush C (nI 512) dX1_get_13 (k := ?_)
        refine g_ic_ge (tgt := 23) C dX1_get_16 (by decide) (fun _ => ?_) (fun h2 => absurd h h2)
        exact hbad (fun q => ir_no (by decide) (Or.inr h) q.2)
    · refine g_ifN_lt (tgt := 23) C (by omega) dX1_get_9 (by decide) (fun h2 => absurd h2 (by omega)) (fun _ => ?_)
      refine g_iload_n C dX1_get_12 (k := ?_)
      refine g_sipush C (nI 512) dX1_get_13 (k := ?_)
      refine g_icN_ge (tgt := 23) C (by omega) (by decide) dX1_get_16 (by decide) (fun h2 => absurd h2 (by omega)) (fun _ => ?_)
      obtain ⟨i, hi, rfl⟩ := hi
      refine g_iconst C (nI 0) dX1_get_19 (k := ?_)
      refine g_goto (tgt := 24) C dX1_get_20 (k := ?_)
      refine g_putf (Cn := RX1) (T := TX1) (n := 8) (ref := "WheelProductsModel") (ty := .int) C 20 0 h20 e20 rfl (by decide +kernel) tyX1 tyX1_ok nmX1 (by decide) (by decide +kernel) (fun _ h => h) rfl (by decide +kernel) rfl rfl (Nat.le_of_ble_eq_true rfl) dX1_get_24 ?_
      refine g_ct (ct' := va_up (ct) 20 (obM (nI 0) p g ad)) rfl ?_
      refine g_aload_n C dX1_get_27 (k := ?_)
      refine g_getf (Cn := RX1) (T := TX1) (n := 8) (ref := "WheelProductsModel") C 20 0 h20 (va_up_self _ _ _) rfl (by decide +kernel) (by decide) (by decide +kernel) (fun _ h => h) rfl dX1_get_28 ?_
      refine g_ifN_le (tgt := 38) C (by decide) dX1_get_31 (by decide) (fun _ => ?_) (fun h => absurd h (by decide))
      refine g_aload_n C dX1_get_38 (k := ?_)
      refine g_getf (Cn := RX1) (T := TX1) (n := 8) (ref := "WheelProductsModel") C 20 3 h20 (va_up_self _ _ _) rfl (by decide +kernel) (by decide) (by decide +kernel) (fun _ h => h) rfl dX1_get_39 ?_
      refine g_sipush C (nI 512) dX1_get_42 (k := ?_)
      refine g_iload_n C dX1_get_45 (k := ?_)
      refine gN_imul C dX1_get_46 ?_
      refine g_iload_n C dX1_get_47 (k := ?_)
      refine gN_iadd C dX1_get_48 ?_
      refine gN_lald C 21 h21 (by (repeat rw [va_up_ne _ _ (by omega)]); exact ec) ht (by omega) (by decide) dX1_get_49 ?_
      exact g_lret C hr (Or.inr ⟨i, k, hi, hk, rfl, rfl, rfl, rfl⟩) dX1_get_50
  · refine g_ifN_eq (tgt := 23) C (by decide) dX1_get_5 (by decide) (fun _ => ?_) (fun h => absurd rfl h)
    exact hbad (fun q => hno q.1)
set_option maxRecDepth 100000 in
set_option maxHeartbeats 4000000 in
theorem m_wordAt (l : Launch) {D : va_G} {tys : List (ClassId × FieldType)} {N : Nat} {ad : Nat → Nat} {ct : Nat → va_E} (hN : 26 ≤ N) {cJ : ClassId} {th : Int32} {p g : Nat} {c wd : Nat → Nat} (e20 : ct 20 = obM th p g ad) (ec : ct 21 = LN cJ 3072 c) (ew : ct 22 = LN cJ 1440 wd) (ht : tys[0]? = some (cJ, .long)) (hp1 : 512 < p) (hp2 : p < 2 ^ 31) (hc : ∀ k, k < 3072 → c k < p) (hw : ∀ k, k < 1440 → wd k < 2 ^ 32) (x y : Int32) :
    gMl l yX1_wordAt wsX1_wordAt rm1 D vwCl tys N ad [.ref (ad 20), .int x, .int y] ct (fun r ct1 => (¬ (ir x 6 ∧ ir y 240) ∧ ct1 = va_up ct 20 (obM (nI 1) p g ad)) ∨ (∃ i k, i < 6 ∧ k < 240 ∧ x = nI i ∧ y = nI k ∧ r = lN (wd (240 * i + k)) ∧ ct1 = va_up ct 20 (obM (nI 0) p g ad))) := by
  refine gof_l (cc := cX1_wordAt) (maxL := 3) (by decide) rfl (Nat.le_of_ble_eq_true rfl) ?_
  intro M sz C hlM hRM hr hsz
  have h20 : 20 < N := by omega
  have h21 : 21 < N := by omega
  have h22 : 22 < N := by omega
  refine g_aload_n C dX1_wordAt_0 (k := ?_)
  refine g_iload_n C dX1_wordAt_1 (k := ?_)
  refine g_cSi (n := 1) (av := [.int x]) C (by rw [hlM]; exact m_isRow l x) gX1_wordAt_X1_isRow rfl ⟨rfl, rfl⟩ (by rw [hRM]; exact ⟨Nat.le_of_ble_eq_true rfl, Nat.le_of_ble_eq_true rfl⟩) (by rw [hRM]; exact ⟨Nat.le_of_ble_eq_true rfl, Nat.le_of_ble_eq_true rfl⟩) (Nat.le_of_ble_eq_true rfl) (by decide +kernel) rfl dX1_wordAt_2 ?_
  rintro _ ct ⟨hir, rfl⟩
  have hbad : ¬ (ir x 6 ∧ ir y 240) → gW M D vwCl (ixA N ad sz) 3 0 0 (MQ (gb M) (va_Ql (fun r ct1 => (¬ (ir x 6 ∧ ir y 240) ∧ ct1 = va_up ct 20 (obM (nI 1) p g ad)) ∨ (∃ i k, i < 6 ∧ k < 240 ∧ x = nI i ∧ y = nI k ∧ r = lN (wd (240 * i + k)) ∧ ct1 = va_up ct 20 (obM (nI 0) p g ad))) (gB D vwCl tys N ad (ixA N ad sz)) (ixA N ad sz)) (ga M) (gs M) 0 0 (ixA N ad sz)) N ad 23 (lva 0 [.ref (ad 20), .int x, .int y]) [.ref (ad 20)] ct := by
    intro hno
    refine g_iconst C (nI 1) dX1_wordAt_23 (k := ?_)
    refine g_putf (Cn := RX1) (T := TX1) (n := 8) (ref := "WheelProductsModel") (ty := .int) C 20 0 h20 e20 rfl (by decide +kernel) tyX1 tyX1_ok nmX1 (by decide) (by decide +kernel) (fun _ h => h) rfl (by decide +kernel) rfl rfl (Nat.le_of_ble_eq_true rfl) dX1_wordAt_24 ?_
    refine g_ct (ct' := va_up (ct) 20 (obM (nI 1) p g ad)) rfl ?_
    refine g_aload_n C dX1_wordAt_27 (k := ?_)
    refine g_getf (Cn := RX1) (T := TX1) (n := 8) (ref := "WheelProductsModel") C 20 0 h20 (va_up_self _ _ _) rfl (by decide +kernel) (by decide) (by decide +kernel) (fun _ h => h) rfl dX1_wordAt_28 ?_
    refine g_ifN_le (tgt := 38) C (by decide) dX1_wordAt_31 (by decide) (fun h => absurd h (by decide)) (fun _ => ?_)
    refine g_lconst C (lN 0) dX1_wordAt_34 (k := ?_)
    refine g_goto (tgt := 50) C dX1_wordAt_35 (k := ?_)
    exact g_lret C hr (Or.inl ⟨hno, rfl⟩) dX1_wordAt_50
  rcases hir with ⟨rfl, hi⟩ | ⟨rfl, hno⟩
  · refine g_ifN_eq (tgt := 23) C (by decide) dX1_wordAt_5 (by decide) (fun h => absurd h (by decide)) (fun _ => ?_)
    refine g_iload_n C dX1_wordAt_8 (k := ?_)
    rcases pk_ix y (n := 240) (by decide) with h | h | ⟨k, hk, rfl⟩
    · refine g_if_lt (tgt := 23) C dX1_wordAt_9 (by decide) (fun _ => ?_) (fun h2 => absurd h h2)
      exact hbad (fun q => ir_no (by decide) (Or.inl h) q.2)
    · refine g_if_lt (tgt := 23) C dX1_wordAt_9 (by decide) (fun h2 => ?_) (fun _ => ?_)
      · exact hbad (fun q => ir_no (by decide) (Or.inl h2) q.2)
      · refine g_iload_n C dX1_wordAt_12 (k := ?_)
        refine g_sipush C (nI 240) dX1_wordAt_13 (k := ?_)
        refine g_ic_ge (tgt := 23) C dX1_wordAt_16 (by decide) (fun _ => ?_) (fun h2 => absurd h h2)
        exact hbad (fun q => ir_no (by decide) (Or.inr h) q.2)
    · refine g_ifN_lt (tgt := 23) C (by omega) dX1_wordAt_9 (by decide) (fun h2 => absurd h2 (by omega)) (fun _ => ?_)
      refine g_iload_n C dX1_wordAt_12 (k := ?_)
      refine g_sipush C (nI 240) dX1_wordAt_13 (k := ?_)
      refine g_icN_ge (tgt := 23) C (by omega) (by decide) dX1_wordAt_16 (by decide) (fun h2 => absurd h2 (by omega)) (fun _ => ?_)
      obtain ⟨i, hi, rfl⟩ := hi
      refine g_iconst C (nI 0) dX1_wordAt_19 (k := ?_)
      refine g_goto (tgt := 24) C dX1_wordAt_20 (k := ?_)
      refine g_putf (Cn := RX1) (T := TX1) (n := 8) (ref := "WheelProductsModel") (ty := .int) C 20 0 h20 e20 rfl (by decide +kernel) tyX1 tyX1_ok nmX1 (by decide) (by decide +kernel) (fun _ h => h) rfl (by decide +kernel) rfl rfl (Nat.le_of_ble_eq_true rfl) dX1_wordAt_24 ?_
      refine g_ct (ct' := va_up (ct) 20 (obM (nI 0) p g ad)) rfl ?_
      refine g_aload_n C dX1_wordAt_27 (k := ?_)
      refine g_getf (Cn := RX1) (T := TX1) (n := 8) (ref := "WheelProductsModel") C 20 0 h20 (va_up_self _ _ _) rfl (by decide +kernel) (by decide) (by decide +kernel) (fun _ h => h) rfl dX1_wordAt_28 ?_
      refine g_ifN_le (tgt := 38) C (by decide) dX1_wordAt_31 (by decide) (fun _ => ?_) (fun h => absurd h (by decide))
      refine g_aload_n C dX1_wordAt_38 (k := ?_)
      refine g_getf (Cn := RX1) (T := TX1) (n := 8) (ref := "WheelProductsModel") C 20 4 h20 (va_up_self _ _ _) rfl (by decide +kernel) (by decide) (by decide +kernel) (fun _ h => h) rfl dX1_wordAt_39 ?_
      refine g_sipush C (nI 240) dX1_wordAt_42 (k := ?_)
      refine g_iload_n C dX1_wordAt_45 (k := ?_)
      refine gN_imul C dX1_wordAt_46 ?_
      refine g_iload_n C dX1_wordAt_47 (k := ?_)
      refine gN_iadd C dX1_wordAt_48 ?_
      refine gN_lald C 22 h22 (by (repeat rw [va_up_ne _ _ (by omega)]); exact ew) ht (by omega) (by decide) dX1_wordAt_49 ?_
      exact g_lret C hr (Or.inr ⟨i, k, hi, hk, rfl, rfl, rfl, rfl⟩) dX1_wordAt_50
  · refine g_ifN_eq (tgt := 23) C (by decide) dX1_wordAt_5 (by decide) (fun _ => ?_) (fun h => absurd rfl h)
    exact hbad (fun q => hno q.1)
set_option maxRecDepth 100000 in
set_option maxHeartbeats 4000000 in
theorem m_put (l : Launch) {D : va_G} {tys : List (ClassId × FieldType)} {N : Nat} {ad : Nat → Nat} {ct : Nat → va_E} (hN : 26 ≤ N) {cJ : ClassId} {th : Int32} {p g : Nat} {c wd : Nat → Nat} (e20 : ct 20 = obM th p g ad) (ec : ct 21 = LN cJ 3072 c) (ew : ct 22 = LN cJ 1440 wd) (ht : tys[0]? = some (cJ, .long)) (hp1 : 512 < p) (hp2 : p < 2 ^ 31) (hc : ∀ k, k < 3072 → c k < p) (hw : ∀ k, k < 1440 → wd k < 2 ^ 32) (x y : Int32) (z : Int64) :
    gMi l yX1_put wsX1_put rm1 D vwCl tys N ad [.ref (ad 20), .int x, .int y, .long z] ct (fun r ct1 => (¬ (ir x 6 ∧ ir y 512) ∧ ct1 = va_up ct 20 (obM (nI 1) p g ad)) ∨ (∃ i k, i < 6 ∧ k < 512 ∧ x = nI i ∧ y = nI k ∧ r = nI (if c (512 * i + k) = fm p z then 0 else 1) ∧ ct1 = va_up (va_up ct 20 (obM (nI 0) p g ad)) 21 (LN cJ 3072 (nu c (512 * i + k) (fm p z))))) := by
  refine gof_z (cc := cX1_put) (maxL := 7) (by decide) rfl (Nat.le_of_ble_eq_true rfl) ?_
  intro M sz C hlM hRM hr hsz
  have h20 : 20 < N := by omega
  have h21 : 21 < N := by omega
  have h22 : 22 < N := by omega
  refine g_aload_n C dX1_put_0 (k := ?_)
  refine g_iload_n C dX1_put_1 (k := ?_)
  refine g_cSi (n := 1) (av := [.int x]) C (by rw [hlM]; exact m_isRow l x) gX1_put_X1_isRow rfl ⟨rfl, rfl⟩ (by rw [hRM]; exact ⟨Nat.le_of_ble_eq_true rfl, Nat.le_of_ble_eq_true rfl⟩) (by rw [hRM]; exact ⟨Nat.le_of_ble_eq_true rfl, Nat.le_of_ble_eq_true rfl⟩) (Nat.le_of_ble_eq_true rfl) (by decide +kernel) rfl dX1_put_2 ?_
  rintro _ ct ⟨hir, rfl⟩
  have hbad : ¬ (ir x 6 ∧ ir y 512) → gW M D vwCl (ixA N ad sz) 7 0 0 (MQ (gb M) (va_Qi (fun r ct1 => (¬ (ir x 6 ∧ ir y 512) ∧ ct1 = va_up ct 20 (obM (nI 1) p g ad)) ∨ (∃ i k, i < 6 ∧ k < 512 ∧ x = nI i ∧ y = nI k ∧ r = nI (if c (512 * i + k) = fm p z then 0 else 1) ∧ ct1 = va_up (va_up ct 20 (obM (nI 0) p g ad)) 21 (LN cJ 3072 (nu c (512 * i + k) (fm p z))))) (gB D vwCl tys N ad (ixA N ad sz)) (ixA N ad sz)) (ga M) (gs M) 0 0 (ixA N ad sz)) N ad 23 (lva 0 [.ref (ad 20), .int x, .int y, .long z]) [.ref (ad 20)] ct := by
    intro hno
    refine g_iconst C (nI 1) dX1_put_23 (k := ?_)
    refine g_putf (Cn := RX1) (T := TX1) (n := 8) (ref := "WheelProductsModel") (ty := .int) C 20 0 h20 e20 rfl (by decide +kernel) tyX1 tyX1_ok nmX1 (by decide) (by decide +kernel) (fun _ h => h) rfl (by decide +kernel) rfl rfl (Nat.le_of_ble_eq_true rfl) dX1_put_24 ?_
    refine g_ct (ct' := va_up (ct) 20 (obM (nI 1) p g ad)) rfl ?_
    refine g_aload_n C dX1_put_27 (k := ?_)
    refine g_getf (Cn := RX1) (T := TX1) (n := 8) (ref := "WheelProductsModel") C 20 0 h20 (va_up_self _ _ _) rfl (by decide +kernel) (by decide) (by decide +kernel) (fun _ h => h) rfl dX1_put_28 ?_
    refine g_ifN_le (tgt := 36) C (by decide) dX1_put_31 (by decide) (fun h => absurd h (by decide)) (fun _ => ?_)
    refine g_iconst C (nI 0) dX1_put_34 (k := ?_)
    exact g_zret C hr (by decide) (Or.inl ⟨hno, rfl⟩) dX1_put_35
  rcases hir with ⟨rfl, hi⟩ | ⟨rfl, hno⟩
  · refine g_ifN_eq (tgt := 23) C (by decide) dX1_put_5 (by decide) (fun h => absurd h (by decide)) (fun _ => ?_)
    refine g_iload_n C dX1_put_8 (k := ?_)
    rcases pk_ix y (n := 512) (by decide) with h | h | ⟨k, hk, rfl⟩
    · refine g_if_lt (tgt := 23) C dX1_put_9 (by decide) (fun _ => ?_) (fun h2 => absurd h h2)
      exact hbad (fun q => ir_no (by decide) (Or.inl h) q.2)
    · refine g_if_lt (tgt := 23) C dX1_put_9 (by decide) (fun h2 => ?_) (fun _ => ?_)
      · exact hbad (fun q => ir_no (by decide) (Or.inl h2) q.2)
      · refine g_iload_n C dX1_put_12 (k := ?_)
        refine g_sipush C (nI 512) dX1_put_13 (k := ?_)
        refine g_ic_ge (tgt := 23) C dX1_put_16 (by decide) (fun _ => ?_) (fun h2 => absurd h h2)
        exact hbad (fun q => ir_no (by decide) (Or.inr h) q.2)
    · refine g_ifN_lt (tgt := 23) C (by omega) dX1_put_9 (by decide) (fun h2 => absurd h2 (by omega)) (fun _ => ?_)
      refine g_iload_n C dX1_put_12 (k := ?_)
      refine g_sipush C (nI 512) dX1_put_13 (k := ?_)
      refine g_icN_ge (tgt := 23) C (by omega) (by decide) dX1_put_16 (by decide) (fun h2 => absurd h2 (by omega)) (fun _ => ?_)
      obtain ⟨i, hi, rfl⟩ := hi
      refine g_iconst C (nI 0) dX1_put_19 (k := ?_)
      refine g_goto (tgt := 24) C dX1_put_20 (k := ?_)
      refine g_putf (Cn := RX1) (T := TX1) (n := 8) (ref := "WheelProductsModel") (ty := .int) C 20 0 h20 e20 rfl (by decide +kernel) tyX1 tyX1_ok nmX1 (by decide) (by decide +kernel) (fun _ h => h) rfl (by decide +kernel) rfl rfl (Nat.le_of_ble_eq_true rfl) dX1_put_24 ?_
      refine g_ct (ct' := va_up (ct) 20 (obM (nI 0) p g ad)) rfl ?_
      refine g_aload_n C dX1_put_27 (k := ?_)
      refine g_getf (Cn := RX1) (T := TX1) (n := 8) (ref := "WheelProductsModel") C 20 0 h20 (va_up_self _ _ _) rfl (by decide +kernel) (by decide) (by decide +kernel) (fun _ h => h) rfl dX1_put_28 ?_
      refine g_ifN_le (tgt := 36) C (by decide) dX1_put_31 (by decide) (fun _ => ?_) (fun h => absurd h (by decide))
      have hzl := fm_lt (p := p) (by omega) z
      have hcl := hc (512 * i + k) (by omega)
      refine g_sipush C (nI 512) dX1_put_36 (k := ?_)
      refine g_iload_n C dX1_put_39 (k := ?_)
      refine gN_imul C dX1_put_40 ?_
      refine g_iload_n C dX1_put_41 (k := ?_)
      refine gN_iadd C dX1_put_42 ?_
      refine g_istore C dX1_put_43 (k := ?_)
      refine g_aload_n C dX1_put_45 (k := ?_)
      refine g_getf (Cn := RX1) (T := TX1) (n := 8) (ref := "WheelProductsModel") C 20 3 h20 (va_up_self _ _ _) rfl (by decide +kernel) (by decide) (by decide +kernel) (fun _ h => h) rfl dX1_put_46 ?_
      refine g_iload C dX1_put_49 (k := ?_)
      refine gN_lald C 21 h21 (by (repeat rw [va_up_ne _ _ (by omega)]); exact ec) ht (by omega) (by decide) dX1_put_51 ?_
      refine g_aload_n C dX1_put_52 (k := ?_)
      refine g_lload_n C dX1_put_53 (k := ?_)
      refine g_cVl (n := 1) (av := [.long z]) C 20 h20 (va_up_self _ _ _) rfl (by rw [hlM]; exact m_rest l hN (va_up_self _ _ _) z (by omega) hp2) gX1_put_X1_rest rfl ⟨rfl, rfl⟩ (by rw [hRM]; exact ⟨Nat.le_of_ble_eq_true rfl, Nat.le_of_ble_eq_true rfl⟩) (by rw [hRM]; exact ⟨Nat.le_of_ble_eq_true rfl, Nat.le_of_ble_eq_true rfl⟩) (Nat.le_of_ble_eq_true rfl) (by decide +kernel) rfl dX1_put_54 ?_
      rintro _ _ ⟨rfl, rfl⟩
      by_cases hz : c (512 * i + k) = fm p z
      · refine g_lcN_eq (tgt := 65) C (by omega) (by omega) dX1_put_57 dX1_put_58 (by decide) (fun _ => ?_) (fun h => absurd hz h)
        refine g_iconst C (nI 0) dX1_put_65 (k := ?_)
        refine g_istore C dX1_put_66 (k := ?_)
        refine g_aload_n C dX1_put_68 (k := ?_)
        refine g_getf (Cn := RX1) (T := TX1) (n := 8) (ref := "WheelProductsModel") C 20 3 h20 (va_up_self _ _ _) rfl (by decide +kernel) (by decide) (by decide +kernel) (fun _ h => h) rfl dX1_put_69 ?_
        refine g_iload C dX1_put_72 (k := ?_)
        refine g_aload_n C dX1_put_74 (k := ?_)
        refine g_lload_n C dX1_put_75 (k := ?_)
        refine g_cVl (n := 1) (av := [.long z]) C 20 h20 (va_up_self _ _ _) rfl (by rw [hlM]; exact m_rest l hN (va_up_self _ _ _) z (by omega) hp2) gX1_put_X1_rest rfl ⟨rfl, rfl⟩ (by rw [hRM]; exact ⟨Nat.le_of_ble_eq_true rfl, Nat.le_of_ble_eq_true rfl⟩) (by rw [hRM]; exact ⟨Nat.le_of_ble_eq_true rfl, Nat.le_of_ble_eq_true rfl⟩) (Nat.le_of_ble_eq_true rfl) (by decide +kernel) rfl dX1_put_76 ?_
        rintro _ _ ⟨rfl, rfl⟩
        refine gN_last C 21 h21 (by (repeat rw [va_up_ne _ _ (by omega)]); exact ec) ht (by omega) (by decide) dX1_put_79 ?_
        refine g_iload C dX1_put_80 (k := ?_)
        exact g_zret C hr (by decide) (Or.inr ⟨i, k, hi, hk, rfl, rfl, by rw [if_pos hz], rfl⟩) dX1_put_82
      · refine g_lcN_eq (tgt := 65) C (by omega) (by omega) dX1_put_57 dX1_put_58 (by decide) (fun h => absurd h hz) (fun _ => ?_)
        refine g_iconst C (nI 1) dX1_put_61 (k := ?_)
        refine g_goto (tgt := 66) C dX1_put_62 (k := ?_)
        refine g_istore C dX1_put_66 (k := ?_)
        refine g_aload_n C dX1_put_68 (k := ?_)
        refine g_getf (Cn := RX1) (T := TX1) (n := 8) (ref := "WheelProductsModel") C 20 3 h20 (va_up_self _ _ _) rfl (by decide +kernel) (by decide) (by decide +kernel) (fun _ h => h) rfl dX1_put_69 ?_
        refine g_iload C dX1_put_72 (k := ?_)
        refine g_aload_n C dX1_put_74 (k := ?_)
        refine g_lload_n C dX1_put_75 (k := ?_)
        refine g_cVl (n := 1) (av := [.long z]) C 20 h20 (va_up_self _ _ _) rfl (by rw [hlM]; exact m_rest l hN (va_up_self _ _ _) z (by omega) hp2) gX1_put_X1_rest rfl ⟨rfl, rfl⟩ (by rw [hRM]; exact ⟨Nat.le_of_ble_eq_true rfl, Nat.le_of_ble_eq_true rfl⟩) (by rw [hRM]; exact ⟨Nat.le_of_ble_eq_true rfl, Nat.le_of_ble_eq_true rfl⟩) (Nat.le_of_ble_eq_true rfl) (by decide +kernel) rfl dX1_put_76 ?_
        rintro _ _ ⟨rfl, rfl⟩
        refine gN_last C 21 h21 (by (repeat rw [va_up_ne _ _ (by omega)]); exact ec) ht (by omega) (by decide) dX1_put_79 ?_
        refine g_iload C dX1_put_80 (k := ?_)
        exact g_zret C hr (by decide) (Or.inr ⟨i, k, hi, hk, rfl, rfl, by rw [if_neg hz], rfl⟩) dX1_put_82
  · refine g_ifN_eq (tgt := 23) C (by decide) dX1_put_5 (by decide) (fun _ => ?_) (fun h => absurd rfl h)
    exact hbad (fun q => hno q.1)
set_option maxRecDepth 100000 in
set_option maxHeartbeats 4000000 in
theorem m_word (l : Launch) {D : va_G} {tys : List (ClassId × FieldType)} {N : Nat} {ad : Nat → Nat} {ct : Nat → va_E} (hN : 26 ≤ N) {cJ : ClassId} {th : Int32} {p g : Nat} {c wd : Nat → Nat} (e20 : ct 20 = obM th p g ad) (ec : ct 21 = LN cJ 3072 c) (ew : ct 22 = LN cJ 1440 wd) (ht : tys[0]? = some (cJ, .long)) (hp1 : 512 < p) (hp2 : p < 2 ^ 31) (hc : ∀ k, k < 3072 → c k < p) (hw : ∀ k, k < 1440 → wd k < 2 ^ 32) (x y : Int32) (z : Int64) :
    gMi l yX1_word wsX1_word rm1 D vwCl tys N ad [.ref (ad 20), .int x, .int y, .long z] ct (fun r ct1 => (¬ (ir x 6 ∧ ir y 240) ∧ ct1 = va_up ct 20 (obM (nI 1) p g ad)) ∨ (∃ i k, i < 6 ∧ k < 240 ∧ x = nI i ∧ y = nI k ∧ r = nI (if wd (240 * i + k) = mk32 z then 0 else 1) ∧ ct1 = va_up (va_up ct 20 (obM (nI 0) p g ad)) 22 (LN cJ 1440 (nu wd (240 * i + k) (mk32 z))))) := by
  refine gof_z (cc := cX1_word) (maxL := 7) (by decide) rfl (Nat.le_of_ble_eq_true rfl) ?_
  intro M sz C hlM hRM hr hsz
  have h20 : 20 < N := by omega
  have h21 : 21 < N := by omega
  have h22 : 22 < N := by omega
  refine g_aload_n C dX1_word_0 (k := ?_)
  refine g_iload_n C dX1_word_1 (k := ?_)
  refine g_cSi (n := 1) (av := [.int x]) C (by rw [hlM]; exact m_isRow l x) gX1_word_X1_isRow rfl ⟨rfl, rfl⟩ (by rw [hRM]; exact ⟨Nat.le_of_ble_eq_true rfl, Nat.le_of_ble_eq_true rfl⟩) (by rw [hRM]; exact ⟨Nat.le_of_ble_eq_true rfl, Nat.le_of_ble_eq_true rfl⟩) (Nat.le_of_ble_eq_true rfl) (by decide +kernel) rfl dX1_word_2 ?_
  rintro _ ct ⟨hir, rfl⟩
  have hbad : ¬ (ir x 6 ∧ ir y 240) → gW M D vwCl (ixA N ad sz) 7 0 0 (MQ (gb M) (va_Qi (fun r ct1 => (¬ (ir x 6 ∧ ir y 240) ∧ ct1 = va_up ct 20 (obM (nI 1) p g ad)) ∨ (∃ i k, i < 6 ∧ k < 240 ∧ x = nI i ∧ y = nI k ∧ r = nI (if wd (240 * i + k) = mk32 z then 0 else 1) ∧ ct1 = va_up (va_up ct 20 (obM (nI 0) p g ad)) 22 (LN cJ 1440 (nu wd (240 * i + k) (mk32 z))))) (gB D vwCl tys N ad (ixA N ad sz)) (ixA N ad sz)) (ga M) (gs M) 0 0 (ixA N ad sz)) N ad 23 (lva 0 [.ref (ad 20), .int x, .int y, .long z]) [.ref (ad 20)] ct := by
    intro hno
    refine g_iconst C (nI 1) dX1_word_23 (k := ?_)
    refine g_putf (Cn := RX1) (T := TX1) (n := 8) (ref := "WheelProductsModel") (ty := .int) C 20 0 h20 e20 rfl (by decide +kernel) tyX1 tyX1_ok nmX1 (by decide) (by decide +kernel) (fun _ h => h) rfl (by decide +kernel) rfl rfl (Nat.le_of_ble_eq_true rfl) dX1_word_24 ?_
    refine g_ct (ct' := va_up (ct) 20 (obM (nI 1) p g ad)) rfl ?_
    refine g_aload_n C dX1_word_27 (k := ?_)
    refine g_getf (Cn := RX1) (T := TX1) (n := 8) (ref := "WheelProductsModel") C 20 0 h20 (va_up_self _ _ _) rfl (by decide +kernel) (by decide) (by decide +kernel) (fun _ h => h) rfl dX1_word_28 ?_
    refine g_ifN_le (tgt := 36) C (by decide) dX1_word_31 (by decide) (fun h => absurd h (by decide)) (fun _ => ?_)
    refine g_iconst C (nI 0) dX1_word_34 (k := ?_)
    exact g_zret C hr (by decide) (Or.inl ⟨hno, rfl⟩) dX1_word_35
  rcases hir with ⟨rfl, hi⟩ | ⟨rfl, hno⟩
  · refine g_ifN_eq (tgt := 23) C (by decide) dX1_word_5 (by decide) (fun h => absurd h (by decide)) (fun _ => ?_)
    refine g_iload_n C dX1_word_8 (k := ?_)
    rcases pk_ix y (n := 240) (by decide) with h | h | ⟨k, hk, rfl⟩
    · refine g_if_lt (tgt := 23) C dX1_word_9 (by decide) (fun _ => ?_) (fun h2 => absurd h h2)
      exact hbad (fun q => ir_no (by decide) (Or.inl h) q.2)
    · refine g_if_lt (tgt := 23) C dX1_word_9 (by decide) (fun h2 => ?_) (fun _ => ?_)
      · exact hbad (fun q => ir_no (by decide) (Or.inl h2) q.2)
      · refine g_iload_n C dX1_word_12 (k := ?_)
        refine g_sipush C (nI 240) dX1_word_13 (k := ?_)
        refine g_ic_ge (tgt := 23) C dX1_word_16 (by decide) (fun _ => ?_) (fun h2 => absurd h h2)
        exact hbad (fun q => ir_no (by decide) (Or.inr h) q.2)
    · refine g_ifN_lt (tgt := 23) C (by omega) dX1_word_9 (by decide) (fun h2 => absurd h2 (by omega)) (fun _ => ?_)
      refine g_iload_n C dX1_word_12 (k := ?_)
      refine g_sipush C (nI 240) dX1_word_13 (k := ?_)
      refine g_icN_ge (tgt := 23) C (by omega) (by decide) dX1_word_16 (by decide) (fun h2 => absurd h2 (by omega)) (fun _ => ?_)
      obtain ⟨i, hi, rfl⟩ := hi
      refine g_iconst C (nI 0) dX1_word_19 (k := ?_)
      refine g_goto (tgt := 24) C dX1_word_20 (k := ?_)
      refine g_putf (Cn := RX1) (T := TX1) (n := 8) (ref := "WheelProductsModel") (ty := .int) C 20 0 h20 e20 rfl (by decide +kernel) tyX1 tyX1_ok nmX1 (by decide) (by decide +kernel) (fun _ h => h) rfl (by decide +kernel) rfl rfl (Nat.le_of_ble_eq_true rfl) dX1_word_24 ?_
      refine g_ct (ct' := va_up (ct) 20 (obM (nI 0) p g ad)) rfl ?_
      refine g_aload_n C dX1_word_27 (k := ?_)
      refine g_getf (Cn := RX1) (T := TX1) (n := 8) (ref := "WheelProductsModel") C 20 0 h20 (va_up_self _ _ _) rfl (by decide +kernel) (by decide) (by decide +kernel) (fun _ h => h) rfl dX1_word_28 ?_
      refine g_ifN_le (tgt := 36) C (by decide) dX1_word_31 (by decide) (fun _ => ?_) (fun h => absurd h (by decide))
      obtain ⟨zn, hz1, hz2, hz3⟩ := k_maskX z
      rw [show zn = mk32 z from hz3] at hz1 hz2
      have hcl := hw (240 * i + k) (by omega)
      refine g_sipush C (nI 240) dX1_word_36 (k := ?_)
      refine g_iload_n C dX1_word_39 (k := ?_)
      refine gN_imul C dX1_word_40 ?_
      refine g_iload_n C dX1_word_41 (k := ?_)
      refine gN_iadd C dX1_word_42 ?_
      refine g_istore C dX1_word_43 (k := ?_)
      refine g_aload_n C dX1_word_45 (k := ?_)
      refine g_getf (Cn := RX1) (T := TX1) (n := 8) (ref := "WheelProductsModel") C 20 4 h20 (va_up_self _ _ _) rfl (by decide +kernel) (by decide) (by decide +kernel) (fun _ h => h) rfl dX1_word_46 ?_
      refine g_iload C dX1_word_49 (k := ?_)
      refine gN_lald C 22 h22 (by (repeat rw [va_up_ne _ _ (by omega)]); exact ew) ht (by omega) (by decide) dX1_word_51 ?_
      refine g_lload_n C dX1_word_52 (k := ?_)
      refine g_ldc2 (v := 4294967295) C (by decide +kernel) dX1_word_53 ?_
      refine g_tl (lN 4294967295) rfl ?_
      refine g_land C dX1_word_56 ?_
      refine g_tl _ hz2 ?_
      by_cases hz : wd (240 * i + k) = mk32 z
      · refine g_lcN_eq (tgt := 65) C (by omega) (by omega) dX1_word_57 dX1_word_58 (by decide) (fun _ => ?_) (fun h => absurd hz h)
        refine g_iconst C (nI 0) dX1_word_65 (k := ?_)
        refine g_istore C dX1_word_66 (k := ?_)
        refine g_aload_n C dX1_word_68 (k := ?_)
        refine g_getf (Cn := RX1) (T := TX1) (n := 8) (ref := "WheelProductsModel") C 20 4 h20 (va_up_self _ _ _) rfl (by decide +kernel) (by decide) (by decide +kernel) (fun _ h => h) rfl dX1_word_69 ?_
        refine g_iload C dX1_word_72 (k := ?_)
        refine g_lload_n C dX1_word_74 (k := ?_)
        refine g_ldc2 (v := 4294967295) C (by decide +kernel) dX1_word_75 ?_
        refine g_tl (lN 4294967295) rfl ?_
        refine g_land C dX1_word_78 ?_
        refine g_tl _ hz2 ?_
        refine gN_last C 22 h22 (by (repeat rw [va_up_ne _ _ (by omega)]); exact ew) ht (by omega) (by decide) dX1_word_79 ?_
        refine g_iload C dX1_word_80 (k := ?_)
        exact g_zret C hr (by decide) (Or.inr ⟨i, k, hi, hk, rfl, rfl, by rw [if_pos hz], rfl⟩) dX1_word_82
      · refine g_lcN_eq (tgt := 65) C (by omega) (by omega) dX1_word_57 dX1_word_58 (by decide) (fun h => absurd h hz) (fun _ => ?_)
        refine g_iconst C (nI 1) dX1_word_61 (k := ?_)
        refine g_goto (tgt := 66) C dX1_word_62 (k := ?_)
        refine g_istore C dX1_word_66 (k := ?_)
        refine g_aload_n C dX1_word_68 (k := ?_)
        refine g_getf (Cn := RX1) (T := TX1) (n := 8) (ref := "WheelProductsModel") C 20 4 h20 (va_up_self _ _ _) rfl (by decide +kernel) (by decide) (by decide +kernel) (fun _ h => h) rfl dX1_word_69 ?_
        refine g_iload C dX1_word_72 (k := ?_)
        refine g_lload_n C dX1_word_74 (k := ?_)
        refine g_ldc2 (v := 4294967295) C (by decide +kernel) dX1_word_75 ?_
        refine g_tl (lN 4294967295) rfl ?_
        refine g_land C dX1_word_78 ?_
        refine g_tl _ hz2 ?_
        refine gN_last C 22 h22 (by (repeat rw [va_up_ne _ _ (by omega)]); exact ew) ht (by omega) (by decide) dX1_word_79 ?_
        refine g_iload C dX1_word_80 (k := ?_)
        exact g_zret C hr (by decide) (Or.inr ⟨i, k, hi, hk, rfl, rfl, by rw [if_neg hz], rfl⟩) dX1_word_82
  · refine g_ifN_eq (tgt := 23) C (by decide) dX1_word_5 (by decide) (fun _ => ?_) (fun h => absurd rfl h)
    exact hbad (fun q => hno q.1)
abbrev rm2 : Room := { frames := 2, cells := 0, slots := 0, locals := 60 }
set_option maxRecDepth 100000 in
set_option maxHeartbeats 4000000 in
theorem m_length (l : Launch) {D : va_G} {tys : List (ClassId × FieldType)} {N : Nat} {ad : Nat → Nat} {ct : Nat → va_E} (hN : 26 ≤ N) {cJ : ClassId} {th : Int32} {p g : Nat} {c wd : Nat → Nat} (e20 : ct 20 = obM th p g ad) (ec : ct 21 = LN cJ 3072 c) (ew : ct 22 = LN cJ 1440 wd) (ht : tys[0]? = some (cJ, .long)) (hp1 : 512 < p) (hp2 : p < 2 ^ 31) (hc : ∀ k, k < 3072 → c k < p) (hw : ∀ k, k < 1440 → wd k < 2 ^ 32) (x : Int32) :
    gMi l yX1_length wsX1_length rm2 D vwCl tys N ad [.ref (ad 20), .int x] ct (fun r ct1 => (¬ ir x 6 ∧ ct1 = va_up ct 20 (obM (nI 1) p g ad)) ∨ (∃ i, i < 6 ∧ x = nI i ∧ r = nI (up1 (fun k => c (512 * i + k)) 512) ∧ ct1 = va_up ct 20 (obM (nI 0) p g ad))) := by
  refine gof_i (cc := cX1_length) (maxL := 2) (by decide) rfl (Nat.le_of_ble_eq_true rfl) ?_
  intro M sz C hlM hRM hr hsz
  have h20 : 20 < N := by omega
  have h21 : 21 < N := by omega
  have h22 : 22 < N := by omega
  refine g_aload_n C dX1_length_0 (k := ?_)
  refine g_iload_n C dX1_length_1 (k := ?_)
  refine g_cSi (n := 1) (av := [.int x]) C (by rw [hlM]; exact m_isRow l x) gX1_length_X1_isRow rfl ⟨rfl, rfl⟩ (by rw [hRM]; exact ⟨Nat.le_of_ble_eq_true rfl, Nat.le_of_ble_eq_true rfl⟩) (by rw [hRM]; exact ⟨Nat.le_of_ble_eq_true rfl, Nat.le_of_ble_eq_true rfl⟩) (Nat.le_of_ble_eq_true rfl) (by decide +kernel) rfl dX1_length_2 ?_
  rintro _ ct ⟨hir, rfl⟩
  rcases hir with ⟨rfl, i, hi, rfl⟩ | ⟨rfl, hno⟩
  · refine g_ifN_eq (tgt := 12) C (by decide) dX1_length_5 (by decide) (fun h => absurd h (by decide)) (fun _ => ?_)
    refine g_iconst C (nI 0) dX1_length_8 (k := ?_)
    refine g_goto (tgt := 13) C dX1_length_9 (k := ?_)
    refine g_putf (Cn := RX1) (T := TX1) (n := 8) (ref := "WheelProductsModel") (ty := .int) C 20 0 h20 e20 rfl (by decide +kernel) tyX1 tyX1_ok nmX1 (by decide) (by decide +kernel) (fun _ h => h) rfl (by decide +kernel) rfl rfl (Nat.le_of_ble_eq_true rfl) dX1_length_13 ?_
    refine g_ct (ct' := va_up (ct) 20 (obM (nI 0) p g ad)) rfl ?_
    refine g_aload_n C dX1_length_16 (k := ?_)
    refine g_getf (Cn := RX1) (T := TX1) (n := 8) (ref := "WheelProductsModel") C 20 0 h20 (va_up_self _ _ _) rfl (by decide +kernel) (by decide) (by decide +kernel) (fun _ h => h) rfl dX1_length_17 ?_
    refine g_ifN_le (tgt := 27) C (by decide) dX1_length_20 (by decide) (fun _ => ?_) (fun h => absurd h (by decide))
    refine g_aload_n C dX1_length_27 (k := ?_)
    refine g_iload_n C dX1_length_28 (k := ?_)
    refine g_cVi (n := 1) (av := [.int (nI i)]) C 20 h20 (va_up_self _ _ _) rfl (by rw [hlM]; exact m_lengthOf l hN (va_up_self _ _ _) (by (repeat rw [va_up_ne _ _ (by omega)]); exact ec) ht hi (fun k hk => Nat.lt_trans (hc k hk) (by omega))) gX1_length_X1_lengthOf rfl ⟨rfl, rfl⟩ (by rw [hRM]; exact ⟨Nat.le_of_ble_eq_true rfl, Nat.le_of_ble_eq_true rfl⟩) (by rw [hRM]; exact ⟨Nat.le_of_ble_eq_true rfl, Nat.le_of_ble_eq_true rfl⟩) (Nat.le_of_ble_eq_true rfl) (by decide +kernel) rfl dX1_length_29 ?_
    rintro _ _ ⟨rfl, rfl⟩
    exact g_iret C hr (Or.inr ⟨i, hi, rfl, rfl, rfl⟩) dX1_length_32
  · refine g_ifN_eq (tgt := 12) C (by decide) dX1_length_5 (by decide) (fun _ => ?_) (fun h => absurd rfl h)
    refine g_iconst C (nI 1) dX1_length_12 (k := ?_)
    refine g_putf (Cn := RX1) (T := TX1) (n := 8) (ref := "WheelProductsModel") (ty := .int) C 20 0 h20 e20 rfl (by decide +kernel) tyX1 tyX1_ok nmX1 (by decide) (by decide +kernel) (fun _ h => h) rfl (by decide +kernel) rfl rfl (Nat.le_of_ble_eq_true rfl) dX1_length_13 ?_
    refine g_ct (ct' := va_up (ct) 20 (obM (nI 1) p g ad)) rfl ?_
    refine g_aload_n C dX1_length_16 (k := ?_)
    refine g_getf (Cn := RX1) (T := TX1) (n := 8) (ref := "WheelProductsModel") C 20 0 h20 (va_up_self _ _ _) rfl (by decide +kernel) (by decide) (by decide +kernel) (fun _ h => h) rfl dX1_length_17 ?_
    refine g_ifN_le (tgt := 27) C (by decide) dX1_length_20 (by decide) (fun h => absurd h (by decide)) (fun _ => ?_)
    refine g_iconst C (nI 0) dX1_length_23 (k := ?_)
    refine g_goto (tgt := 32) C dX1_length_24 (k := ?_)
    exact g_iret C hr (Or.inl ⟨hno, rfl⟩) dX1_length_32
set_option maxRecDepth 100000 in
set_option maxHeartbeats 4000000 in
theorem m_size (l : Launch) {D : va_G} {tys : List (ClassId × FieldType)} {N : Nat} {ad : Nat → Nat} {ct : Nat → va_E} (hN : 26 ≤ N) {cJ : ClassId} {th : Int32} {p g : Nat} {c wd : Nat → Nat} (e20 : ct 20 = obM th p g ad) (ec : ct 21 = LN cJ 3072 c) (ew : ct 22 = LN cJ 1440 wd) (ht : tys[0]? = some (cJ, .long)) (hp1 : 512 < p) (hp2 : p < 2 ^ 31) (hc : ∀ k, k < 3072 → c k < p) (hw : ∀ k, k < 1440 → wd k < 2 ^ 32) (x : Int32) :
    gMi l yX1_size wsX1_size rm2 D vwCl tys N ad [.ref (ad 20), .int x] ct (fun r ct1 => (¬ ir x 6 ∧ ct1 = va_up ct 20 (obM (nI 1) p g ad)) ∨ (∃ i, i < 6 ∧ x = nI i ∧ r = nI (up1 (fun k => wd (240 * i + k)) 240) ∧ ct1 = va_up ct 20 (obM (nI 0) p g ad))) := by
  refine gof_i (cc := cX1_size) (maxL := 2) (by decide) rfl (Nat.le_of_ble_eq_true rfl) ?_
  intro M sz C hlM hRM hr hsz
  have h20 : 20 < N := by omega
  have h21 : 21 < N := by omega
  have h22 : 22 < N := by omega
  refine g_aload_n C dX1_size_0 (k := ?_)
  refine g_iload_n C dX1_size_1 (k := ?_)
  refine g_cSi (n := 1) (av := [.int x]) C (by rw [hlM]; exact m_isRow l x) gX1_size_X1_isRow rfl ⟨rfl, rfl⟩ (by rw [hRM]; exact ⟨Nat.le_of_ble_eq_true rfl, Nat.le_of_ble_eq_true rfl⟩) (by rw [hRM]; exact ⟨Nat.le_of_ble_eq_true rfl, Nat.le_of_ble_eq_true rfl⟩) (Nat.le_of_ble_eq_true rfl) (by decide +kernel) rfl dX1_size_2 ?_
  rintro _ ct ⟨hir, rfl⟩
  rcases hir with ⟨rfl, i, hi, rfl⟩ | ⟨rfl, hno⟩
  · refine g_ifN_eq (tgt := 12) C (by decide) dX1_size_5 (by decide) (fun h => absurd h (by decide)) (fun _ => ?_)
    refine g_iconst C (nI 0) dX1_size_8 (k := ?_)
    refine g_goto (tgt := 13) C dX1_size_9 (k := ?_)
    refine g_putf (Cn := RX1) (T := TX1) (n := 8) (ref := "WheelProductsModel") (ty := .int) C 20 0 h20 e20 rfl (by decide +kernel) tyX1 tyX1_ok nmX1 (by decide) (by decide +kernel) (fun _ h => h) rfl (by decide +kernel) rfl rfl (Nat.le_of_ble_eq_true rfl) dX1_size_13 ?_
    refine g_ct (ct' := va_up (ct) 20 (obM (nI 0) p g ad)) rfl ?_
    refine g_aload_n C dX1_size_16 (k := ?_)
    refine g_getf (Cn := RX1) (T := TX1) (n := 8) (ref := "WheelProductsModel") C 20 0 h20 (va_up_self _ _ _) rfl (by decide +kernel) (by decide) (by decide +kernel) (fun _ h => h) rfl dX1_size_17 ?_
    refine g_ifN_le (tgt := 27) C (by decide) dX1_size_20 (by decide) (fun _ => ?_) (fun h => absurd h (by decide))
    refine g_aload_n C dX1_size_27 (k := ?_)
    refine g_iload_n C dX1_size_28 (k := ?_)
    refine g_cVi (n := 1) (av := [.int (nI i)]) C 20 h20 (va_up_self _ _ _) rfl (by rw [hlM]; exact m_sizeOf l hN (va_up_self _ _ _) (by (repeat rw [va_up_ne _ _ (by omega)]); exact ew) ht hi (fun k hk => Nat.lt_trans (hw k hk) (by decide))) gX1_size_X1_sizeOf rfl ⟨rfl, rfl⟩ (by rw [hRM]; exact ⟨Nat.le_of_ble_eq_true rfl, Nat.le_of_ble_eq_true rfl⟩) (by rw [hRM]; exact ⟨Nat.le_of_ble_eq_true rfl, Nat.le_of_ble_eq_true rfl⟩) (Nat.le_of_ble_eq_true rfl) (by decide +kernel) rfl dX1_size_29 ?_
    rintro _ _ ⟨rfl, rfl⟩
    exact g_iret C hr (Or.inr ⟨i, hi, rfl, rfl, rfl⟩) dX1_size_32
  · refine g_ifN_eq (tgt := 12) C (by decide) dX1_size_5 (by decide) (fun _ => ?_) (fun h => absurd rfl h)
    refine g_iconst C (nI 1) dX1_size_12 (k := ?_)
    refine g_putf (Cn := RX1) (T := TX1) (n := 8) (ref := "WheelProductsModel") (ty := .int) C 20 0 h20 e20 rfl (by decide +kernel) tyX1 tyX1_ok nmX1 (by decide) (by decide +kernel) (fun _ h => h) rfl (by decide +kernel) rfl rfl (Nat.le_of_ble_eq_true rfl) dX1_size_13 ?_
    refine g_ct (ct' := va_up (ct) 20 (obM (nI 1) p g ad)) rfl ?_
    refine g_aload_n C dX1_size_16 (k := ?_)
    refine g_getf (Cn := RX1) (T := TX1) (n := 8) (ref := "WheelProductsModel") C 20 0 h20 (va_up_self _ _ _) rfl (by decide +kernel) (by decide) (by decide +kernel) (fun _ h => h) rfl dX1_size_17 ?_
    refine g_ifN_le (tgt := 27) C (by decide) dX1_size_20 (by decide) (fun h => absurd h (by decide)) (fun _ => ?_)
    refine g_iconst C (nI 0) dX1_size_23 (k := ?_)
    refine g_goto (tgt := 32) C dX1_size_24 (k := ?_)
    exact g_iret C hr (Or.inl ⟨hno, rfl⟩) dX1_size_32
set_option maxRecDepth 100000 in
set_option maxHeartbeats 4000000 in
theorem m_at (l : Launch) {D : va_G} {tys : List (ClassId × FieldType)} {N : Nat} {ad : Nat → Nat} {ct : Nat → va_E} (hN : 26 ≤ N) {cJ : ClassId} {th : Int32} {p g : Nat} {c wd : Nat → Nat} (e20 : ct 20 = obM th p g ad) (ec : ct 21 = LN cJ 3072 c) (ew : ct 22 = LN cJ 1440 wd) (ht : tys[0]? = some (cJ, .long)) (hp1 : 512 < p) (hp2 : p < 2 ^ 31) (hc : ∀ k, k < 3072 → c k < p) (hw : ∀ k, k < 1440 → wd k < 2 ^ 32) (x : Int32) (z : Int64) :
    gMl l yX1_at wsX1_at rm1 D vwCl tys N ad [.ref (ad 20), .int x, .long z] ct (fun r ct1 => (¬ ir x 6 ∧ ct1 = va_up ct 20 (obM (nI 1) p g ad)) ∨ (∃ i, i < 6 ∧ x = nI i ∧ r = lN (hrn p (fun k => c (512 * i + k)) (fm p z) 512) ∧ ct1 = va_up ct 20 (obM (nI 0) p g ad))) := by
  refine gof_l (cc := cX1_at) (maxL := 9) (by decide) rfl (Nat.le_of_ble_eq_true rfl) ?_
  intro M sz C hlM hRM hr hsz
  have h20 : 20 < N := by omega
  have h21 : 21 < N := by omega
  have h22 : 22 < N := by omega
  have hx := fm_lt (p := p) (by omega) z
  refine g_aload_n C dX1_at_0 (k := ?_)
  refine g_iload_n C dX1_at_1 (k := ?_)
  refine g_cSi (n := 1) (av := [.int x]) C (by rw [hlM]; exact m_isRow l x) gX1_at_X1_isRow rfl ⟨rfl, rfl⟩ (by rw [hRM]; exact ⟨Nat.le_of_ble_eq_true rfl, Nat.le_of_ble_eq_true rfl⟩) (by rw [hRM]; exact ⟨Nat.le_of_ble_eq_true rfl, Nat.le_of_ble_eq_true rfl⟩) (Nat.le_of_ble_eq_true rfl) (by decide +kernel) rfl dX1_at_2 ?_
  rintro _ ct ⟨hir, rfl⟩
  rcases hir with ⟨rfl, i, hi, rfl⟩ | ⟨rfl, hno⟩
  · refine g_ifN_eq (tgt := 12) C (by decide) dX1_at_5 (by decide) (fun h => absurd h (by decide)) (fun _ => ?_)
    refine g_iconst C (nI 0) dX1_at_8 (k := ?_)
    refine g_goto (tgt := 13) C dX1_at_9 (k := ?_)
    refine g_putf (Cn := RX1) (T := TX1) (n := 8) (ref := "WheelProductsModel") (ty := .int) C 20 0 h20 e20 rfl (by decide +kernel) tyX1 tyX1_ok nmX1 (by decide) (by decide +kernel) (fun _ h => h) rfl (by decide +kernel) rfl rfl (Nat.le_of_ble_eq_true rfl) dX1_at_13 ?_
    refine g_ct (ct' := va_up (ct) 20 (obM (nI 0) p g ad)) rfl ?_
    refine g_lconst C (lN 0) dX1_at_16 (k := ?_)
    refine g_lstore C dX1_at_17 (k := ?_)
    refine g_aload_n C dX1_at_19 (k := ?_)
    refine g_lload_n C dX1_at_20 (k := ?_)
    refine g_cVl (n := 1) (av := [.long z]) C 20 h20 (va_up_self _ _ _) rfl (by rw [hlM]; exact m_rest l hN (va_up_self _ _ _) z (by omega) hp2) gX1_at_X1_rest rfl ⟨rfl, rfl⟩ (by rw [hRM]; exact ⟨Nat.le_of_ble_eq_true rfl, Nat.le_of_ble_eq_true rfl⟩) (by rw [hRM]; exact ⟨Nat.le_of_ble_eq_true rfl, Nat.le_of_ble_eq_true rfl⟩) (Nat.le_of_ble_eq_true rfl) (by decide +kernel) rfl dX1_at_21 ?_
    rintro _ _ ⟨rfl, rfl⟩
    have loop : ∀ (m a : Nat), m ≤ 512 → a < p → hra p (fun k => c (512 * i + k)) (fm p z) m a = hrn p (fun k => c (512 * i + k)) (fm p z) 512 → gW M D vwCl (ixA N ad sz) 9 0 0 (MQ (gb M) (va_Ql (fun r ct1 => (¬ ir (nI i) 6 ∧ ct1 = va_up ct 20 (obM (nI 1) p g ad)) ∨ (∃ i_1, i_1 < 6 ∧ nI i = nI i_1 ∧ r = lN (hrn p (fun k => c (512 * i_1 + k)) (fm p z) 512) ∧ ct1 = va_up ct 20 (obM (nI 0) p g ad))) (gB D vwCl tys N ad (ixA N ad sz)) (ixA N ad sz)) (ga M) (gs M) 0 0 (ixA N ad sz)) N ad 31 [(0, some (.ref (ad 20))), (1, some (.int (nI i))), (4, some (.long (lN a))), (6, some (.long (lN (fm p z)))), (8, some (.int (nI m - nI 1)))] [] (va_up ct 20 (obM (nI 0) p g ad)) := by
      intro m
      induction m with
      | zero =>
        intro a _ ha hh
        refine g_iload C dX1_at_31 (k := ?_)
        refine g_if_lt (tgt := 75) C dX1_at_33 (by decide) (fun _ => ?_) (fun h => absurd k_m1 h)
        refine g_lload C dX1_at_75 (k := ?_)
        exact g_lret C hr (Or.inr ⟨i, hi, rfl, by rw [← hh]; rfl, rfl⟩) dX1_at_77
      | succ m ih =>
        intro a hm ha hh
        have hvm := hc (512 * i + m) (by omega)
        have hmul : a * fm p z < 2 ^ 62 := Nat.lt_of_lt_of_le (Nat.mul_lt_mul'' (Nat.lt_trans ha hp2) (Nat.lt_trans hx hp2)) (by decide)
        have e1 : nI (m + 1) - nI 1 = nI m := by rw [pk_sub (by omega)]; rfl
        rw [e1]
        refine g_iload C dX1_at_31 (k := ?_)
        refine g_ifN_lt (tgt := 75) C (by omega) dX1_at_33 (by decide) (fun h => absurd h (by omega)) (fun _ => ?_)
        refine g_aload_n C dX1_at_36 (k := ?_)
        refine g_getf (Cn := RX1) (T := TX1) (n := 8) (ref := "WheelProductsModel") C 20 0 h20 (va_up_self _ _ _) rfl (by decide +kernel) (by decide) (by decide +kernel) (fun _ h => h) rfl dX1_at_37 ?_
        refine g_ifN_ne (tgt := 75) C (by decide) dX1_at_40 (by decide) (fun h => absurd rfl h) (fun _ => ?_)
        refine g_lload C dX1_at_43 (k := ?_)
        refine g_lload C dX1_at_45 (k := ?_)
        refine gN_lmul C dX1_at_47 ?_
        refine g_aload_n C dX1_at_48 (k := ?_)
        refine g_getf (Cn := RX1) (T := TX1) (n := 8) (ref := "WheelProductsModel") C 20 3 h20 (va_up_self _ _ _) rfl (by decide +kernel) (by decide) (by decide +kernel) (fun _ h => h) rfl dX1_at_49 ?_
        refine g_sipush C (nI 512) dX1_at_52 (k := ?_)
        refine g_iload_n C dX1_at_55 (k := ?_)
        refine gN_imul C dX1_at_56 ?_
        refine g_iload C dX1_at_57 (k := ?_)
        refine gN_iadd C dX1_at_59 ?_
        refine gN_lald C 21 h21 (by (repeat rw [va_up_ne _ _ (by omega)]); exact ec) ht (by omega) (by decide) dX1_at_60 ?_
        refine gN_ladd C dX1_at_61 ?_
        refine g_aload_n C dX1_at_62 (k := ?_)
        refine g_getf (Cn := RX1) (T := TX1) (n := 8) (ref := "WheelProductsModel") C 20 1 h20 (va_up_self _ _ _) rfl (by decide +kernel) (by decide) (by decide +kernel) (fun _ h => h) rfl dX1_at_63 ?_
        refine gN_lrem C (by omega) (by omega) (by omega) dX1_at_66 ?_
        refine g_lstore C dX1_at_67 (k := ?_)
        refine g_iinc C (nI m - nI 1) dX1_at_69 (by rw [Int32.sub_eq_add_neg]; rfl) (k := ?_)
        refine g_goto (tgt := 31) C dX1_at_72 (k := ?_)
        exact g_l2 (ih ((a * fm p z + c (512 * i + m)) % p) (by omega) (Nat.mod_lt _ (by omega)) hh) ⟨Or.inr rfl, Or.inr rfl, Or.inr rfl, Or.inr rfl, Or.inr rfl, trivial⟩
    refine g_lstore C dX1_at_24 (k := ?_)
    refine g_sipush C (nI 511) dX1_at_26 (k := ?_)
    refine g_istore C dX1_at_29 (k := ?_)
    exact g_l2 (loop 512 0 (Nat.le_refl _) (by omega) rfl) ⟨Or.inr rfl, Or.inr rfl, Or.inr rfl, Or.inr rfl, Or.inr rfl, trivial⟩
  · refine g_ifN_eq (tgt := 12) C (by decide) dX1_at_5 (by decide) (fun _ => ?_) (fun h => absurd rfl h)
    refine g_iconst C (nI 1) dX1_at_12 (k := ?_)
    refine g_putf (Cn := RX1) (T := TX1) (n := 8) (ref := "WheelProductsModel") (ty := .int) C 20 0 h20 e20 rfl (by decide +kernel) tyX1 tyX1_ok nmX1 (by decide) (by decide +kernel) (fun _ h => h) rfl (by decide +kernel) rfl rfl (Nat.le_of_ble_eq_true rfl) dX1_at_13 ?_
    refine g_ct (ct' := va_up (ct) 20 (obM (nI 1) p g ad)) rfl ?_
    refine g_lconst C (lN 0) dX1_at_16 (k := ?_)
    refine g_lstore C dX1_at_17 (k := ?_)
    refine g_aload_n C dX1_at_19 (k := ?_)
    refine g_lload_n C dX1_at_20 (k := ?_)
    refine g_cVl (n := 1) (av := [.long z]) C 20 h20 (va_up_self _ _ _) rfl (by rw [hlM]; exact m_rest l hN (va_up_self _ _ _) z (by omega) hp2) gX1_at_X1_rest rfl ⟨rfl, rfl⟩ (by rw [hRM]; exact ⟨Nat.le_of_ble_eq_true rfl, Nat.le_of_ble_eq_true rfl⟩) (by rw [hRM]; exact ⟨Nat.le_of_ble_eq_true rfl, Nat.le_of_ble_eq_true rfl⟩) (Nat.le_of_ble_eq_true rfl) (by decide +kernel) rfl dX1_at_21 ?_
    rintro _ _ ⟨rfl, rfl⟩
    refine g_lstore C dX1_at_24 (k := ?_)
    refine g_sipush C (nI 511) dX1_at_26 (k := ?_)
    refine g_istore C dX1_at_29 (k := ?_)
    refine g_iload C dX1_at_31 (k := ?_)
    refine g_ifN_lt (tgt := 75) C (by decide) dX1_at_33 (by decide) (fun h => absurd h (by decide)) (fun _ => ?_)
    refine g_aload_n C dX1_at_36 (k := ?_)
    refine g_getf (Cn := RX1) (T := TX1) (n := 8) (ref := "WheelProductsModel") C 20 0 h20 (va_up_self _ _ _) rfl (by decide +kernel) (by decide) (by decide +kernel) (fun _ h => h) rfl dX1_at_37 ?_
    refine g_ifN_ne (tgt := 75) C (by decide) dX1_at_40 (by decide) (fun _ => ?_) (fun h => absurd h (by decide))
    refine g_lload C dX1_at_75 (k := ?_)
    exact g_lret C hr (Or.inl ⟨hno, rfl⟩) dX1_at_77
