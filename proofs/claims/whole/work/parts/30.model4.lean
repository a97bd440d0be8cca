abbrev rmf : Room := { frames := 3, cells := 0, slots := 0, locals := 90 }
set_option maxRecDepth 100000 in
set_option maxHeartbeats 4000000 in
theorem m_field (l : Launch) {D : va_G} {tys : List (ClassId × FieldType)} {N : Nat} {ad : Nat → Nat} {ct : Nat → va_E} (hN : 26 ≤ N) {cJ : ClassId} {th : Int32} {p g : Nat} {c wd : Nat → Nat} (e20 : ct 20 = obM th p g ad) (ec : ct 21 = LN cJ 3072 c) (ew : ct 22 = LN cJ 1440 wd) (ht : tys[0]? = some (cJ, .long)) (hp1 : 512 < p) (hp2 : p < 2 ^ 31) (hc : ∀ k, k < 3072 → c k < p) (hw : ∀ k, k < 1440 → wd k < 2 ^ 32) (hroot : ∀ n, fok n → prm n → ∃ g1, lsR n g1 ∧ g1 < 2 ^ 31) (x : Int64) :
    gMl l yX1_field wsX1_field rmf D vwCl tys N ad [.ref (ad 20), .long x] ct (fun r ct1 => ((¬ ∃ n, fok n ∧ prm n ∧ x = lN n) ∧ ct1 = va_up ct 20 (obM (nI 1) p g ad)) ∨ (∃ n g1, fok n ∧ prm n ∧ x = lN n ∧ lsR n g1 ∧ g1 < 2 ^ 31 ∧ r = lN g1 ∧ ct1 = va_up (va_up ct 20 (obM (nI 0) n g1 ad)) 21 (LN cJ 3072 (fun _ => 0)))) := by
  refine gof_l (cc := cX1_field) (maxL := 4) (by decide) rfl (Nat.le_of_ble_eq_true rfl) ?_
  intro M sz C hlM hRM hr hsz
  have h20 : 20 < N := by omega
  have h21 : 21 < N := by omega
  have h22 : 22 < N := by omega
  have hbad : (¬ ∃ n, fok n ∧ prm n ∧ x = lN n) → gW M D vwCl (ixA N ad sz) 4 0 0 (MQ (gb M) (va_Ql (fun r ct1 => ((¬ ∃ n, fok n ∧ prm n ∧ x = lN n) ∧ ct1 = va_up ct 20 (obM (nI 1) p g ad)) ∨ (∃ n g1, fok n ∧ prm n ∧ x = lN n ∧ lsR n g1 ∧ g1 < 2 ^ 31 ∧ r = lN g1 ∧ ct1 = va_up (va_up ct 20 (obM (nI 0) n g1 ad)) 21 (LN cJ 3072 (fun _ => 0)))) (gB D vwCl tys N ad (ixA N ad sz)) (ixA N ad sz)) (ga M) (gs M) 0 0 (ixA N ad sz)) N ad 38 (lva 0 [.ref (ad 20), .long x]) [.ref (ad 20)] ct := by
    intro hno
    refine g_iconst C (nI 1) dX1_field_38 (k := ?_)
    refine g_putf (Cn := RX1) (T := TX1) (n := 8) (ref := "WheelProductsModel") (ty := .int) C 20 0 h20 e20 rfl (by decide +kernel) tyX1 tyX1_ok nmX1 (by decide) (by decide +kernel) (fun _ h => h) rfl (by decide +kernel) rfl rfl (Nat.le_of_ble_eq_true rfl) dX1_field_39 ?_
    refine g_ct (ct' := va_up (ct) 20 (obM (nI 1) p g ad)) rfl ?_
    refine g_aload_n C dX1_field_42 (k := ?_)
    refine g_getf (Cn := RX1) (T := TX1) (n := 8) (ref := "WheelProductsModel") C 20 0 h20 (va_up_self _ _ _) rfl (by decide +kernel) (by decide) (by decide +kernel) (fun _ h => h) rfl dX1_field_43 ?_
    refine g_ifN_le (tgt := 51) C (by decide) dX1_field_46 (by decide) (fun h => absurd h (by decide)) (fun _ => ?_)
    refine g_lconst C (lN 0) dX1_field_49 (k := ?_)
    exact g_lret C hr (Or.inl ⟨hno, rfl⟩) dX1_field_50
  refine g_aload_n C dX1_field_0 (k := ?_)
  refine g_lload_n C dX1_field_1 (k := ?_)
  refine g_lconst C (lN 1) dX1_field_2 (k := ?_)
  by_cases h1 : x ≤ lN 1
  · refine g_lc_le (tgt := 38) C dX1_field_3 dX1_field_4 (by decide) (fun _ => ?_) (fun h => absurd h1 h)
    refine hbad ?_
    rintro ⟨m, hm, -, rfl⟩
    have := (pk_lLE (by omega) (by decide)).mp h1
    omega
  · refine g_lc_le (tgt := 38) C dX1_field_3 dX1_field_4 (by decide) (fun h => absurd h h1) (fun _ => ?_)
    have hx0 : ¬ x < 0 := fun h => h1 (Int64.le_of_lt (Int64.lt_trans h (by decide)))
    obtain ⟨n, hn63, rfl⟩ := pk_lOf hx0
    have hn2 : 2 ≤ n := by
      rcases Nat.lt_or_ge n 2 with h | h
      · exact absurd ((pk_lLE hn63 (by decide)).mpr (by omega)) h1
      · exact h
    refine g_lload_n C dX1_field_7 (k := ?_)
    refine g_ldc2 (v := 2147483647) C (by decide +kernel) dX1_field_8 ?_
    refine g_tl (lN 2147483647) rfl ?_
    by_cases h2 : 2147483647 < n
    · refine g_lcN_gt (tgt := 38) C hn63 (by decide) dX1_field_11 dX1_field_12 (by decide) (fun _ => ?_) (fun h => absurd h (by omega))
      refine hbad ?_
      rintro ⟨m, hm, -, he⟩
      have := (pk_lEQ hn63 (by omega)).mp he
      omega
    · refine g_lcN_gt (tgt := 38) C hn63 (by decide) dX1_field_11 dX1_field_12 (by decide) (fun h => absurd h (by omega)) (fun _ => ?_)
      refine g_lload_n C dX1_field_15 (k := ?_)
      refine g_lconst C (lN 1) dX1_field_16 (k := ?_)
      refine gN_lsub C (by omega) dX1_field_17 ?_
      refine g_ldc2 (v := 512) C (by decide +kernel) dX1_field_18 ?_
      refine g_tl (lN 512) rfl ?_
      refine gN_lrem C (by omega) (by decide) (by decide) dX1_field_21 ?_
      refine g_lconst C (lN 0) dX1_field_22 (k := ?_)
      have hmm : (n - 1) % 512 < 512 := Nat.mod_lt _ (by decide)
      by_cases h3 : (n - 1) % 512 = 0
      · refine g_lcN_ne (tgt := 38) C (by omega) (by decide) dX1_field_23 dX1_field_24 (by decide) (fun h => absurd h3 h) (fun _ => ?_)
        have hfok : fok n := ⟨hn2, by omega, h3⟩
        refine g_lload_n C dX1_field_27 (k := ?_)
        refine g_cSi (n := 1) (av := [.long (lN n)]) C (by rw [hlM]; exact m_isPrime l hn2 (by omega)) gX1_field_X1_isPrime rfl ⟨rfl, rfl⟩ (by rw [hRM]; exact ⟨Nat.le_of_ble_eq_true rfl, Nat.le_of_ble_eq_true rfl⟩) (by rw [hRM]; exact ⟨Nat.le_of_ble_eq_true rfl, Nat.le_of_ble_eq_true rfl⟩) (Nat.le_of_ble_eq_true rfl) (by decide +kernel) rfl dX1_field_28 ?_
        rintro _ ct ⟨hpr, rfl⟩
        rcases hpr with ⟨rfl, hpr⟩ | ⟨rfl, hpr⟩
        · refine g_ifN_eq (tgt := 38) C (by decide) dX1_field_31 (by decide) (fun h => absurd h (by decide)) (fun _ => ?_)
          obtain ⟨g1, hls, hg1⟩ := hroot n hfok hpr
          refine g_iconst C (nI 0) dX1_field_34 (k := ?_)
          refine g_goto (tgt := 39) C dX1_field_35 (k := ?_)
          refine g_putf (Cn := RX1) (T := TX1) (n := 8) (ref := "WheelProductsModel") (ty := .int) C 20 0 h20 e20 rfl (by decide +kernel) tyX1 tyX1_ok nmX1 (by decide) (by decide +kernel) (fun _ h => h) rfl (by decide +kernel) rfl rfl (Nat.le_of_ble_eq_true rfl) dX1_field_39 ?_
          refine g_ct (ct' := va_up (ct) 20 (obM (nI 0) p g ad)) rfl ?_
          refine g_aload_n C dX1_field_42 (k := ?_)
          refine g_getf (Cn := RX1) (T := TX1) (n := 8) (ref := "WheelProductsModel") C 20 0 h20 (va_up_self _ _ _) rfl (by decide +kernel) (by decide) (by decide +kernel) (fun _ h => h) rfl dX1_field_43 ?_
          refine g_ifN_le (tgt := 51) C (by decide) dX1_field_46 (by decide) (fun _ => ?_) (fun h => absurd h (by decide))
          refine g_aload_n C dX1_field_51 (k := ?_)
          refine g_lload_n C dX1_field_52 (k := ?_)
          refine g_putf (Cn := RX1) (T := TX1) (n := 8) (ref := "WheelProductsModel") (ty := .long) C 20 1 h20 (va_up_self _ _ _) rfl (by decide +kernel) tyX1 tyX1_ok nmX1 (by decide) (by decide +kernel) (fun _ h => h) rfl (by decide +kernel) rfl rfl (Nat.le_of_ble_eq_true rfl) dX1_field_53 ?_
          rw [bx_uu]
          refine g_ct (ct' := va_up ct 20 (obM (nI 0) n g ad)) rfl ?_
          refine g_aload_n C dX1_field_56 (k := ?_)
          refine g_lload_n C dX1_field_57 (k := ?_)
          refine g_cSl (n := 1) (av := [.long (lN n)]) C (by rw [hlM]; exact m_rootOf l (by omega) (by omega) hls hg1) gX1_field_X1_rootOf rfl ⟨rfl, rfl⟩ (by rw [hRM]; exact ⟨Nat.le_of_ble_eq_true rfl, Nat.le_of_ble_eq_true rfl⟩) (by rw [hRM]; exact ⟨Nat.le_of_ble_eq_true rfl, Nat.le_of_ble_eq_true rfl⟩) (Nat.le_of_ble_eq_true rfl) (by decide +kernel) rfl dX1_field_58 ?_
          rintro _ _ ⟨rfl, rfl⟩
          refine g_putf (Cn := RX1) (T := TX1) (n := 8) (ref := "WheelProductsModel") (ty := .long) C 20 2 h20 (va_up_self _ _ _) rfl (by decide +kernel) tyX1 tyX1_ok nmX1 (by decide) (by decide +kernel) (fun _ h => h) rfl (by decide +kernel) rfl rfl (Nat.le_of_ble_eq_true rfl) dX1_field_61 ?_
          rw [bx_uu]
          refine g_ct (ct' := va_up ct 20 (obM (nI 0) n g1 ad)) rfl ?_
          have loop : ∀ (d i : Nat), 3072 = i + d → gW M D vwCl (ixA N ad sz) 4 0 0 (MQ (gb M) (va_Ql (fun r ct1 => ((¬ ∃ n_1, fok n_1 ∧ prm n_1 ∧ lN n = lN n_1) ∧ ct1 = va_up ct 20 (obM (nI 1) p g ad)) ∨ (∃ n_1 g1, fok n_1 ∧ prm n_1 ∧ lN n = lN n_1 ∧ lsR n_1 g1 ∧ g1 < 2 ^ 31 ∧ r = lN g1 ∧ ct1 = va_up (va_up ct 20 (obM (nI 0) n_1 g1 ad)) 21 (LN cJ 3072 (fun _ => 0)))) (gB D vwCl tys N ad (ixA N ad sz)) (ixA N ad sz)) (ga M) (gs M) 0 0 (ixA N ad sz)) N ad 66 [(0, some (.ref (ad 20))), (3, some (.int (nI i)))] [] (va_up (va_up ct 20 (obM (nI 0) n g1 ad)) 21 (LN cJ 3072 (fun k => if k < i then 0 else c k))) := by
            intro d
            induction d with
            | zero =>
              intro i hd
              have hi : i = 3072 := by omega
              subst hi
              refine g_iload_n C dX1_field_66 (k := ?_)
              refine g_sipush C (nI 3072) dX1_field_67 (k := ?_)
              refine g_icN_ge (tgt := 86) C (by decide) (by decide) dX1_field_70 (by decide) (fun _ => ?_) (fun h => absurd h (by decide))
              refine g_ext 21 (va_up_self _ _ _) (g := fun k => lN ((fun _ => 0) k)) (fun k hk => by show lN (if k < 3072 then 0 else c k) = _; rw [if_pos hk]) ?_
              rw [bx_uu]
              refine g_aload_n C dX1_field_86 (k := ?_)
              refine g_getf (Cn := RX1) (T := TX1) (n := 8) (ref := "WheelProductsModel") C 20 2 h20 (by rw [va_up_ne _ _ (by decide), va_up_self]) rfl (by decide +kernel) (by decide) (by decide +kernel) (fun _ h => h) rfl dX1_field_87 ?_
              exact g_lret C hr (Or.inr ⟨n, g1, hfok, hpr, rfl, hls, hg1, rfl, rfl⟩) dX1_field_90
            | succ d ih =>
              intro i hd
              refine g_iload_n C dX1_field_66 (k := ?_)
              refine g_sipush C (nI 3072) dX1_field_67 (k := ?_)
              refine g_icN_ge (tgt := 86) C (by omega) (by decide) dX1_field_70 (by decide) (fun h => absurd h (by omega)) (fun _ => ?_)
              refine g_aload_n C dX1_field_73 (k := ?_)
              refine g_getf (Cn := RX1) (T := TX1) (n := 8) (ref := "WheelProductsModel") C 20 3 h20 (by rw [va_up_ne _ _ (by decide), va_up_self]) rfl (by decide +kernel) (by decide) (by decide +kernel) (fun _ h => h) rfl dX1_field_74 ?_
              refine g_iload_n C dX1_field_77 (k := ?_)
              refine g_lconst C (lN 0) dX1_field_78 (k := ?_)
              refine gN_last C 21 h21 (va_up_self _ _ _) ht (by omega) (by decide) dX1_field_79 ?_
              refine gN_inc C dX1_field_80 (k := ?_)
              refine g_goto (tgt := 66) C dX1_field_83 (k := ?_)
              have e : nu (fun k => if k < i then 0 else c k) i 0 = fun k => if k < i + 1 then 0 else c k := by
                funext k
                unfold nu
                by_cases h1 : k = i
                · rw [if_pos h1, if_pos (by omega)]
                · rw [if_neg h1]
                  show (if k < i then 0 else c k) = _
                  by_cases h2 : k < i
                  · rw [if_pos h2, if_pos (by omega)]
                  · rw [if_neg h2, if_neg (by omega)]
              rw [bx_uu, e]
              exact g_l2 (ih (i + 1) (by omega)) ⟨Or.inr rfl, Or.inr rfl, trivial⟩
          refine g_iconst C (nI 0) dX1_field_64 (k := ?_)
          refine g_istore_n C dX1_field_65 (k := ?_)
          refine g_ct (ct' := va_up (va_up ct 20 (obM (nI 0) n g1 ad)) 21 (LN cJ 3072 (fun k => if k < 0 then 0 else c k))) ?_ ?_
          · have : (fun k => if k < 0 then 0 else c k) = c := funext fun k => if_neg (by omega)
            rw [this]
            exact (up_id (q := 21) (by rw [va_up_ne _ _ (by decide)]; exact ec)).symm
          · exact g_l2 (loop 3072 0 (by omega)) ⟨Or.inr rfl, Or.inr rfl, trivial⟩
        · refine g_ifN_eq (tgt := 38) C (by decide) dX1_field_31 (by decide) (fun _ => ?_) (fun h => absurd rfl h)
          refine hbad ?_
          rintro ⟨m, hm, hpm, he⟩
          have := (pk_lEQ hn63 (by omega)).mp he
          subst this
          exact hpr hpm
      · refine g_lcN_ne (tgt := 38) C (by omega) (by decide) dX1_field_23 dX1_field_24 (by decide) (fun _ => ?_) (fun h => absurd h h3)
        refine hbad ?_
        rintro ⟨m, hm, hpm, he⟩
        have := (pk_lEQ hn63 (by omega)).mp he
        subst this
        exact h3 hm.2.2
/-! ===== the reference's turn ===== -/
def dsm (p n b j : Nat) (v : Nat → Nat) : Nat → Nat
  | 0 => 0
  | m + 1 => (dsm p n b j v m + v m * (b ^ (m * j % n) % p)) % p
def mtr (p n b sh : Nat) (v : Nat → Nat) : Nat → Nat := fun j => dsm p n b j v n * sh % p
theorem dsm_lt {p n b j : Nat} {v : Nat → Nat} (hp : 0 < p) : ∀ m, dsm p n b j v m < p
  | 0 => hp
  | m + 1 => Nat.mod_lt _ hp

abbrev rmt : Room := { frames := 1, cells := 0, slots := 0, locals := 31 }
set_option maxRecDepth 100000 in
set_option maxHeartbeats 4000000 in
theorem m_turn (l : Launch) {D : va_G} {tys : List (ClassId × FieldType)} {N : Nat} {ad : Nat → Nat} {ct : Nat → va_E} (hN : 26 ≤ N) {cJ : ClassId} {th : Int32} {p g : Nat} {c wd : Nat → Nat} (e20 : ct 20 = obM th p g ad) (ec : ct 21 = LN cJ 3072 c) (ew : ct 22 = LN cJ 1440 wd) (ht : tys[0]? = some (cJ, .long)) (hp1 : 512 < p) (hp2 : p < 2 ^ 31) (hc : ∀ k, k < 3072 → c k < p) (hw : ∀ k, k < 1440 → wd k < 2 ^ 32) {wk pw : Nat → Nat} (ek : ct 23 = LN cJ 512 wk) (ep : ct 24 = LN cJ 512 pw) (hg : g < p) (x y b : Int32) :
    gMv l yX1_turn wsX1_turn rmt D vwCl tys N ad [.ref (ad 20), .int x, .int y, .int b] ct (fun ct1 => (¬ ir x 6 ∧ ct1 = va_up ct 20 (obM (nI 1) p g ad)) ∨ (ir x 6 ∧ ¬ pw2 y ∧ ct1 = va_up ct 20 (obM (nI 2) p g ad)) ∨ (∃ i K, i < 6 ∧ K < 10 ∧ x = nI i ∧ y = nI (2 ^ K) ∧ ∃ f24 f23, ct1 = va_up (va_up (va_up (va_up ct 20 (obM (nI 0) p g ad)) 24 (LN cJ 512 f24)) 23 (LN cJ 512 f23)) 21 (LN cJ 3072 (fr 512 i (2 ^ K) (mtr p (2 ^ K) (if b = 0 then g ^ ((p - 1) / 2 ^ K) % p else (g ^ ((p - 1) / 2 ^ K) % p) ^ (p - 2) % p) (if b = 0 then 1 else (2 ^ K) ^ (p - 2) % p) (fun k => c (512 * i + k))) c)))) := by
  refine gof_v (cc := cX1_turn) (maxL := 16) (by decide) rfl (Nat.le_of_ble_eq_true rfl) ?_
  intro M sz C hlM hRM hr hsz
  have h20 : 20 < N := by omega
  have h21 : 21 < N := by omega
  have h22 : 22 < N := by omega
  have h23 : 23 < N := by omega
  have h24 : 24 < N := by omega
  have hgood : ∀ (i K : Nat), i < 6 → K < 10 → x = nI i → y = nI (2 ^ K) → gW M D vwCl (ixA N ad sz) 16 0 0 (MQ (gb M) (va_Qv (fun ct1 => (¬ ir x 6 ∧ ct1 = va_up ct 20 (obM (nI 1) p g ad)) ∨ (ir x 6 ∧ ¬ pw2 y ∧ ct1 = va_up ct 20 (obM (nI 2) p g ad)) ∨ (∃ i K, i < 6 ∧ K < 10 ∧ x = nI i ∧ y = nI (2 ^ K) ∧ ∃ f24 f23, ct1 = va_up (va_up (va_up (va_up ct 20 (obM (nI 0) p g ad)) 24 (LN cJ 512 f24)) 23 (LN cJ 512 f23)) 21 (LN cJ 3072 (fr 512 i (2 ^ K) (mtr p (2 ^ K) (if b = 0 then g ^ ((p - 1) / 2 ^ K) % p else (g ^ ((p - 1) / 2 ^ K) % p) ^ (p - 2) % p) (if b = 0 then 1 else (2 ^ K) ^ (p - 2) % p) (fun k => c (512 * i + k))) c)))) (gB D vwCl tys N ad (ixA N ad sz)) (ixA N ad sz)) (ga M) (gs M) 0 0 (ixA N ad sz)) N ad 60 (lva 0 [.ref (ad 20), .int x, .int y, .int b]) [] (va_up ct 20 (obM (nI 0) p g ad)) := by
    rintro i K hi hK rfl rfl
    have hpos : 0 < 2 ^ K := Nat.pow_pos (by decide)
    have hKn : 2 ^ K ≤ 512 := show 2 ^ K ≤ 2 ^ 9 from Nat.pow_le_pow_right (by decide) (by omega)
    have hdl : (p - 1) / 2 ^ K ≤ p - 1 := Nat.div_le_self _ _
    have hwl : g ^ ((p - 1) / 2 ^ K) % p < p := Nat.mod_lt _ (by omega)
    refine g_aload_n C dX1_turn_60 (k := ?_)
    refine g_getf (Cn := RX1) (T := TX1) (n := 8) (ref := "WheelProductsModel") C 20 2 h20 (va_up_self _ _ _) rfl (by decide +kernel) (by decide) (by decide +kernel) (fun _ h => h) rfl dX1_turn_61 ?_
    refine g_aload_n C dX1_turn_64 (k := ?_)
    refine g_getf (Cn := RX1) (T := TX1) (n := 8) (ref := "WheelProductsModel") C 20 1 h20 (va_up_self _ _ _) rfl (by decide +kernel) (by decide) (by decide +kernel) (fun _ h => h) rfl dX1_turn_65 ?_
    refine g_lconst C (lN 1) dX1_turn_68 (k := ?_)
    refine gN_lsub C (by omega) dX1_turn_69 ?_
    refine g_iload_n C dX1_turn_70 (k := ?_)
    refine gN_i2l C (by omega) dX1_turn_71 ?_
    refine gN_ldiv C (by omega) hpos (by omega) dX1_turn_72 ?_
    refine g_aload_n C dX1_turn_73 (k := ?_)
    refine g_getf (Cn := RX1) (T := TX1) (n := 8) (ref := "WheelProductsModel") C 20 1 h20 (va_up_self _ _ _) rfl (by decide +kernel) (by decide) (by decide +kernel) (fun _ h => h) rfl dX1_turn_74 ?_
    refine g_cSl (n := 3) (av := [.long (lN (g)), .long (lN ((p - 1) / 2 ^ K)), .long (lN p)]) C (by rw [hlM]; exact m_raise l (by omega) (by omega) (by omega) hp2) gX1_turn_X1_raise rfl ⟨rfl, rfl⟩ (by rw [hRM]; exact ⟨Nat.le_of_ble_eq_true rfl, Nat.le_of_ble_eq_true rfl⟩) (by rw [hRM]; exact ⟨Nat.le_of_ble_eq_true rfl, Nat.le_of_ble_eq_true rfl⟩) (Nat.le_of_ble_eq_true rfl) (by decide +kernel) rfl dX1_turn_77 ?_
    rintro _ _ ⟨rfl, rfl⟩
    have hby : ∀ (lv : gLv) (k : gW M D vwCl (ixA N ad sz) 16 0 0 (MQ (gb M) (va_Qv (fun ct1 => (¬ ir (nI i) 6 ∧ ct1 = va_up ct 20 (obM (nI 1) p g ad)) ∨ (ir (nI i) 6 ∧ ¬ pw2 (nI (2 ^ K)) ∧ ct1 = va_up ct 20 (obM (nI 2) p g ad)) ∨ (∃ i_1 K_1, i_1 < 6 ∧ K_1 < 10 ∧ nI i = nI i_1 ∧ nI (2 ^ K) = nI (2 ^ K_1) ∧ ∃ f24 f23, ct1 = va_up (va_up (va_up (va_up ct 20 (obM (nI 0) p g ad)) 24 (LN cJ 512 f24)) 23 (LN cJ 512 f23)) 21 (LN cJ 3072 (fr 512 i_1 (2 ^ K_1) (mtr p (2 ^ K_1) (if b = 0 then g ^ ((p - 1) / 2 ^ K_1) % p else (g ^ ((p - 1) / 2 ^ K_1) % p) ^ (p - 2) % p) (if b = 0 then 1 else (2 ^ K_1) ^ (p - 2) % p) (fun k => c (512 * i_1 + k))) c)))) (gB D vwCl tys N ad (ixA N ad sz)) (ixA N ad sz)) (ga M) (gs M) 0 0 (ixA N ad sz)) N ad 108 lv [.long (lN (if b = 0 then g ^ ((p - 1) / 2 ^ K) % p else (g ^ ((p - 1) / 2 ^ K) % p) ^ (p - 2) % p))] (va_up ct 20 (obM (nI 0) p g ad))), lvq lv 3 = some (.int b) → lvq lv 0 = some (.ref (ad 20)) → lvq lv 5 = some (.long (lN (g ^ ((p - 1) / 2 ^ K) % p))) → gW M D vwCl (ixA N ad sz) 16 0 0 (MQ (gb M) (va_Qv (fun ct1 => (¬ ir (nI i) 6 ∧ ct1 = va_up ct 20 (obM (nI 1) p g ad)) ∨ (ir (nI i) 6 ∧ ¬ pw2 (nI (2 ^ K)) ∧ ct1 = va_up ct 20 (obM (nI 2) p g ad)) ∨ (∃ i_1 K_1, i_1 < 6 ∧ K_1 < 10 ∧ nI i = nI i_1 ∧ nI (2 ^ K) = nI (2 ^ K_1) ∧ ∃ f24 f23, ct1 = va_up (va_up (va_up (va_up ct 20 (obM (nI 0) p g ad)) 24 (LN cJ 512 f24)) 23 (LN cJ 512 f23)) 21 (LN cJ 3072 (fr 512 i_1 (2 ^ K_1) (mtr p (2 ^ K_1) (if b = 0 then g ^ ((p - 1) / 2 ^ K_1) % p else (g ^ ((p - 1) / 2 ^ K_1) % p) ^ (p - 2) % p) (if b = 0 then 1 else (2 ^ K_1) ^ (p - 2) % p) (fun k => c (512 * i_1 + k))) c)))) (gB D vwCl tys N ad (ixA N ad sz)) (ixA N ad sz)) (ga M) (gs M) 0 0 (ixA N ad sz)) N ad 82 lv [] (va_up ct 20 (obM (nI 0) p g ad)) := by
      intro lv k h3 h00 h5
      refine g_iload_n C dX1_turn_82 h3 ?_
      by_cases hb : b = 0
      · refine g_if_eq (tgt := 106) C dX1_turn_83 (by decide) (fun _ => ?_) (fun h => absurd hb h)
        refine g_lload C dX1_turn_106 h5 ?_
        rw [if_pos hb] at k
        exact k
      · refine g_if_eq (tgt := 106) C dX1_turn_83 (by decide) (fun h => absurd h hb) (fun _ => ?_)
        refine g_lload C dX1_turn_86 h5 ?_
        refine g_aload_n C dX1_turn_88 h00 ?_
        refine g_getf (Cn := RX1) (T := TX1) (n := 8) (ref := "WheelProductsModel") C 20 1 h20 (va_up_self _ _ _) rfl (by decide +kernel) (by decide) (by decide +kernel) (fun _ h => h) rfl dX1_turn_89 ?_
        refine g_ldc2 (v := 2) C (by decide +kernel) dX1_turn_92 ?_
        refine g_tl (lN 2) rfl ?_
        refine gN_lsub C (by omega) dX1_turn_95 ?_
        refine g_aload_n C dX1_turn_96 h00 ?_
        refine g_getf (Cn := RX1) (T := TX1) (n := 8) (ref := "WheelProductsModel") C 20 1 h20 (va_up_self _ _ _) rfl (by decide +kernel) (by decide) (by decide +kernel) (fun _ h => h) rfl dX1_turn_97 ?_
        refine g_cSl (n := 3) (av := [.long (lN (g ^ ((p - 1) / 2 ^ K) % p)), .long (lN (p - 2)), .long (lN p)]) C (by rw [hlM]; exact m_raise l (by omega) (by omega) (by omega) hp2) gX1_turn_X1_raise rfl ⟨rfl, rfl⟩ (by rw [hRM]; exact ⟨Nat.le_of_ble_eq_true rfl, Nat.le_of_ble_eq_true rfl⟩) (by rw [hRM]; exact ⟨Nat.le_of_ble_eq_true rfl, Nat.le_of_ble_eq_true rfl⟩) (Nat.le_of_ble_eq_true rfl) (by decide +kernel) rfl dX1_turn_100 ?_
        rintro _ _ ⟨rfl, rfl⟩
        refine g_goto (tgt := 108) C dX1_turn_103 (k := ?_)
        rw [if_neg hb] at k
        exact k
    have hshr : ∀ (lv : gLv) (k : gW M D vwCl (ixA N ad sz) 16 0 0 (MQ (gb M) (va_Qv (fun ct1 => (¬ ir (nI i) 6 ∧ ct1 = va_up ct 20 (obM (nI 1) p g ad)) ∨ (ir (nI i) 6 ∧ ¬ pw2 (nI (2 ^ K)) ∧ ct1 = va_up ct 20 (obM (nI 2) p g ad)) ∨ (∃ i_1 K_1, i_1 < 6 ∧ K_1 < 10 ∧ nI i = nI i_1 ∧ nI (2 ^ K) = nI (2 ^ K_1) ∧ ∃ f24 f23, ct1 = va_up (va_up (va_up (va_up ct 20 (obM (nI 0) p g ad)) 24 (LN cJ 512 f24)) 23 (LN cJ 512 f23)) 21 (LN cJ 3072 (fr 512 i_1 (2 ^ K_1) (mtr p (2 ^ K_1) (if b = 0 then g ^ ((p - 1) / 2 ^ K_1) % p else (g ^ ((p - 1) / 2 ^ K_1) % p) ^ (p - 2) % p) (if b = 0 then 1 else (2 ^ K_1) ^ (p - 2) % p) (fun k => c (512 * i_1 + k))) c)))) (gB D vwCl tys N ad (ixA N ad sz)) (ixA N ad sz)) (ga M) (gs M) 0 0 (ixA N ad sz)) N ad 135 lv [.long (lN (if b = 0 then 1 else (2 ^ K) ^ (p - 2) % p))] (va_up ct 20 (obM (nI 0) p g ad))), lvq lv 3 = some (.int b) → lvq lv 0 = some (.ref (ad 20)) → lvq lv 2 = some (.int (nI (2 ^ K))) → gW M D vwCl (ixA N ad sz) 16 0 0 (MQ (gb M) (va_Qv (fun ct1 => (¬ ir (nI i) 6 ∧ ct1 = va_up ct 20 (obM (nI 1) p g ad)) ∨ (ir (nI i) 6 ∧ ¬ pw2 (nI (2 ^ K)) ∧ ct1 = va_up ct 20 (obM (nI 2) p g ad)) ∨ (∃ i_1 K_1, i_1 < 6 ∧ K_1 < 10 ∧ nI i = nI i_1 ∧ nI (2 ^ K) = nI (2 ^ K_1) ∧ ∃ f24 f23, ct1 = va_up (va_up (va_up (va_up ct 20 (obM (nI 0) p g ad)) 24 (LN cJ 512 f24)) 23 (LN cJ 512 f23)) 21 (LN cJ 3072 (fr 512 i_1 (2 ^ K_1) (mtr p (2 ^ K_1) (if b = 0 then g ^ ((p - 1) / 2 ^ K_1) % p else (g ^ ((p - 1) / 2 ^ K_1) % p) ^ (p - 2) % p) (if b = 0 then 1 else (2 ^ K_1) ^ (p - 2) % p) (fun k => c (512 * i_1 + k))) c)))) (gB D vwCl tys N ad (ixA N ad sz)) (ixA N ad sz)) (ga M) (gs M) 0 0 (ixA N ad sz)) N ad 110 lv [] (va_up ct 20 (obM (nI 0) p g ad)) := by
      intro lv k h3 h00 h2
      refine g_iload_n C dX1_turn_110 h3 ?_
      by_cases hb : b = 0
      · refine g_if_eq (tgt := 134) C dX1_turn_111 (by decide) (fun _ => ?_) (fun h => absurd hb h)
        refine g_lconst C (lN 1) dX1_turn_134 (k := ?_)
        rw [if_pos hb] at k
        exact k
      · refine g_if_eq (tgt := 134) C dX1_turn_111 (by decide) (fun h => absurd h hb) (fun _ => ?_)
        refine g_iload_n C dX1_turn_114 h2 ?_
        refine gN_i2l C (by omega) dX1_turn_115 ?_
        refine g_aload_n C dX1_turn_116 h00 ?_
        refine g_getf (Cn := RX1) (T := TX1) (n := 8) (ref := "WheelProductsModel") C 20 1 h20 (va_up_self _ _ _) rfl (by decide +kernel) (by decide) (by decide +kernel) (fun _ h => h) rfl dX1_turn_117 ?_
        refine g_ldc2 (v := 2) C (by decide +kernel) dX1_turn_120 ?_
        refine g_tl (lN 2) rfl ?_
        refine gN_lsub C (by omega) dX1_turn_123 ?_
        refine g_aload_n C dX1_turn_124 h00 ?_
        refine g_getf (Cn := RX1) (T := TX1) (n := 8) (ref := "WheelProductsModel") C 20 1 h20 (va_up_self _ _ _) rfl (by decide +kernel) (by decide) (by decide +kernel) (fun _ h => h) rfl dX1_turn_125 ?_
        refine g_cSl (n := 3) (av := [.long (lN (2 ^ K)), .long (lN (p - 2)), .long (lN p)]) C (by rw [hlM]; exact m_raise l (by omega) (by omega) (by omega) hp2) gX1_turn_X1_raise rfl ⟨rfl, rfl⟩ (by rw [hRM]; exact ⟨Nat.le_of_ble_eq_true rfl, Nat.le_of_ble_eq_true rfl⟩) (by rw [hRM]; exact ⟨Nat.le_of_ble_eq_true rfl, Nat.le_of_ble_eq_true rfl⟩) (Nat.le_of_ble_eq_true rfl) (by decide +kernel) rfl dX1_turn_128 ?_
        rintro _ _ ⟨rfl, rfl⟩
        refine g_goto (tgt := 135) C dX1_turn_131 (k := ?_)
        rw [if_neg hb] at k
        exact k
    have hbyl : (if b = 0 then g ^ ((p - 1) / 2 ^ K) % p else (g ^ ((p - 1) / 2 ^ K) % p) ^ (p - 2) % p) < p := by split <;> exact Nat.mod_lt _ (by omega)
    have hshl : (if b = 0 then 1 else (2 ^ K) ^ (p - 2) % p) < p := by
      split
      · omega
      · exact Nat.mod_lt _ (by omega)
    refine g_lstore C dX1_turn_80 (k := ?_)
    refine hby _ ?_ rfl rfl rfl
    refine g_lstore C dX1_turn_108 (k := ?_)
    refine hshr _ ?_ rfl rfl rfl
    refine g_lstore C dX1_turn_135 (k := ?_)
    refine g_l2 (lv' := [(0, some (.ref (ad 20))), (1, some (.int (nI i))), (2, some (.int (nI (2 ^ K)))), (7, some (.long (lN (if b = 0 then g ^ ((p - 1) / 2 ^ K) % p else (g ^ ((p - 1) / 2 ^ K) % p) ^ (p - 2) % p)))), (9, some (.long (lN (if b = 0 then 1 else (2 ^ K) ^ (p - 2) % p))))]) ?_ ⟨Or.inr rfl, Or.inr rfl, Or.inr rfl, Or.inr rfl, Or.inr rfl, trivial⟩
    generalize hBe : (if b = 0 then g ^ ((p - 1) / 2 ^ K) % p else (g ^ ((p - 1) / 2 ^ K) % p) ^ (p - 2) % p) = B at hbyl
    generalize hSe : (if b = 0 then 1 else (2 ^ K) ^ (p - 2) % p) = sh at hshl
    generalize hVe : (fun k => c (512 * i + k)) = v
    have hve : ∀ k, v k = c (512 * i + k) := fun k => by rw [← hVe]
    have hvl : ∀ k, k < 512 → v k < p := fun k hk => by rw [hve]; exact hc _ (by omega)
    have loop3 : ∀ (f24 f23 : Nat → Nat), (∀ j, j < 2 ^ K → f23 j = mtr p (2 ^ K) B sh v j) → ∀ (d j : Nat), 2 ^ K = j + d → gW M D vwCl (ixA N ad sz) 16 0 0 (MQ (gb M) (va_Qv (fun ct1 => (¬ ir (nI i) 6 ∧ ct1 = va_up ct 20 (obM (nI 1) p g ad)) ∨ (ir (nI i) 6 ∧ ¬ pw2 (nI (2 ^ K)) ∧ ct1 = va_up ct 20 (obM (nI 2) p g ad)) ∨ (∃ i_1 K_1, i_1 < 6 ∧ K_1 < 10 ∧ nI i = nI i_1 ∧ nI (2 ^ K) = nI (2 ^ K_1) ∧ ∃ f24 f23, ct1 = va_up (va_up (va_up (va_up ct 20 (obM (nI 0) p g ad)) 24 (LN cJ 512 f24)) 23 (LN cJ 512 f23)) 21 (LN cJ 3072 (fr 512 i_1 (2 ^ K_1) (mtr p (2 ^ K_1) (if b = 0 then g ^ ((p - 1) / 2 ^ K_1) % p else (g ^ ((p - 1) / 2 ^ K_1) % p) ^ (p - 2) % p) (if b = 0 then 1 else (2 ^ K_1) ^ (p - 2) % p) (fun k => c (512 * i_1 + k))) c)))) (gB D vwCl tys N ad (ixA N ad sz)) (ixA N ad sz)) (ga M) (gs M) 0 0 (ixA N ad sz)) N ad 281 [(0, some (.ref (ad 20))), (1, some (.int (nI i))), (2, some (.int (nI (2 ^ K)))), (7, some (.long (lN B))), (9, some (.long (lN sh))), (11, some (.int (nI j)))] [] (va_up (va_up (va_up (va_up ct 20 (obM (nI 0) p g ad)) 24 (LN cJ 512 f24)) 23 (LN cJ 512 f23)) 21 (LN cJ 3072 (fr 512 i j (mtr p (2 ^ K) B sh v) c))) := by
      intro f24 f23 hf d
      induction d with
      | zero =>
        intro j hd
        have hj : 2 ^ K = j := by omega
        refine g_iload C dX1_turn_281 (k := ?_)
        refine g_iload_n C dX1_turn_283 (k := ?_)
        refine g_icN_ge (tgt := 313) C (by omega) (by omega) dX1_turn_284 (by decide) (fun _ => ?_) (fun h => absurd h (by omega))
        refine g_vret C hr (Or.inr (Or.inr ⟨i, K, hi, hK, rfl, rfl, f24, f23, ?_⟩)) dX1_turn_313
        rw [hBe, hSe, hVe, ← hj]
      | succ d ih =>
        intro j hd
        refine g_iload C dX1_turn_281 (k := ?_)
        refine g_iload_n C dX1_turn_283 (k := ?_)
        refine g_icN_ge (tgt := 313) C (by omega) (by omega) dX1_turn_284 (by decide) (fun h => absurd h (by omega)) (fun _ => ?_)
        refine g_aload_n C dX1_turn_287 (k := ?_)
        refine g_getf (Cn := RX1) (T := TX1) (n := 8) (ref := "WheelProductsModel") C 20 3 h20 (by (repeat rw [va_up_ne _ _ (by decide)]); rw [va_up_self]) rfl (by decide +kernel) (by decide) (by decide +kernel) (fun _ h => h) rfl dX1_turn_288 ?_
        refine g_sipush C (nI 512) dX1_turn_291 (k := ?_)
        refine g_iload_n C dX1_turn_294 (k := ?_)
        refine gN_imul C dX1_turn_295 ?_
        refine g_iload C dX1_turn_296 (k := ?_)
        refine gN_iadd C dX1_turn_298 ?_
        refine g_aload_n C dX1_turn_299 (k := ?_)
        refine g_getf (Cn := RX1) (T := TX1) (n := 8) (ref := "WheelProductsModel") C 20 5 h20 (by (repeat rw [va_up_ne _ _ (by decide)]); rw [va_up_self]) rfl (by decide +kernel) (by decide) (by decide +kernel) (fun _ h => h) rfl dX1_turn_300 ?_
        refine g_iload C dX1_turn_303 (k := ?_)
        refine gN_lald C 23 h23 (by rw [va_up_ne _ _ (by decide), va_up_self]) ht (by omega) (by decide) dX1_turn_305 ?_
        rw [hf j (by omega)]
        refine gN_last C 21 h21 (va_up_self _ _ _) ht (by omega) (by decide) dX1_turn_306 ?_
        rw [bx_uu, fr_s]
        refine gN_inc C dX1_turn_307 (k := ?_)
        refine g_goto (tgt := 281) C dX1_turn_310 (k := ?_)
        exact g_l2 (ih (j + 1) (by omega)) ⟨Or.inr rfl, Or.inr rfl, Or.inr rfl, Or.inr rfl, Or.inr rfl, Or.inr rfl, trivial⟩
    have loop2 : ∀ (f24 : Nat → Nat), (∀ k, k < 2 ^ K → f24 k = B ^ k % p) → ∀ (d j : Nat), 2 ^ K = j + d → gW M D vwCl (ixA N ad sz) 16 0 0 (MQ (gb M) (va_Qv (fun ct1 => (¬ ir (nI i) 6 ∧ ct1 = va_up ct 20 (obM (nI 1) p g ad)) ∨ (ir (nI i) 6 ∧ ¬ pw2 (nI (2 ^ K)) ∧ ct1 = va_up ct 20 (obM (nI 2) p g ad)) ∨ (∃ i_1 K_1, i_1 < 6 ∧ K_1 < 10 ∧ nI i = nI i_1 ∧ nI (2 ^ K) = nI (2 ^ K_1) ∧ ∃ f24 f23, ct1 = va_up (va_up (va_up (va_up ct 20 (obM (nI 0) p g ad)) 24 (LN cJ 512 f24)) 23 (LN cJ 512 f23)) 21 (LN cJ 3072 (fr 512 i_1 (2 ^ K_1) (mtr p (2 ^ K_1) (if b = 0 then g ^ ((p - 1) / 2 ^ K_1) % p else (g ^ ((p - 1) / 2 ^ K_1) % p) ^ (p - 2) % p) (if b = 0 then 1 else (2 ^ K_1) ^ (p - 2) % p) (fun k => c (512 * i_1 + k))) c)))) (gB D vwCl tys N ad (ixA N ad sz)) (ixA N ad sz)) (ga M) (gs M) 0 0 (ixA N ad sz)) N ad 186 [(0, some (.ref (ad 20))), (1, some (.int (nI i))), (2, some (.int (nI (2 ^ K)))), (7, some (.long (lN B))), (9, some (.long (lN sh))), (11, some (.int (nI j)))] [] (va_up (va_up (va_up ct 20 (obM (nI 0) p g ad)) 24 (LN cJ 512 f24)) 23 (LN cJ 512 (fun k => if k < j then mtr p (2 ^ K) B sh v k else wk k))) := by
      intro f24 hf24 d
      induction d with
      | zero =>
        intro j hd
        have hj : 2 ^ K = j := by omega
        refine g_iload C dX1_turn_186 (k := ?_)
        refine g_iload_n C dX1_turn_188 (k := ?_)
        refine g_icN_ge (tgt := 278) C (by omega) (by omega) dX1_turn_189 (by decide) (fun _ => ?_) (fun h => absurd h (by omega))
        refine g_iconst C (nI 0) dX1_turn_278 (k := ?_)
        refine g_istore C dX1_turn_279 (k := ?_)
        have h9 := loop3 f24 (fun k => if k < j then mtr p (2 ^ K) B sh v k else wk k) (fun k hk => if_pos (by omega)) (2 ^ K) 0 (by omega)
        rw [fr_0, up_id (q := 21) (e := LN cJ 3072 c) (by (repeat rw [va_up_ne _ _ (by decide)]); exact ec)] at h9
        exact g_l2 h9 ⟨Or.inr rfl, Or.inr rfl, Or.inr rfl, Or.inr rfl, Or.inr rfl, Or.inr rfl, trivial⟩
      | succ d ih =>
        intro j hd
        have inner : ∀ (e m : Nat), 2 ^ K = m + e → gW M D vwCl (ixA N ad sz) 16 0 0 (MQ (gb M) (va_Qv (fun ct1 => (¬ ir (nI i) 6 ∧ ct1 = va_up ct 20 (obM (nI 1) p g ad)) ∨ (ir (nI i) 6 ∧ ¬ pw2 (nI (2 ^ K)) ∧ ct1 = va_up ct 20 (obM (nI 2) p g ad)) ∨ (∃ i_1 K_1, i_1 < 6 ∧ K_1 < 10 ∧ nI i = nI i_1 ∧ nI (2 ^ K) = nI (2 ^ K_1) ∧ ∃ f24 f23, ct1 = va_up (va_up (va_up (va_up ct 20 (obM (nI 0) p g ad)) 24 (LN cJ 512 f24)) 23 (LN cJ 512 f23)) 21 (LN cJ 3072 (fr 512 i_1 (2 ^ K_1) (mtr p (2 ^ K_1) (if b = 0 then g ^ ((p - 1) / 2 ^ K_1) % p else (g ^ ((p - 1) / 2 ^ K_1) % p) ^ (p - 2) % p) (if b = 0 then 1 else (2 ^ K_1) ^ (p - 2) % p) (fun k => c (512 * i_1 + k))) c)))) (gB D vwCl tys N ad (ixA N ad sz)) (ixA N ad sz)) (ga M) (gs M) 0 0 (ixA N ad sz)) N ad 201 [(0, some (.ref (ad 20))), (1, some (.int (nI i))), (2, some (.int (nI (2 ^ K)))), (7, some (.long (lN B))), (9, some (.long (lN sh))), (11, some (.int (nI j))), (12, some (.long (lN (dsm p (2 ^ K) B j v m)))), (14, some (.int (nI (m * j % 2 ^ K)))), (15, some (.int (nI m)))] [] (va_up (va_up (va_up ct 20 (obM (nI 0) p g ad)) 24 (LN cJ 512 f24)) 23 (LN cJ 512 (fun k => if k < j then mtr p (2 ^ K) B sh v k else wk k))) := by
          intro e
          induction e with
          | zero =>
            intro m hm
            have hmK : m = 2 ^ K := by omega
            have hdl := dsm_lt (n := 2 ^ K) (b := B) (j := j) (v := v) (show 0 < p by omega) m
            have hmul : dsm p (2 ^ K) B j v m * sh < 2 ^ 62 := Nat.lt_of_lt_of_le (Nat.mul_lt_mul'' (Nat.lt_trans hdl hp2) (Nat.lt_trans hshl hp2)) (by decide)
            refine g_iload C dX1_turn_201 (k := ?_)
            refine g_iload_n C dX1_turn_203 (k := ?_)
            refine g_icN_ge (tgt := 255) C (by omega) (by omega) dX1_turn_204 (by decide) (fun _ => ?_) (fun h => absurd h (by omega))
            refine g_aload_n C dX1_turn_255 (k := ?_)
            refine g_getf (Cn := RX1) (T := TX1) (n := 8) (ref := "WheelProductsModel") C 20 5 h20 (by (repeat rw [va_up_ne _ _ (by decide)]); rw [va_up_self]) rfl (by decide +kernel) (by decide) (by decide +kernel) (fun _ h => h) rfl dX1_turn_256 ?_
            refine g_iload C dX1_turn_259 (k := ?_)
            refine g_lload C dX1_turn_261 (k := ?_)
            refine g_lload C dX1_turn_263 (k := ?_)
            refine gN_lmul C dX1_turn_265 ?_
            refine g_aload_n C dX1_turn_266 (k := ?_)
            refine g_getf (Cn := RX1) (T := TX1) (n := 8) (ref := "WheelProductsModel") C 20 1 h20 (by (repeat rw [va_up_ne _ _ (by decide)]); rw [va_up_self]) rfl (by decide +kernel) (by decide) (by decide +kernel) (fun _ h => h) rfl dX1_turn_267 ?_
            refine gN_lrem C (by omega) (by omega) (by omega) dX1_turn_270 ?_
            refine gN_last C 23 h23 (va_up_self _ _ _) ht (by omega) (by decide) dX1_turn_271 ?_
            have e9 : nu (fun k => if k < j then mtr p (2 ^ K) B sh v k else wk k) j (dsm p (2 ^ K) B j v m * sh % p) = fun k => if k < j + 1 then mtr p (2 ^ K) B sh v k else wk k := by
              funext k
              unfold nu
              by_cases h1 : k = j
              · subst h1; rw [if_pos rfl, if_pos (by omega), hmK]; rfl
              · rw [if_neg h1]
                show (if k < j then mtr p (2 ^ K) B sh v k else wk k) = _
                by_cases h2 : k < j
                · rw [if_pos h2, if_pos (by omega)]
                · rw [if_neg h2, if_neg (by omega)]
            rw [bx_uu, e9]
            refine gN_inc C dX1_turn_272 (k := ?_)
            refine g_goto (tgt := 186) C dX1_turn_275 (k := ?_)
            exact g_l2 (ih (j + 1) (by omega)) ⟨Or.inr rfl, Or.inr rfl, Or.inr rfl, Or.inr rfl, Or.inr rfl, Or.inr rfl, trivial⟩
          | succ e ihe =>
            intro m hm
            have hdl := dsm_lt (n := 2 ^ K) (b := B) (j := j) (v := v) (show 0 < p by omega) m
            have hat : m * j % 2 ^ K < 2 ^ K := Nat.mod_lt _ hpos
            have hpw : B ^ (m * j % 2 ^ K) % p < p := Nat.mod_lt _ (by omega)
            have hvm := hvl m (by omega)
            have hmul : v m * (B ^ (m * j % 2 ^ K) % p) < 2 ^ 62 := Nat.lt_of_lt_of_le (Nat.mul_lt_mul'' (Nat.lt_trans hvm hp2) (Nat.lt_trans hpw hp2)) (by decide)
            refine g_iload C dX1_turn_201 (k := ?_)
            refine g_iload_n C dX1_turn_203 (k := ?_)
            refine g_icN_ge (tgt := 255) C (by omega) (by omega) dX1_turn_204 (by decide) (fun h => absurd h (by omega)) (fun _ => ?_)
            refine g_lload C dX1_turn_207 (k := ?_)
            refine g_aload_n C dX1_turn_209 (k := ?_)
            refine g_getf (Cn := RX1) (T := TX1) (n := 8) (ref := "WheelProductsModel") C 20 3 h20 (by (repeat rw [va_up_ne _ _ (by decide)]); rw [va_up_self]) rfl (by decide +kernel) (by decide) (by decide +kernel) (fun _ h => h) rfl dX1_turn_210 ?_
            refine g_sipush C (nI 512) dX1_turn_213 (k := ?_)
            refine g_iload_n C dX1_turn_216 (k := ?_)
            refine gN_imul C dX1_turn_217 ?_
            refine g_iload C dX1_turn_218 (k := ?_)
            refine gN_iadd C dX1_turn_220 ?_
            refine gN_lald C 21 h21 (by (repeat rw [va_up_ne _ _ (by decide)]); exact ec) ht (by omega) (by decide) dX1_turn_221 ?_
            rw [← hve m]
            refine g_aload_n C dX1_turn_222 (k := ?_)
            refine g_getf (Cn := RX1) (T := TX1) (n := 8) (ref := "WheelProductsModel") C 20 6 h20 (by (repeat rw [va_up_ne _ _ (by decide)]); rw [va_up_self]) rfl (by decide +kernel) (by decide) (by decide +kernel) (fun _ h => h) rfl dX1_turn_223 ?_
            refine g_iload C dX1_turn_226 (k := ?_)
            refine gN_lald C 24 h24 (by rw [va_up_ne _ _ (by decide), va_up_self]) ht (by omega) (by decide) dX1_turn_228 ?_
            rw [hf24 _ hat]
            refine gN_lmul C dX1_turn_229 ?_
            refine gN_ladd C dX1_turn_230 ?_
            refine g_aload_n C dX1_turn_231 (k := ?_)
            refine g_getf (Cn := RX1) (T := TX1) (n := 8) (ref := "WheelProductsModel") C 20 1 h20 (by (repeat rw [va_up_ne _ _ (by decide)]); rw [va_up_self]) rfl (by decide +kernel) (by decide) (by decide +kernel) (fun _ h => h) rfl dX1_turn_232 ?_
            refine gN_lrem C (by omega) (by omega) (by omega) dX1_turn_235 ?_
            refine g_lstore C dX1_turn_236 (k := ?_)
            refine g_iload C dX1_turn_238 (k := ?_)
            refine g_iload C dX1_turn_240 (k := ?_)
            refine gN_iadd C dX1_turn_242 ?_
            refine g_iload_n C dX1_turn_243 (k := ?_)
            refine g_iconst C (nI 1) dX1_turn_244 (k := ?_)
            refine gN_isub C (by omega) dX1_turn_245 ?_
            refine gN_iand C dX1_turn_246 ?_
            rw [Nat.and_two_pow_sub_one_eq_mod, show (m * j % 2 ^ K + j) % 2 ^ K = (m + 1) * j % 2 ^ K by rw [Nat.add_mul, Nat.one_mul, Nat.mod_add_mod]]
            refine g_istore C dX1_turn_247 (k := ?_)
            refine gN_inc C dX1_turn_249 (k := ?_)
            refine g_goto (tgt := 201) C dX1_turn_252 (k := ?_)
            exact g_l2 (ihe (m + 1) (by omega)) ⟨Or.inr rfl, Or.inr rfl, Or.inr rfl, Or.inr rfl, Or.inr rfl, Or.inr rfl, Or.inr rfl, Or.inr rfl, Or.inr rfl, trivial⟩
        refine g_iload C dX1_turn_186 (k := ?_)
        refine g_iload_n C dX1_turn_188 (k := ?_)
        refine g_icN_ge (tgt := 278) C (by omega) (by omega) dX1_turn_189 (by decide) (fun h => absurd h (by omega)) (fun _ => ?_)
        refine g_lconst C (lN 0) dX1_turn_192 (k := ?_)
        refine g_lstore C dX1_turn_193 (k := ?_)
        refine g_iconst C (nI 0) dX1_turn_195 (k := ?_)
        refine g_istore C dX1_turn_196 (k := ?_)
        refine g_iconst C (nI 0) dX1_turn_198 (k := ?_)
        refine g_istore C dX1_turn_199 (k := ?_)
        refine g_l2 (inner (2 ^ K) 0 (by omega)) ⟨Or.inr rfl, Or.inr rfl, Or.inr rfl, Or.inr rfl, Or.inr rfl, Or.inr rfl, Or.inr rfl, Or.inr ?_, Or.inr rfl, trivial⟩
        rw [Nat.zero_mul, Nat.zero_mod]; rfl
    have loop1 : ∀ (d k : Nat), 1 ≤ k → 2 ^ K = k + d → gW M D vwCl (ixA N ad sz) 16 0 0 (MQ (gb M) (va_Qv (fun ct1 => (¬ ir (nI i) 6 ∧ ct1 = va_up ct 20 (obM (nI 1) p g ad)) ∨ (ir (nI i) 6 ∧ ¬ pw2 (nI (2 ^ K)) ∧ ct1 = va_up ct 20 (obM (nI 2) p g ad)) ∨ (∃ i_1 K_1, i_1 < 6 ∧ K_1 < 10 ∧ nI i = nI i_1 ∧ nI (2 ^ K) = nI (2 ^ K_1) ∧ ∃ f24 f23, ct1 = va_up (va_up (va_up (va_up ct 20 (obM (nI 0) p g ad)) 24 (LN cJ 512 f24)) 23 (LN cJ 512 f23)) 21 (LN cJ 3072 (fr 512 i_1 (2 ^ K_1) (mtr p (2 ^ K_1) (if b = 0 then g ^ ((p - 1) / 2 ^ K_1) % p else (g ^ ((p - 1) / 2 ^ K_1) % p) ^ (p - 2) % p) (if b = 0 then 1 else (2 ^ K_1) ^ (p - 2) % p) (fun k => c (512 * i_1 + k))) c)))) (gB D vwCl tys N ad (ixA N ad sz)) (ixA N ad sz)) (ga M) (gs M) 0 0 (ixA N ad sz)) N ad 147 [(0, some (.ref (ad 20))), (1, some (.int (nI i))), (2, some (.int (nI (2 ^ K)))), (7, some (.long (lN B))), (9, some (.long (lN sh))), (11, some (.int (nI k)))] [] (va_up (va_up ct 20 (obM (nI 0) p g ad)) 24 (LN cJ 512 (fun q => if q < k then B ^ q % p else pw q))) := by
      intro d
      induction d with
      | zero =>
        intro k h1 hd
        have hk : 2 ^ K = k := by omega
        refine g_iload C dX1_turn_147 (k := ?_)
        refine g_iload_n C dX1_turn_149 (k := ?_)
        refine g_icN_ge (tgt := 183) C (by omega) (by omega) dX1_turn_150 (by decide) (fun _ => ?_) (fun h => absurd h (by omega))
        refine g_iconst C (nI 0) dX1_turn_183 (k := ?_)
        refine g_istore C dX1_turn_184 (k := ?_)
        have h9 := loop2 (fun q => if q < k then B ^ q % p else pw q) (fun q hq => if_pos (by omega)) (2 ^ K) 0 (by omega)
        have e8 : (fun k => if k < 0 then mtr p (2 ^ K) B sh v k else wk k) = wk := funext fun k => if_neg (by omega)
        rw [e8, up_id (q := 23) (e := LN cJ 512 wk) (by (repeat rw [va_up_ne _ _ (by decide)]); exact ek)] at h9
        exact g_l2 h9 ⟨Or.inr rfl, Or.inr rfl, Or.inr rfl, Or.inr rfl, Or.inr rfl, Or.inr rfl, trivial⟩
      | succ d ih =>
        intro k h1 hd
        have hpk : B ^ (k - 1) % p < p := Nat.mod_lt _ (by omega)
        have hmul : B ^ (k - 1) % p * B < 2 ^ 62 := Nat.lt_of_lt_of_le (Nat.mul_lt_mul'' (Nat.lt_trans hpk hp2) (Nat.lt_trans hbyl hp2)) (by decide)
        refine g_iload C dX1_turn_147 (k := ?_)
        refine g_iload_n C dX1_turn_149 (k := ?_)
        refine g_icN_ge (tgt := 183) C (by omega) (by omega) dX1_turn_150 (by decide) (fun h => absurd h (by omega)) (fun _ => ?_)
        refine g_aload_n C dX1_turn_153 (k := ?_)
        refine g_getf (Cn := RX1) (T := TX1) (n := 8) (ref := "WheelProductsModel") C 20 6 h20 (by (repeat rw [va_up_ne _ _ (by decide)]); rw [va_up_self]) rfl (by decide +kernel) (by decide) (by decide +kernel) (fun _ h => h) rfl dX1_turn_154 ?_
        refine g_iload C dX1_turn_157 (k := ?_)
        refine g_aload_n C dX1_turn_159 (k := ?_)
        refine g_getf (Cn := RX1) (T := TX1) (n := 8) (ref := "WheelProductsModel") C 20 6 h20 (by (repeat rw [va_up_ne _ _ (by decide)]); rw [va_up_self]) rfl (by decide +kernel) (by decide) (by decide +kernel) (fun _ h => h) rfl dX1_turn_160 ?_
        refine g_iload C dX1_turn_163 (k := ?_)
        refine g_iconst C (nI 1) dX1_turn_165 (k := ?_)
        refine gN_isub C h1 dX1_turn_166 ?_
        refine gN_lald C 24 h24 (va_up_self _ _ _) ht (by omega) (by decide) dX1_turn_167 ?_
        rw [if_pos (show k - 1 < k by omega)]
        refine g_lload C dX1_turn_168 (k := ?_)
        refine gN_lmul C dX1_turn_170 ?_
        refine g_aload_n C dX1_turn_171 (k := ?_)
        refine g_getf (Cn := RX1) (T := TX1) (n := 8) (ref := "WheelProductsModel") C 20 1 h20 (by (repeat rw [va_up_ne _ _ (by decide)]); rw [va_up_self]) rfl (by decide +kernel) (by decide) (by decide +kernel) (fun _ h => h) rfl dX1_turn_172 ?_
        refine gN_lrem C (by omega) (by omega) (by omega) dX1_turn_175 ?_
        rw [show B ^ (k - 1) % p * B % p = B ^ k % p by rw [Nat.mod_mul_mod, ← Nat.pow_succ, show (k - 1).succ = k by omega]]
        refine gN_last C 24 h24 (va_up_self _ _ _) ht (by omega) (by decide) dX1_turn_176 ?_
        have e9 : nu (fun q => if q < k then B ^ q % p else pw q) k (B ^ k % p) = fun q => if q < k + 1 then B ^ q % p else pw q := by
          funext q
          unfold nu
          by_cases h1 : q = k
          · subst h1; rw [if_pos rfl, if_pos (by omega)]
          · rw [if_neg h1]
            show (if q < k then B ^ q % p else pw q) = _
            by_cases h2 : q < k
            · rw [if_pos h2, if_pos (by omega)]
            · rw [if_neg h2, if_neg (by omega)]
        rw [bx_uu, e9]
        refine gN_inc C dX1_turn_177 (k := ?_)
        refine g_goto (tgt := 147) C dX1_turn_180 (k := ?_)
        exact g_l2 (ih (k + 1) (by omega) (by omega)) ⟨Or.inr rfl, Or.inr rfl, Or.inr rfl, Or.inr rfl, Or.inr rfl, Or.inr rfl, trivial⟩
    refine g_aload_n C dX1_turn_137 (k := ?_)
    refine g_getf (Cn := RX1) (T := TX1) (n := 8) (ref := "WheelProductsModel") C 20 6 h20 (va_up_self _ _ _) rfl (by decide +kernel) (by decide) (by decide +kernel) (fun _ h => h) rfl dX1_turn_138 ?_
    refine g_iconst C (nI 0) dX1_turn_141 (k := ?_)
    refine g_lconst C (lN 1) dX1_turn_142 (k := ?_)
    refine gN_last C 24 h24 (by rw [va_up_ne _ _ (by decide)]; exact ep) ht (by decide) (by decide) dX1_turn_143 ?_
    have e7 : nu pw 0 1 = fun q => if q < 1 then B ^ q % p else pw q := by
      funext q
      unfold nu
      by_cases h1 : q = 0
      · subst h1; rw [if_pos rfl, if_pos (by decide), Nat.pow_zero, Nat.mod_eq_of_lt (by omega)]
      · rw [if_neg h1, if_neg (by omega)]
    rw [e7]
    refine g_iconst C (nI 1) dX1_turn_144 (k := ?_)
    refine g_istore C dX1_turn_145 (k := ?_)
    exact g_l2 (loop1 (2 ^ K - 1) 1 (by decide) (by omega)) ⟨Or.inr rfl, Or.inr rfl, Or.inr rfl, Or.inr rfl, Or.inr rfl, Or.inr rfl, trivial⟩
  have hmid : ∀ f : Nat, ((f = 1 ∧ pw2 y) ∨ (f = 0 ∧ ¬ pw2 y)) → gW M D vwCl (ixA N ad sz) 16 0 0 (MQ (gb M) (va_Qv (fun ct1 => (¬ ir x 6 ∧ ct1 = va_up ct 20 (obM (nI 1) p g ad)) ∨ (ir x 6 ∧ ¬ pw2 y ∧ ct1 = va_up ct 20 (obM (nI 2) p g ad)) ∨ (∃ i K, i < 6 ∧ K < 10 ∧ x = nI i ∧ y = nI (2 ^ K) ∧ ∃ f24 f23, ct1 = va_up (va_up (va_up (va_up ct 20 (obM (nI 0) p g ad)) 24 (LN cJ 512 f24)) 23 (LN cJ 512 f23)) 21 (LN cJ 3072 (fr 512 i (2 ^ K) (mtr p (2 ^ K) (if b = 0 then g ^ ((p - 1) / 2 ^ K) % p else (g ^ ((p - 1) / 2 ^ K) % p) ^ (p - 2) % p) (if b = 0 then 1 else (2 ^ K) ^ (p - 2) % p) (fun k => c (512 * i + k))) c)))) (gB D vwCl tys N ad (ixA N ad sz)) (ixA N ad sz)) (ga M) (gs M) 0 0 (ixA N ad sz)) N ad 25 (lva 0 [.ref (ad 20), .int x, .int y, .int b]) [.int (nI f)] ct := by
    intro f hf
    refine g_istore C dX1_turn_25 (k := ?_)
    refine g_aload_n C dX1_turn_27 (k := ?_)
    refine g_iload_n C dX1_turn_28 (k := ?_)
    refine g_cSi (n := 1) (av := [.int x]) C (by rw [hlM]; exact m_isRow l x) gX1_turn_X1_isRow rfl ⟨rfl, rfl⟩ (by rw [hRM]; exact ⟨Nat.le_of_ble_eq_true rfl, Nat.le_of_ble_eq_true rfl⟩) (by rw [hRM]; exact ⟨Nat.le_of_ble_eq_true rfl, Nat.le_of_ble_eq_true rfl⟩) (Nat.le_of_ble_eq_true rfl) (by decide +kernel) rfl dX1_turn_29 ?_
    rintro _ ct ⟨hir, rfl⟩
    rcases hir with ⟨rfl, hi⟩ | ⟨rfl, hno⟩
    · refine g_ifN_ne (tgt := 39) C (by decide) dX1_turn_32 (by decide) (fun _ => ?_) (fun h => absurd h (by decide))
      refine g_iload C dX1_turn_39 (k := ?_)
      rcases hf with ⟨rfl, hpw⟩ | ⟨rfl, hpw⟩
      · refine g_ifN_ne (tgt := 48) C (by decide) dX1_turn_41 (by decide) (fun _ => ?_) (fun h => absurd h (by decide))
        refine g_iconst C (nI 0) dX1_turn_48 (k := ?_)
        refine g_putf (Cn := RX1) (T := TX1) (n := 8) (ref := "WheelProductsModel") (ty := .int) C 20 0 h20 e20 rfl (by decide +kernel) tyX1 tyX1_ok nmX1 (by decide) (by decide +kernel) (fun _ h => h) rfl (by decide +kernel) rfl rfl (Nat.le_of_ble_eq_true rfl) dX1_turn_49 ?_
        refine g_ct (ct' := va_up (ct) 20 (obM (nI 0) p g ad)) rfl ?_
        refine g_aload_n C dX1_turn_52 (k := ?_)
        refine g_getf (Cn := RX1) (T := TX1) (n := 8) (ref := "WheelProductsModel") C 20 0 h20 (va_up_self _ _ _) rfl (by decide +kernel) (by decide) (by decide +kernel) (fun _ h => h) rfl dX1_turn_53 ?_
        refine g_ifN_le (tgt := 60) C (by decide) dX1_turn_56 (by decide) (fun _ => ?_) (fun h => absurd h (by decide))
        obtain ⟨i, hi6, hxi⟩ := hi
        obtain ⟨K, hK, hyK⟩ := hpw
        exact g_l2 (hgood i K hi6 hK hxi hyK) ⟨Or.inr rfl, Or.inr rfl, Or.inr rfl, Or.inr rfl, trivial⟩
      · refine g_ifN_ne (tgt := 48) C (by decide) dX1_turn_41 (by decide) (fun h => absurd rfl h) (fun _ => ?_)
        refine g_iconst C (nI 2) dX1_turn_44 (k := ?_)
        refine g_goto (tgt := 49) C dX1_turn_45 (k := ?_)
        refine g_putf (Cn := RX1) (T := TX1) (n := 8) (ref := "WheelProductsModel") (ty := .int) C 20 0 h20 e20 rfl (by decide +kernel) tyX1 tyX1_ok nmX1 (by decide) (by decide +kernel) (fun _ h => h) rfl (by decide +kernel) rfl rfl (Nat.le_of_ble_eq_true rfl) dX1_turn_49 ?_
        refine g_ct (ct' := va_up (ct) 20 (obM (nI 2) p g ad)) rfl ?_
        refine g_aload_n C dX1_turn_52 (k := ?_)
        refine g_getf (Cn := RX1) (T := TX1) (n := 8) (ref := "WheelProductsModel") C 20 0 h20 (va_up_self _ _ _) rfl (by decide +kernel) (by decide) (by decide +kernel) (fun _ h => h) rfl dX1_turn_53 ?_
        refine g_ifN_le (tgt := 60) C (by decide) dX1_turn_56 (by decide) (fun h => absurd h (by decide)) (fun _ => ?_)
        exact g_vret C hr (Or.inr (Or.inl ⟨hi, hpw, rfl⟩)) dX1_turn_59
    · refine g_ifN_ne (tgt := 39) C (by decide) dX1_turn_32 (by decide) (fun h => absurd rfl h) (fun _ => ?_)
      refine g_iconst C (nI 1) dX1_turn_35 (k := ?_)
      refine g_goto (tgt := 49) C dX1_turn_36 (k := ?_)
      refine g_putf (Cn := RX1) (T := TX1) (n := 8) (ref := "WheelProductsModel") (ty := .int) C 20 0 h20 e20 rfl (by decide +kernel) tyX1 tyX1_ok nmX1 (by decide) (by decide +kernel) (fun _ h => h) rfl (by decide +kernel) rfl rfl (Nat.le_of_ble_eq_true rfl) dX1_turn_49 ?_
      refine g_ct (ct' := va_up (ct) 20 (obM (nI 1) p g ad)) rfl ?_
      refine g_aload_n C dX1_turn_52 (k := ?_)
      refine g_getf (Cn := RX1) (T := TX1) (n := 8) (ref := "WheelProductsModel") C 20 0 h20 (va_up_self _ _ _) rfl (by decide +kernel) (by decide) (by decide +kernel) (fun _ h => h) rfl dX1_turn_53 ?_
      refine g_ifN_le (tgt := 60) C (by decide) dX1_turn_56 (by decide) (fun h => absurd h (by decide)) (fun _ => ?_)
      exact g_vret C hr (Or.inl ⟨hno, rfl⟩) dX1_turn_59
  refine g_iload_n C dX1_turn_0 (k := ?_)
  refine g_iconst C (nI 1) dX1_turn_1 (k := ?_)
  by_cases hin : ir y 513
  · obtain ⟨j, hj, rfl⟩ := hin
    by_cases h1 : 1 ≤ j
    · refine g_icN_lt (tgt := 24) C (by omega) (by decide) dX1_turn_2 (by decide) (fun h => absurd h (by omega)) (fun _ => ?_)
      refine g_iload_n C dX1_turn_5 (k := ?_)
      refine g_sipush C (nI 512) dX1_turn_6 (k := ?_)
      refine g_icN_gt (tgt := 24) C (by omega) (by decide) dX1_turn_9 (by decide) (fun h => absurd h (by omega)) (fun _ => ?_)
      refine g_iload_n C dX1_turn_12 (k := ?_)
      refine g_iload_n C dX1_turn_13 (k := ?_)
      refine g_iconst C (nI 1) dX1_turn_14 (k := ?_)
      refine gN_isub C h1 dX1_turn_15 ?_
      refine gN_iand C dX1_turn_16 ?_
      have hand : j &&& (j - 1) < 2 ^ 31 := Nat.lt_of_le_of_lt Nat.and_le_left (by omega)
      by_cases hz : j &&& (j - 1) = 0
      · refine g_ifN_ne (tgt := 24) C hand dX1_turn_17 (by decide) (fun h => absurd hz h) (fun _ => ?_)
        refine g_iconst C (nI 1) dX1_turn_20 (k := ?_)
        refine g_goto (tgt := 25) C dX1_turn_21 (k := ?_)
        exact hmid 1 (Or.inl ⟨rfl, (pw2_nI (by omega)).mpr ((pw2_tab j hj).mp ⟨h1, hz⟩)⟩)
      · have hno : ¬ pw2 (nI j) := fun q => hz ((pw2_tab j hj).mpr ((pw2_nI (by omega)).mp q)).2
        refine g_ifN_ne (tgt := 24) C hand dX1_turn_17 (by decide) (fun _ => ?_) (fun h => absurd h hz)
        refine g_iconst C (nI 0) dX1_turn_24 (k := ?_)
        exact hmid 0 (Or.inr ⟨rfl, hno⟩)
    · have hno : ¬ pw2 (nI j) := fun q => h1 ((pw2_tab j hj).mpr ((pw2_nI (by omega)).mp q)).1
      refine g_icN_lt (tgt := 24) C (by omega) (by decide) dX1_turn_2 (by decide) (fun _ => ?_) (fun h => absurd h (by omega))
      refine g_iconst C (nI 0) dX1_turn_24 (k := ?_)
      exact hmid 0 (Or.inr ⟨rfl, hno⟩)
  · have hno : ¬ pw2 y := fun q => by
      obtain ⟨j, -, hj, hx⟩ := pw2_hi q
      exact hin ⟨j, hj, hx⟩
    refine g_ic_lt (tgt := 24) C dX1_turn_2 (by decide) (fun _ => ?_) (fun h1 => ?_)
    · refine g_iconst C (nI 0) dX1_turn_24 (k := ?_)
      exact hmid 0 (Or.inr ⟨rfl, hno⟩)
    · refine g_iload_n C dX1_turn_5 (k := ?_)
      refine g_sipush C (nI 512) dX1_turn_6 (k := ?_)
      refine g_ic_gt (tgt := 24) C dX1_turn_9 (by decide) (fun _ => ?_) (fun h2 => ?_)
      · refine g_iconst C (nI 0) dX1_turn_24 (k := ?_)
        exact hmid 0 (Or.inr ⟨rfl, hno⟩)
      · exfalso
        rcases pk_ix y (n := 513) (by decide) with h | h | ⟨j, hj, rfl⟩
        · exact h1 (Int32.lt_trans h (by decide))
        · exact h2 (Int32.lt_of_lt_of_le (by decide) h)
        · exact hin ⟨j, hj, rfl⟩
