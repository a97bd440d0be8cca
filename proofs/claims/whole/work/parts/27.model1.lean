/-! ===== the reference: thrown, prime, root, cells, words, work, powers, sums ===== -/
abbrev obM (th : Int32) (p g : Nat) (ad : Nat → Nat) : va_E := .inr (1, [.int th, .long (lN p), .long (lN g), .ref (ad 21), .ref (ad 22), .ref (ad 23), .ref (ad 24), .ref (ad 25)])

set_option maxRecDepth 100000 in
set_option maxHeartbeats 4000000 in
theorem m_thrown (l : Launch) {D : va_G} {tys : List (ClassId × FieldType)} {N : Nat} {ad : Nat → Nat} {ct : Nat → va_E} (hN : 26 ≤ N) {th : Int32} {p g : Nat} (e20 : ct 20 = obM th p g ad) :
    gMi l yX1_thrown wsX1_thrown rz D vwCl tys N ad [.ref (ad 20)] ct (fun r ct1 => r = th ∧ ct1 = ct) := by
  refine gof_i (cc := cX1_thrown) (maxL := 1) (by decide) rfl (Nat.le_of_ble_eq_true rfl) ?_
  intro M sz C hlM hRM hr hsz
  have h20 : 20 < N := by omega
  refine g_aload_n C dX1_thrown_0 (k := ?_)
  refine g_getf (Cn := RX1) (T := TX1) (n := 8) (ref := "WheelProductsModel") C 20 0 h20 e20 rfl (by decide +kernel) (by decide) (by decide +kernel) (fun _ h => h) rfl dX1_thrown_1 ?_
  exact g_iret C hr ⟨rfl, rfl⟩ dX1_thrown_4
set_option maxRecDepth 100000 in
set_option maxHeartbeats 4000000 in
theorem m_rest (l : Launch) {D : va_G} {tys : List (ClassId × FieldType)} {N : Nat} {ad : Nat → Nat} {ct : Nat → va_E} (hN : 26 ≤ N) {th : Int32} {p g : Nat} (e20 : ct 20 = obM th p g ad) (x : Int64) (h0 : 0 < p) (hp : p < 2 ^ 31) :
    gMl l yX1_rest wsX1_rest rz D vwCl tys N ad [.ref (ad 20), .long x] ct (fun r ct1 => r = lN (fm p x) ∧ ct1 = ct) := by
  refine gof_l (cc := cX1_rest) (maxL := 5) (by decide) rfl (Nat.le_of_ble_eq_true rfl) ?_
  intro M sz C hlM hRM hr hsz
  have h20 : 20 < N := by omega
  have hfl := fm_lt h0 x
  refine g_lload_n C dX1_rest_0 (k := ?_)
  refine g_aload_n C dX1_rest_1 (k := ?_)
  refine g_getf (Cn := RX1) (T := TX1) (n := 8) (ref := "WheelProductsModel") C 20 1 h20 e20 rfl (by decide +kernel) (by decide) (by decide +kernel) (fun _ h => h) rfl dX1_rest_2 ?_
  refine g_lrem C dX1_rest_5 (k_lne h0 (by omega)) ?_
  refine g_lstore_n C dX1_rest_6 (k := ?_)
  refine g_lload_n C dX1_rest_7 (k := ?_)
  refine g_lconst C (lN 0) dX1_rest_8 (k := ?_)
  have hr1 := k_rem x h0 hp
  have hb := tmod_bounds (a := x.toInt) (M := p) (by omega)
  have e : (lN p).toInt = p := k_lI (by omega)
  by_cases hx : 0 ≤ x.toInt
  · have hrm := k_remN x h0 hp hx
    rw [hrm]
    refine g_lcN_ge (tgt := 22) C (by omega) (by decide) dX1_rest_9 dX1_rest_10 (by decide) (fun _ => ?_) (fun h => absurd h (by omega))
    refine g_lload_n C dX1_rest_22 (k := ?_)
    exact g_lret C hr ⟨rfl, rfl⟩ dX1_rest_23
  · rcases k_remM x h0 hp (by omega) with ⟨h1, h2⟩ | ⟨h1, h2⟩
    · refine g_lc_ge (tgt := 22) C dX1_rest_9 dX1_rest_10 (by decide) (fun _ => ?_) (fun h => absurd (by rw [Int64.le_iff_toInt_le, hr1, h1]; decide) h)
      refine g_lload_n C dX1_rest_22 (k := ?_)
      exact g_lret C hr ⟨Int64.toInt_inj.mp (by rw [hr1, h1, h2]; rfl), rfl⟩ dX1_rest_23
    · refine g_lc_ge (tgt := 22) C dX1_rest_9 dX1_rest_10 (by decide) (fun h => absurd h (by rw [Int64.le_iff_toInt_le, hr1, show (lN 0).toInt = 0 from rfl]; omega)) (fun _ => ?_)
      refine g_lload_n C dX1_rest_13 (k := ?_)
      refine g_aload_n C dX1_rest_14 (k := ?_)
      refine g_getf (Cn := RX1) (T := TX1) (n := 8) (ref := "WheelProductsModel") C 20 1 h20 e20 rfl (by decide +kernel) (by decide) (by decide +kernel) (fun _ h => h) rfl dX1_rest_15 ?_
      refine g_ladd C dX1_rest_18 ?_
      refine g_goto (tgt := 23) C dX1_rest_19 (k := ?_)
      refine g_lret C hr ⟨Int64.toInt_inj.mp ?_, rfl⟩ dX1_rest_23
      rw [Jvm.Kit.i64_add (by rw [hr1, e]; omega) (by rw [hr1, e]; omega), hr1, e, k_lI (by omega), h2]
set_option maxRecDepth 100000 in
set_option maxHeartbeats 4000000 in
theorem m_raise (l : Launch) {D : va_G} {tys : List (ClassId × FieldType)} {N : Nat} {ad : Nat → Nat} {ct : Nat → va_E} {cl : List vw_C} {x e m : Nat} (hx : x < 2 ^ 63) (he : e < 2 ^ 63) (hm : 1 < m) (hm2 : m < 2 ^ 31) :
    gMl l yX1_raise wsX1_raise rz D cl tys N ad [.long (lN x), .long (lN e), .long (lN m)] ct (fun r ct1 => r = lN (x ^ e % m) ∧ ct1 = ct) := by
  refine gof_l (cc := cX1_raise) (maxL := 12) (by decide) rfl (Nat.le_of_ble_eq_true rfl) ?_
  intro M sz C hlM hRM hr hsz
  have loop : ∀ (b a s : Nat), a < m → s < m → b < 2 ^ 63 → a * s ^ b % m = x ^ e % m → gW M D cl (ixA N ad sz) 12 0 0 (MQ (gb M) (va_Ql (fun r ct1 => r = lN (x ^ e % m) ∧ ct1 = ct) (gB D cl tys N ad (ixA N ad sz)) (ixA N ad sz)) (ga M) (gs M) 0 0 (ixA N ad sz)) N ad 12 [(4, some (.long (lN m))), (6, some (.long (lN a))), (8, some (.long (lN s))), (10, some (.long (lN b)))] [] ct := by
    intro b
    induction b using Nat.strongRecOn with
    | ind b ih =>
      intro a s ha hs hb63 hv
      have hss : s * s < 2 ^ 62 := Nat.lt_of_lt_of_le (Nat.mul_lt_mul'' (Nat.lt_trans hs hm2) (Nat.lt_trans hs hm2)) (by decide)
      have has : a * s < 2 ^ 62 := Nat.lt_of_lt_of_le (Nat.mul_lt_mul'' (Nat.lt_trans ha hm2) (Nat.lt_trans hs hm2)) (by decide)
      refine g_lload C dX1_raise_12 (k := ?_)
      refine g_lconst C (lN 0) dX1_raise_14 (k := ?_)
      by_cases hb0 : b = 0
      · refine g_lcN_le (tgt := 66) C hb63 (by decide) dX1_raise_15 dX1_raise_16 (by decide) (fun _ => ?_) (fun h => absurd h (by omega))
        refine g_lload C dX1_raise_66 (k := ?_)
        refine g_lret C hr ⟨?_, rfl⟩ dX1_raise_68
        rw [hb0, Nat.pow_zero, Nat.mul_one, Nat.mod_eq_of_lt ha] at hv
        rw [hv]
      · refine g_lcN_le (tgt := 66) C hb63 (by decide) dX1_raise_15 dX1_raise_16 (by decide) (fun h => absurd h (by omega)) (fun _ => ?_)
        refine g_lload C dX1_raise_19 (k := ?_)
        refine g_ldc2 (v := 2) C (by decide +kernel) dX1_raise_21 ?_
        refine g_tl (lN 2) rfl ?_
        refine gN_lrem C hb63 (by decide) (by decide) dX1_raise_24 ?_
        refine g_lconst C (lN 1) dX1_raise_25 (k := ?_)
        by_cases h1 : b % 2 = 1
        · refine g_lcN_ne (tgt := 41) C (by omega) (by decide) dX1_raise_26 dX1_raise_27 (by decide) (fun h => absurd h1 h) (fun _ => ?_)
          refine g_lload C dX1_raise_30 (k := ?_)
          refine g_lload C dX1_raise_32 (k := ?_)
          refine gN_lmul C dX1_raise_34 ?_
          refine g_lload C dX1_raise_35 (k := ?_)
          refine gN_lrem C (by omega) (by omega) (by omega) dX1_raise_37 ?_
          refine g_goto (tgt := 43) C dX1_raise_38 (k := ?_)
          refine g_lstore C dX1_raise_43 (k := ?_)
          refine g_lload C dX1_raise_45 (k := ?_)
          refine g_lload C dX1_raise_47 (k := ?_)
          refine gN_lmul C dX1_raise_49 ?_
          refine g_lload C dX1_raise_50 (k := ?_)
          refine gN_lrem C (by omega) (by omega) (by omega) dX1_raise_52 ?_
          refine g_lstore C dX1_raise_53 (k := ?_)
          refine g_lload C dX1_raise_55 (k := ?_)
          refine g_ldc2 (v := 2) C (by decide +kernel) dX1_raise_57 ?_
          refine g_tl (lN 2) rfl ?_
          refine gN_ldiv C hb63 (by decide) (by decide) dX1_raise_60 ?_
          refine g_lstore C dX1_raise_61 (k := ?_)
          refine g_goto (tgt := 12) C dX1_raise_63 (k := ?_)
          refine g_l2 (ih (b / 2) (by omega) (a * s % m) (s * s % m) (Nat.mod_lt _ (by omega)) (Nat.mod_lt _ (by omega)) (by omega) ?_) ⟨Or.inr rfl, Or.inr rfl, Or.inr rfl, Or.inr rfl, trivial⟩
          rw [pm_odd, show 2 * (b / 2) + 1 = b by omega, hv]
        · refine g_lcN_ne (tgt := 41) C (by omega) (by decide) dX1_raise_26 dX1_raise_27 (by decide) (fun _ => ?_) (fun h => absurd h h1)
          refine g_lload C dX1_raise_41 (k := ?_)
          refine g_lstore C dX1_raise_43 (k := ?_)
          refine g_lload C dX1_raise_45 (k := ?_)
          refine g_lload C dX1_raise_47 (k := ?_)
          refine gN_lmul C dX1_raise_49 ?_
          refine g_lload C dX1_raise_50 (k := ?_)
          refine gN_lrem C (by omega) (by omega) (by omega) dX1_raise_52 ?_
          refine g_lstore C dX1_raise_53 (k := ?_)
          refine g_lload C dX1_raise_55 (k := ?_)
          refine g_ldc2 (v := 2) C (by decide +kernel) dX1_raise_57 ?_
          refine g_tl (lN 2) rfl ?_
          refine gN_ldiv C hb63 (by decide) (by decide) dX1_raise_60 ?_
          refine g_lstore C dX1_raise_61 (k := ?_)
          refine g_goto (tgt := 12) C dX1_raise_63 (k := ?_)
          refine g_l2 (ih (b / 2) (by omega) a (s * s % m) ha (Nat.mod_lt _ (by omega)) (by omega) ?_) ⟨Or.inr rfl, Or.inr rfl, Or.inr rfl, Or.inr rfl, trivial⟩
          rw [pm_even, show 2 * (b / 2) = b by omega, hv]
  refine g_lconst C (lN 1) dX1_raise_0 (k := ?_)
  refine g_lstore C dX1_raise_1 (k := ?_)
  refine g_lload_n C dX1_raise_3 (k := ?_)
  refine g_lload C dX1_raise_4 (k := ?_)
  refine gN_lrem C hx (by omega) (by omega) dX1_raise_6 ?_
  refine g_lstore C dX1_raise_7 (k := ?_)
  refine g_lload_n C dX1_raise_9 (k := ?_)
  refine g_lstore C dX1_raise_10 (k := ?_)
  exact g_l2 (loop e 1 (x % m) hm (Nat.mod_lt _ (by omega)) he (by rw [Nat.one_mul, ← Nat.pow_mod])) ⟨Or.inr rfl, Or.inr rfl, Or.inr rfl, Or.inr rfl, trivial⟩
/-- a prime: no number from 2 on whose square isn't above it divides it -/
def prm (n : Nat) : Prop := 2 ≤ n ∧ ∀ d, 2 ≤ d → d * d ≤ n → n % d ≠ 0
set_option maxRecDepth 100000 in
set_option maxHeartbeats 4000000 in
theorem m_isPrime (l : Launch) {D : va_G} {tys : List (ClassId × FieldType)} {N : Nat} {ad : Nat → Nat} {ct : Nat → va_E} {cl : List vw_C} {n : Nat} (h2 : 2 ≤ n) (hn : n < 2 ^ 31) :
    gMi l yX1_isPrime wsX1_isPrime rz D cl tys N ad [.long (lN n)] ct (fun r ct1 => ((r = nI 1 ∧ prm n) ∨ (r = nI 0 ∧ ¬ prm n)) ∧ ct1 = ct) := by
  refine gof_z (cc := cX1_isPrime) (maxL := 4) (by decide) rfl (Nat.le_of_ble_eq_true rfl) ?_
  intro M sz C hlM hRM hr hsz
  have loop : ∀ (f d : Nat), d + f = 46343 → 2 ≤ d → (∀ c, 2 ≤ c → c < d → c * c ≤ n → n % c ≠ 0) → gW M D cl (ixA N ad sz) 4 0 0 (MQ (gb M) (va_Qi (fun r ct1 => ((r = nI 1 ∧ prm n) ∨ (r = nI 0 ∧ ¬ prm n)) ∧ ct1 = ct) (gB D cl tys N ad (ixA N ad sz)) (ixA N ad sz)) (ga M) (gs M) 0 0 (ixA N ad sz)) N ad 14 [(0, some (.long (lN n))), (2, some (.long (lN d)))] [] ct := by
    intro f
    induction f with
    | zero =>
      intro d hd hd2 hv
      have hdd : 46343 * 46343 ≤ d * d := Nat.mul_le_mul (by omega) (by omega)
      have hdu : d * d ≤ 46343 * 46343 := Nat.mul_le_mul (by omega) (by omega)
      refine g_lload_n C dX1_isPrime_14 (k := ?_)
      refine g_lload_n C dX1_isPrime_15 (k := ?_)
      refine gN_lmul C dX1_isPrime_16 ?_
      refine g_lload_n C dX1_isPrime_17 (k := ?_)
      refine g_lcN_gt (tgt := 39) C (by omega) (by omega) dX1_isPrime_18 dX1_isPrime_19 (by decide) (fun _ => ?_) (fun h => absurd h (by omega))
      refine g_iconst C (nI 1) dX1_isPrime_39 (k := ?_)
      refine g_zret C hr (by decide) ⟨Or.inl ⟨rfl, h2, fun c hc hcc => ?_⟩, rfl⟩ dX1_isPrime_40
      refine hv c hc ?_ hcc
      rcases Nat.lt_or_ge c d with h | h
      · exact h
      · have := Nat.mul_le_mul h h
        omega
    | succ f ih =>
      intro d hd hd2 hv
      have hdu : d * d ≤ 46343 * 46343 := Nat.mul_le_mul (by omega) (by omega)
      refine g_lload_n C dX1_isPrime_14 (k := ?_)
      refine g_lload_n C dX1_isPrime_15 (k := ?_)
      refine gN_lmul C dX1_isPrime_16 ?_
      refine g_lload_n C dX1_isPrime_17 (k := ?_)
      by_cases hdn : d * d ≤ n
      · have hm : n % d < 2 ^ 63 := Nat.lt_trans (Nat.mod_lt n (show 0 < d by omega)) (by omega)
        refine g_lcN_gt (tgt := 39) C (by omega) (by omega) dX1_isPrime_18 dX1_isPrime_19 (by decide) (fun h => absurd h (by omega)) (fun _ => ?_)
        refine g_lload_n C dX1_isPrime_22 (k := ?_)
        refine g_lload_n C dX1_isPrime_23 (k := ?_)
        refine gN_lrem C (by omega) (by omega) (by omega) dX1_isPrime_24 ?_
        refine g_lconst C (lN 0) dX1_isPrime_25 (k := ?_)
        by_cases hz : n % d = 0
        · refine g_lcN_ne (tgt := 32) C hm (by decide) dX1_isPrime_26 dX1_isPrime_27 (by decide) (fun h => absurd hz h) (fun _ => ?_)
          refine g_iconst C (nI 0) dX1_isPrime_30 (k := ?_)
          exact g_zret C hr (by decide) ⟨Or.inr ⟨rfl, fun q => q.2 d hd2 hdn hz⟩, rfl⟩ dX1_isPrime_31
        · refine g_lcN_ne (tgt := 32) C hm (by decide) dX1_isPrime_26 dX1_isPrime_27 (by decide) (fun _ => ?_) (fun h => absurd h hz)
          refine g_lload_n C dX1_isPrime_32 (k := ?_)
          refine g_lconst C (lN 1) dX1_isPrime_33 (k := ?_)
          refine gN_ladd C dX1_isPrime_34 ?_
          refine g_lstore_n C dX1_isPrime_35 (k := ?_)
          refine g_goto (tgt := 14) C dX1_isPrime_36 (k := ?_)
          refine g_l2 (ih (d + 1) (by omega) (by omega) (fun c hc hcd hcc => ?_)) ⟨Or.inr rfl, Or.inr rfl, trivial⟩
          by_cases hcd2 : c = d
          · rw [hcd2]; exact hz
          · exact hv c hc (by omega) hcc
      · refine g_lcN_gt (tgt := 39) C (by omega) (by omega) dX1_isPrime_18 dX1_isPrime_19 (by decide) (fun _ => ?_) (fun h => absurd h (by omega))
        refine g_iconst C (nI 1) dX1_isPrime_39 (k := ?_)
        refine g_zret C hr (by decide) ⟨Or.inl ⟨rfl, h2, fun c hc hcc => ?_⟩, rfl⟩ dX1_isPrime_40
        refine hv c hc ?_ hcc
        rcases Nat.lt_or_ge c d with h | h
        · exact h
        · have := Nat.mul_le_mul h h
          omega
  refine g_lload_n C dX1_isPrime_0 (k := ?_)
  refine g_ldc2 (v := 2) C (by decide +kernel) dX1_isPrime_1 ?_
  refine g_tl (lN 2) rfl ?_
  refine g_lcN_ge (tgt := 10) C (by omega) (by decide) dX1_isPrime_4 dX1_isPrime_5 (by decide) (fun _ => ?_) (fun h => absurd h (by omega))
  refine g_ldc2 (v := 2) C (by decide +kernel) dX1_isPrime_10 ?_
  refine g_tl (lN 2) rfl ?_
  refine g_lstore_n C dX1_isPrime_13 (k := ?_)
  exact g_l2 (loop 46341 2 rfl (by decide) (fun c h1 h2 _ => by omega)) ⟨Or.inr rfl, Or.inr rfl, trivial⟩
set_option maxRecDepth 100000 in
set_option maxHeartbeats 4000000 in
theorem m_isRow (l : Launch) {D : va_G} {tys : List (ClassId × FieldType)} {N : Nat} {ad : Nat → Nat} {ct : Nat → va_E} {cl : List vw_C} (x : Int32) :
    gMi l yX1_isRow wsX1_isRow rz D cl tys N ad [.int x] ct (fun r ct1 => ((r = nI 1 ∧ ir x 6) ∨ (r = nI 0 ∧ ¬ ir x 6)) ∧ ct1 = ct) := by
  refine gof_z (cc := cX1_isRow) (maxL := 1) (by decide) rfl (Nat.le_of_ble_eq_true rfl) ?_
  intro M sz C hlM hRM hr hsz
  refine g_iload_n C dX1_isRow_0 (k := ?_)
  rcases pk_ix x (n := 6) (by decide) with h | h | ⟨k, hk, rfl⟩
  · refine g_if_lt (tgt := 14) C dX1_isRow_1 (by decide) (fun _ => ?_) (fun h2 => absurd h h2)
    refine g_iconst C (nI 0) dX1_isRow_14 (k := ?_)
    exact g_zret C hr (by decide) ⟨Or.inr ⟨rfl, ir_no (by decide) (Or.inl h)⟩, rfl⟩ dX1_isRow_15
  · refine g_if_lt (tgt := 14) C dX1_isRow_1 (by decide) (fun h2 => ?_) (fun _ => ?_)
    · refine g_iconst C (nI 0) dX1_isRow_14 (k := ?_)
      exact g_zret C hr (by decide) ⟨Or.inr ⟨rfl, ir_no (by decide) (Or.inl h2)⟩, rfl⟩ dX1_isRow_15
    · refine g_iload_n C dX1_isRow_4 (k := ?_)
      refine g_bipush C (nI 6) dX1_isRow_5 (k := ?_)
      refine g_ic_ge (tgt := 14) C dX1_isRow_7 (by decide) (fun _ => ?_) (fun h2 => absurd h h2)
      refine g_iconst C (nI 0) dX1_isRow_14 (k := ?_)
      exact g_zret C hr (by decide) ⟨Or.inr ⟨rfl, ir_no (by decide) (Or.inr h)⟩, rfl⟩ dX1_isRow_15
  · refine g_ifN_lt (tgt := 14) C (by omega) dX1_isRow_1 (by decide) (fun h2 => absurd h2 (by omega)) (fun _ => ?_)
    refine g_iload_n C dX1_isRow_4 (k := ?_)
    refine g_bipush C (nI 6) dX1_isRow_5 (k := ?_)
    refine g_icN_ge (tgt := 14) C (by omega) (by decide) dX1_isRow_7 (by decide) (fun h2 => absurd h2 (by omega)) (fun _ => ?_)
    refine g_iconst C (nI 1) dX1_isRow_10 (k := ?_)
    refine g_goto (tgt := 15) C dX1_isRow_11 (k := ?_)
    exact g_zret C hr (by decide) ⟨Or.inl ⟨rfl, k, hk, rfl⟩, rfl⟩ dX1_isRow_15
set_option maxRecDepth 100000 in
set_option maxHeartbeats 4000000 in
theorem m_lengthOf (l : Launch) {D : va_G} {tys : List (ClassId × FieldType)} {N : Nat} {ad : Nat → Nat} {ct : Nat → va_E} (hN : 26 ≤ N) {cJ : ClassId} {th : Int32} {p g i : Nat} {c : Nat → Nat} (e20 : ct 20 = obM th p g ad) (ec : ct 21 = LN cJ 3072 c) (ht : tys[0]? = some (cJ, .long)) (hi : i < 6) (hc : ∀ k, k < 3072 → c k < 2 ^ 63) :
    gMi l yX1_lengthOf wsX1_lengthOf rz D vwCl tys N ad [.ref (ad 20), .int (nI i)] ct (fun r ct1 => r = nI (up1 (fun k => c (512 * i + k)) 512) ∧ ct1 = ct) := by
  refine gof_i (cc := cX1_lengthOf) (maxL := 3) (by decide) rfl (Nat.le_of_ble_eq_true rfl) ?_
  intro M sz C hlM hRM hr hsz
  have h20 : 20 < N := by omega
  have hq : 21 < N := by omega
  have loop : ∀ n : Nat, n ≤ 512 → up1 (fun k => c (512 * i + k)) n = up1 (fun k => c (512 * i + k)) 512 → gW M D vwCl (ixA N ad sz) 3 0 0 (MQ (gb M) (va_Qi (fun r ct1 => r = nI (up1 (fun k => c (512 * i + k)) 512) ∧ ct1 = ct) (gB D vwCl tys N ad (ixA N ad sz)) (ixA N ad sz)) (ga M) (gs M) 0 0 (ixA N ad sz)) N ad 4 [(0, some (.ref (ad 20))), (1, some (.int (nI i))), (2, some (.int (nI n)))] [] ct := by
    intro n
    induction n with
    | zero =>
      intro _ hu
      refine g_iload_n C dX1_lengthOf_4 (k := ?_)
      refine g_ifN_le (tgt := 33) C (by decide) dX1_lengthOf_5 (by decide) (fun _ => ?_) (fun h => absurd h (by decide))
      refine g_iload_n C dX1_lengthOf_33 (k := ?_)
      exact g_iret C hr ⟨by rw [← hu]; rfl, rfl⟩ dX1_lengthOf_34
    | succ n ih =>
      intro hn hu
      refine g_iload_n C dX1_lengthOf_4 (k := ?_)
      refine g_ifN_le (tgt := 33) C (by omega) dX1_lengthOf_5 (by decide) (fun h => absurd h (by omega)) (fun _ => ?_)
      refine g_aload_n C dX1_lengthOf_8 (k := ?_)
      refine g_getf (Cn := RX1) (T := TX1) (n := 8) (ref := "WheelProductsModel") C 20 3 h20 e20 rfl (by decide +kernel) (by decide) (by decide +kernel) (fun _ h => h) rfl dX1_lengthOf_9 ?_
      refine g_sipush C (nI 512) dX1_lengthOf_12 (k := ?_)
      refine g_iload_n C dX1_lengthOf_15 (k := ?_)
      refine gN_imul C dX1_lengthOf_16 ?_
      refine g_iload_n C dX1_lengthOf_17 (k := ?_)
      refine gN_iadd C dX1_lengthOf_18 ?_
      refine g_iconst C (nI 1) dX1_lengthOf_19 (k := ?_)
      refine gN_isub C (by omega) dX1_lengthOf_20 ?_
      rw [show 512 * i + (n + 1) - 1 = 512 * i + n by omega]
      refine gN_lald C 21 hq ec ht (by omega) (by decide) dX1_lengthOf_21 ?_
      refine g_lconst C (lN 0) dX1_lengthOf_22 (k := ?_)
      have hvi := hc (512 * i + n) (by omega)
      by_cases hz : c (512 * i + n) = 0
      · refine g_lcN_ne (tgt := 33) C hvi (by decide) dX1_lengthOf_23 dX1_lengthOf_24 (by decide) (fun h => absurd hz h) (fun _ => ?_)
        refine gN_dec C dX1_lengthOf_27 (k := ?_)
        refine g_goto (tgt := 4) C dX1_lengthOf_30 (k := ?_)
        refine g_l2 (ih (by omega) ?_) ⟨Or.inr rfl, Or.inr rfl, Or.inr rfl, trivial⟩
        rw [← hu, up1, if_pos hz]
      · refine g_lcN_ne (tgt := 33) C hvi (by decide) dX1_lengthOf_23 dX1_lengthOf_24 (by decide) (fun _ => ?_) (fun h => absurd h hz)
        refine g_iload_n C dX1_lengthOf_33 (k := ?_)
        refine g_iret C hr ⟨?_, rfl⟩ dX1_lengthOf_34
        rw [← hu, up1, if_neg hz]
  refine g_sipush C (nI 512) dX1_lengthOf_0 (k := ?_)
  refine g_istore_n C dX1_lengthOf_3 (k := ?_)
  exact g_l2 (loop 512 (Nat.le_refl _) rfl) ⟨Or.inr rfl, Or.inr rfl, Or.inr rfl, trivial⟩
set_option maxRecDepth 100000 in
set_option maxHeartbeats 4000000 in
theorem m_sizeOf (l : Launch) {D : va_G} {tys : List (ClassId × FieldType)} {N : Nat} {ad : Nat → Nat} {ct : Nat → va_E} (hN : 26 ≤ N) {cJ : ClassId} {th : Int32} {p g i : Nat} {c : Nat → Nat} (e20 : ct 20 = obM th p g ad) (ec : ct 22 = LN cJ 1440 c) (ht : tys[0]? = some (cJ, .long)) (hi : i < 6) (hc : ∀ k, k < 1440 → c k < 2 ^ 63) :
    gMi l yX1_sizeOf wsX1_sizeOf rz D vwCl tys N ad [.ref (ad 20), .int (nI i)] ct (fun r ct1 => r = nI (up1 (fun k => c (240 * i + k)) 240) ∧ ct1 = ct) := by
  refine gof_i (cc := cX1_sizeOf) (maxL := 3) (by decide) rfl (Nat.le_of_ble_eq_true rfl) ?_
  intro M sz C hlM hRM hr hsz
  have h20 : 20 < N := by omega
  have hq : 22 < N := by omega
  have loop : ∀ n : Nat, n ≤ 240 → up1 (fun k => c (240 * i + k)) n = up1 (fun k => c (240 * i + k)) 240 → gW M D vwCl (ixA N ad sz) 3 0 0 (MQ (gb M) (va_Qi (fun r ct1 => r = nI (up1 (fun k => c (240 * i + k)) 240) ∧ ct1 = ct) (gB D vwCl tys N ad (ixA N ad sz)) (ixA N ad sz)) (ga M) (gs M) 0 0 (ixA N ad sz)) N ad 4 [(0, some (.ref (ad 20))), (1, some (.int (nI i))), (2, some (.int (nI n)))] [] ct := by
    intro n
    induction n with
    | zero =>
      intro _ hu
      refine g_iload_n C dX1_sizeOf_4 (k := ?_)
      refine g_ifN_le (tgt := 33) C (by decide) dX1_sizeOf_5 (by decide) (fun _ => ?_) (fun h => absurd h (by decide))
      refine g_iload_n C dX1_sizeOf_33 (k := ?_)
      exact g_iret C hr ⟨by rw [← hu]; rfl, rfl⟩ dX1_sizeOf_34
    | succ n ih =>
      intro hn hu
      refine g_iload_n C dX1_sizeOf_4 (k := ?_)
      refine g_ifN_le (tgt := 33) C (by omega) dX1_sizeOf_5 (by decide) (fun h => absurd h (by omega)) (fun _ => ?_)
      refine g_aload_n C dX1_sizeOf_8 (k := ?_)
      refine g_getf (Cn := RX1) (T := TX1) (n := 8) (ref := "WheelProductsModel") C 20 4 h20 e20 rfl (by decide +kernel) (by decide) (by decide +kernel) (fun _ h => h) rfl dX1_sizeOf_9 ?_
      refine g_sipush C (nI 240) dX1_sizeOf_12 (k := ?_)
      refine g_iload_n C dX1_sizeOf_15 (k := ?_)
      refine gN_imul C dX1_sizeOf_16 ?_
      refine g_iload_n C dX1_sizeOf_17 (k := ?_)
      refine gN_iadd C dX1_sizeOf_18 ?_
      refine g_iconst C (nI 1) dX1_sizeOf_19 (k := ?_)
      refine gN_isub C (by omega) dX1_sizeOf_20 ?_
      rw [show 240 * i + (n + 1) - 1 = 240 * i + n by omega]
      refine gN_lald C 22 hq ec ht (by omega) (by decide) dX1_sizeOf_21 ?_
      refine g_lconst C (lN 0) dX1_sizeOf_22 (k := ?_)
      have hvi := hc (240 * i + n) (by omega)
      by_cases hz : c (240 * i + n) = 0
      · refine g_lcN_ne (tgt := 33) C hvi (by decide) dX1_sizeOf_23 dX1_sizeOf_24 (by decide) (fun h => absurd hz h) (fun _ => ?_)
        refine gN_dec C dX1_sizeOf_27 (k := ?_)
        refine g_goto (tgt := 4) C dX1_sizeOf_30 (k := ?_)
        refine g_l2 (ih (by omega) ?_) ⟨Or.inr rfl, Or.inr rfl, Or.inr rfl, trivial⟩
        rw [← hu, up1, if_pos hz]
      · refine g_lcN_ne (tgt := 33) C hvi (by decide) dX1_sizeOf_23 dX1_sizeOf_24 (by decide) (fun _ => ?_) (fun h => absurd h hz)
        refine g_iload_n C dX1_sizeOf_33 (k := ?_)
        refine g_iret C hr ⟨?_, rfl⟩ dX1_sizeOf_34
        rw [← hu, up1, if_neg hz]
  refine g_sipush C (nI 240) dX1_sizeOf_0 (k := ?_)
  refine g_istore_n C dX1_sizeOf_3 (k := ?_)
  exact g_l2 (loop 240 (Nat.le_refl _) rfl) ⟨Or.inr rfl, Or.inr rfl, Or.inr rfl, trivial⟩
