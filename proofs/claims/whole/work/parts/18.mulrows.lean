/-! ===== only the first 2 to the K numbers count ===== -/
theorem jv_congr {p h t n : Nat} {wn v w : Nat → Nat} (hv : ∀ k, k < n → v k = w k) (hn : n % (2 * h) = 0) (hh : 0 < h) {i : Nat} (hi : i < n) : jv p h t wn v i = jv p h t wn w i := by
  unfold jv
  by_cases hm : i % (2 * h) < h
  · rw [if_pos hm, if_pos hm]
    have hl : i + h < n := by
      have e1 := Nat.div_add_mod i (2 * h)
      have e2 := Nat.div_add_mod n (2 * h)
      rw [hn, Nat.add_zero] at e2
      have h3 : i / (2 * h) < n / (2 * h) := by
        rcases Nat.lt_or_ge (i / (2 * h)) (n / (2 * h)) with h9 | h9
        · exact h9
        · have := Nat.mul_le_mul_left (2 * h) h9
          omega
      have h4 : 2 * h * (i / (2 * h) + 1) ≤ 2 * h * (n / (2 * h)) := Nat.mul_le_mul_left _ h3
      rw [Nat.mul_add, Nat.mul_one] at h4
      omega
    rw [hv i hi, hv _ hl]
  · rw [if_neg hm, if_neg hm, hv i hi, hv (i - h) (by omega)]
theorem tf_congr {p K : Nat} {wn v w : Nat → Nat} (hv : ∀ k, k < 2 ^ K → v k = w k) : ∀ s, s ≤ K → ∀ k, k < 2 ^ K → tf p wn K v s k = tf p wn K w s k
  | 0, _, k, hk => by
    show ob K v (2 ^ K) k = ob K w (2 ^ K) k
    rw [ob_end K v hk, ob_end K w hk, hv _ (rv_lt K k)]
  | s + 1, hs, k, hk => by
    have ih := tf_congr (p := p) (wn := wn) hv s (by omega)
    rw [tf, tf]
    unfold jw
    split
    · refine jv_congr ih ?_ (Nat.pow_pos (by decide)) hk
      rw [Nat.mul_comm 2, ← Nat.pow_succ]
      rw [show 2 ^ K = 2 ^ (K - (s + 1)) * 2 ^ (s + 1) by rw [← Nat.pow_add]; congr 1; omega]
      exact Nat.mul_mod_left _ _
    · exact ih k hk
theorem tb_congr {p K : Nat} {wn v w : Nat → Nat} (hv : ∀ k, k < 2 ^ K → v k = w k) {k : Nat} (hk : k < 2 ^ K) : tb p wn K v k = tb p wn K w k := by
  have h := tf_congr (p := p) (wn := wn) hv K (Nat.le_refl K)
  unfold tb rvs scl
  by_cases h1 : 1 ≤ k ∧ k < 2 ^ K
  · rw [if_pos h1, if_pos h1, if_pos (by omega), if_pos (by omega), h _ (by omega)]
  · rw [if_neg h1, if_neg h1, if_pos hk, if_pos hk, h k hk]
/-- the product of two rows, by turning -/
def mr (p : Nat) (wn : Nat → Nat) (K : Nat) (a b : Nat → Nat) : Nat → Nat := fun k => if k < 2 ^ K then tb p wn K (fun j => tf p wn K a K j * tf p wn K b K j % p) k else 0
def cpN (v w : Nat → Nat) (n : Nat) : Nat → Nat := fun k => if k < n then v k else w k
theorem cp_lN (v w : Nat → Nat) (n : Nat) : va_cpy (fun k => lN (v k)) (fun k => lN (w k)) 0 0 n = fun k => lN (cpN v w n k) := by
  funext k
  unfold va_cpy cpN
  by_cases h : k < n
  · rw [if_pos ⟨Nat.zero_le k, by omega⟩, if_pos h, Nat.zero_add, Nat.sub_zero]
  · rw [if_neg (by omega), if_neg h]
abbrev rt4 : Room := { frames := 4, cells := 0, slots := 0, locals := 100 }

set_option maxRecDepth 100000 in
set_option maxHeartbeats 4000000 in
theorem c_multiplyRows (l : Launch) {D : va_G} {tys : List (ClassId × FieldType)} {N : Nat} {ad : Nat → Nat} {ct : Nat → va_E} (hN : 20 ≤ N) {qt qa qb : Nat} (hqt : 2 < qt ∧ qt < 9) (hqa : 2 < qa ∧ qa < 9) (hqb : 2 < qb ∧ qb < 9) {cJ : ClassId} {p K : Nat} {wn va vb vt lf rt : Nat → Nat} (e0 : ct 0 = obX p ad) (ew : ct 1 = LN cJ 512 wn) (ea : ct qa = LN cJ 512 va) (eb : ct qb = LN cJ 512 vb) (et : ct qt = LN cJ 512 vt) (el : ct 17 = LN cJ 512 lf) (er : ct 18 = LN cJ 512 rt) (ht : tys[0]? = some (cJ, .long)) (hp : 512 < p) (hp2 : p < 2 ^ 31) (hK : K ≤ 9) (hva : ∀ k, k < 2 ^ K → va k < p) (hvb : ∀ k, k < 2 ^ K → vb k < p) (hwn : ∀ k, k < 512 → wn k < p) :
    gMv l yX0_multiplyRows wsX0_multiplyRows rt4 D vwCl tys N ad [.ref (ad 0), .ref (ad qt), .ref (ad qa), .ref (ad qb), .int (nI (2 ^ K))] ct (fun ct1 => ∃ lf1 rt1, ct1 = va_up (va_up (va_up ct 17 (LN cJ 512 lf1)) 18 (LN cJ 512 rt1)) qt (LN cJ 512 (mr p wn K va vb))) := by
  refine gof_v (cc := cX0_multiplyRows) (maxL := 6) (by decide) rfl (Nat.le_of_ble_eq_true rfl) ?_
  intro M sz C hlM hRM hr hsz
  have h0 : 0 < N := by omega
  have h17 : 17 < N := by omega
  have h18 : 18 < N := by omega
  have hKn : 2 ^ K ≤ 512 := show 2 ^ K ≤ 2 ^ 9 from Nat.pow_le_pow_right (by decide) hK
  refine g_aload_n C dX0_multiplyRows_0 (k := ?_)
  refine g_iconst C 0 dX0_multiplyRows_1 (k := ?_)
  refine g_aload_n C dX0_multiplyRows_2 (k := ?_)
  refine g_getf (Cn := RX0) (T := TX0) (n := 8) (ref := "WheelProducts") C 0 5 h0 e0 rfl (by decide +kernel) (by decide) (by decide +kernel) (fun _ h => h) rfl dX0_multiplyRows_3 ?_
  refine g_iconst C 0 dX0_multiplyRows_6 (k := ?_)
  refine g_iload C dX0_multiplyRows_7 (k := ?_)
  refine g_acopy C (by decide +kernel) (by decide +kernel) (by decide +kernel) (by decide +kernel) qa 17 0 (by omega) h17 ea el ht hKn hKn (by omega) (by rw [hRM]; exact Nat.le_of_ble_eq_true rfl) (by rw [hRM]; exact Nat.le_of_ble_eq_true rfl) dX0_multiplyRows_9 ?_
  rw [cp_lN]
  generalize hL0 : cpN va lf (2 ^ K) = L0
  refine g_aload_n C dX0_multiplyRows_12 (k := ?_)
  refine g_iconst C 0 dX0_multiplyRows_13 (k := ?_)
  refine g_aload_n C dX0_multiplyRows_14 (k := ?_)
  refine g_getf (Cn := RX0) (T := TX0) (n := 8) (ref := "WheelProducts") C 0 6 h0 (by (repeat rw [va_up_ne _ _ (by omega)]); exact e0) rfl (by decide +kernel) (by decide) (by decide +kernel) (fun _ h => h) rfl dX0_multiplyRows_15 ?_
  refine g_iconst C 0 dX0_multiplyRows_18 (k := ?_)
  refine g_iload C dX0_multiplyRows_19 (k := ?_)
  refine g_acopy C (by decide +kernel) (by decide +kernel) (by decide +kernel) (by decide +kernel) qb 18 0 (by omega) h18 (by (repeat rw [va_up_ne _ _ (by omega)]); exact eb) (by (repeat rw [va_up_ne _ _ (by omega)]); exact er) ht hKn hKn (by omega) (by rw [hRM]; exact Nat.le_of_ble_eq_true rfl) (by rw [hRM]; exact Nat.le_of_ble_eq_true rfl) dX0_multiplyRows_21 ?_
  rw [cp_lN]
  generalize hR0 : cpN vb rt (2 ^ K) = R0
  have hLv : ∀ k, k < 2 ^ K → L0 k = va k := fun k hk => by rw [← hL0]; unfold cpN; rw [if_pos hk]
  have hRv : ∀ k, k < 2 ^ K → R0 k = vb k := fun k hk => by rw [← hR0]; unfold cpN; rw [if_pos hk]
  refine g_aload_n C dX0_multiplyRows_24 (k := ?_)
  refine g_aload_n C dX0_multiplyRows_25 (k := ?_)
  refine g_getf (Cn := RX0) (T := TX0) (n := 8) (ref := "WheelProducts") C 0 5 h0 (by (repeat rw [va_up_ne _ _ (by omega)]); exact e0) rfl (by decide +kernel) (by decide) (by decide +kernel) (fun _ h => h) rfl dX0_multiplyRows_26 ?_
  refine g_iload C dX0_multiplyRows_29 (k := ?_)
  refine g_cVv (n := 2) (av := [.ref (ad 17), .int (nI (2 ^ K))]) C 0 h0 (by (repeat rw [va_up_ne _ _ (by omega)]); exact e0) rfl (by rw [hlM]; exact c_turnForward l hN h17 (by decide) (by decide) (v := L0) (by (repeat rw [va_up_ne _ _ (by omega)]); exact e0) (by (repeat rw [va_up_ne _ _ (by omega)]); exact ew) (by rw [va_up_ne _ _ (by decide), va_up_self]) ht (by omega) hp2 hK (fun k hk => by rw [hLv k hk]; exact hva k hk) hwn) gX0_multiplyRows_X0_turnForward rfl ⟨rfl, rfl⟩ (by rw [hRM]; exact ⟨Nat.le_of_ble_eq_true rfl, Nat.le_of_ble_eq_true rfl⟩) (by rw [hRM]; exact ⟨Nat.le_of_ble_eq_true rfl, Nat.le_of_ble_eq_true rfl⟩) (Nat.le_of_ble_eq_true rfl) (by decide +kernel) rfl dX0_multiplyRows_31 ?_
  rintro ct1 rfl
  refine g_aload_n C dX0_multiplyRows_34 (k := ?_)
  refine g_aload_n C dX0_multiplyRows_35 (k := ?_)
  refine g_getf (Cn := RX0) (T := TX0) (n := 8) (ref := "WheelProducts") C 0 6 h0 (by (repeat rw [va_up_ne _ _ (by omega)]); exact e0) rfl (by decide +kernel) (by decide) (by decide +kernel) (fun _ h => h) rfl dX0_multiplyRows_36 ?_
  refine g_iload C dX0_multiplyRows_39 (k := ?_)
  refine g_cVv (n := 2) (av := [.ref (ad 18), .int (nI (2 ^ K))]) C 0 h0 (by (repeat rw [va_up_ne _ _ (by omega)]); exact e0) rfl (by rw [hlM]; exact c_turnForward l hN h18 (by decide) (by decide) (v := R0) (by (repeat rw [va_up_ne _ _ (by omega)]); exact e0) (by (repeat rw [va_up_ne _ _ (by omega)]); exact ew) (by rw [va_up_ne _ _ (by decide), va_up_self]) ht (by omega) hp2 hK (fun k hk => by rw [hRv k hk]; exact hvb k hk) hwn) gX0_multiplyRows_X0_turnForward rfl ⟨rfl, rfl⟩ (by rw [hRM]; exact ⟨Nat.le_of_ble_eq_true rfl, Nat.le_of_ble_eq_true rfl⟩) (by rw [hRM]; exact ⟨Nat.le_of_ble_eq_true rfl, Nat.le_of_ble_eq_true rfl⟩) (Nat.le_of_ble_eq_true rfl) (by decide +kernel) rfl dX0_multiplyRows_41 ?_
  rintro ct1 rfl
  have hLt := tf_congr (p := p) (wn := wn) hLv K (Nat.le_refl K)
  have hRt := tf_congr (p := p) (wn := wn) hRv K (Nat.le_refl K)
  have hLl := tf_lt (p := p) (wn := wn) (v := va) (K := K) (by omega) hva K
  have hRl := tf_lt (p := p) (wn := wn) (v := vb) (K := K) (by omega) hvb K
  generalize tf p wn K L0 K = L1 at hLt ⊢
  generalize tf p wn K R0 K = R1 at hRt ⊢
  have hct : va_up (va_up (va_up (va_up ct 17 (LN cJ 512 L0)) 18 (LN cJ 512 R0)) 17 (LN cJ 512 L1)) 18 (LN cJ 512 R1) = va_up (va_up ct 17 (LN cJ 512 L1)) 18 (LN cJ 512 R1) := by
    funext k
    by_cases h1 : k = 18
    · subst h1; rw [va_up_self, va_up_self]
    · rw [va_up_ne _ _ h1, va_up_ne _ _ h1]
      by_cases h2 : k = 17
      · subst h2; rw [va_up_self, va_up_self]
      · rw [va_up_ne _ _ h2, va_up_ne _ _ h1, va_up_ne _ _ h2, va_up_ne _ _ h2]
  rw [hct]
  have loop : ∀ (d i : Nat), 2 ^ K = i + d → gW M D vwCl (ixA N ad sz) 6 0 0 (MQ (gb M) (va_Qv (fun ct1 => ∃ lf1 rt1, ct1 = va_up (va_up (va_up ct 17 (LN cJ 512 lf1)) 18 (LN cJ 512 rt1)) qt (LN cJ 512 (mr p wn K va vb))) (gB D vwCl tys N ad (ixA N ad sz)) (ixA N ad sz)) (ga M) (gs M) 0 0 (ixA N ad sz)) N ad 47 [(0, some (.ref (ad 0))), (1, some (.ref (ad qt))), (4, some (.int (nI (2 ^ K)))), (5, some (.int (nI i)))] [] (va_up (va_up ct 17 (LN cJ 512 (fun k => if k < i then L1 k * R1 k % p else L1 k))) 18 (LN cJ 512 R1)) := by
    intro d
    induction d with
    | zero =>
      intro i hd
      have hi : 2 ^ K = i := by omega
      refine g_iload C dX0_multiplyRows_47 (k := ?_)
      refine g_iload C dX0_multiplyRows_49 (k := ?_)
      refine g_icN_ge (tgt := 87) C (by omega) (by omega) dX0_multiplyRows_51 (by decide) (fun _ => ?_) (fun h => absurd h (by omega))
      refine g_aload_n C dX0_multiplyRows_87 (k := ?_)
      refine g_aload_n C dX0_multiplyRows_88 (k := ?_)
      refine g_getf (Cn := RX0) (T := TX0) (n := 8) (ref := "WheelProducts") C 0 5 h0 (by (repeat rw [va_up_ne _ _ (by omega)]); exact e0) rfl (by decide +kernel) (by decide) (by decide +kernel) (fun _ h => h) rfl dX0_multiplyRows_89 ?_
      refine g_iload C dX0_multiplyRows_92 (k := ?_)
      generalize hP : (fun k => if k < i then L1 k * R1 k % p else L1 k) = P
      have hPv : ∀ k, k < 2 ^ K → P k = tf p wn K va K k * tf p wn K vb K k % p := fun k hk => by
        rw [← hP]
        show (if k < i then L1 k * R1 k % p else L1 k) = _
        rw [if_pos (by omega), hLt k hk, hRt k hk]
      refine g_cVv (n := 2) (av := [.ref (ad 17), .int (nI (2 ^ K))]) C 0 h0 (by (repeat rw [va_up_ne _ _ (by omega)]); exact e0) rfl (by rw [hlM]; exact c_turnBackward l hN h17 (by decide) (by decide) (v := P) (by (repeat rw [va_up_ne _ _ (by omega)]); exact e0) (by (repeat rw [va_up_ne _ _ (by omega)]); exact ew) (by rw [va_up_ne _ _ (by decide), va_up_self]) ht hp hp2 hK (fun k hk => by rw [hPv k hk]; exact Nat.mod_lt _ (by omega)) hwn) gX0_multiplyRows_X0_turnBackward rfl ⟨rfl, rfl⟩ (by rw [hRM]; exact ⟨Nat.le_of_ble_eq_true rfl, Nat.le_of_ble_eq_true rfl⟩) (by rw [hRM]; exact ⟨Nat.le_of_ble_eq_true rfl, Nat.le_of_ble_eq_true rfl⟩) (Nat.le_of_ble_eq_true rfl) (by decide +kernel) rfl dX0_multiplyRows_94 ?_
      rintro ct1 rfl
      have hB := fun k hk => tb_congr (p := p) (wn := wn) hPv (k := k) hk
      generalize tb p wn K P = B at hB ⊢
      refine g_aload_n C dX0_multiplyRows_97 (k := ?_)
      refine g_lconst C (lN 0) dX0_multiplyRows_98 (k := ?_)
      refine g_cSv (n := 2) (av := [.ref (ad qt), .long (lN 0)]) C (by rw [hlM]; exact c_fill l (by omega) (by (repeat rw [va_up_ne _ _ (by omega)]); exact et) ht (by decide)) gX0_multiplyRows_J7_fill_d0a16 rfl ⟨rfl, rfl⟩ (by rw [hRM]; exact ⟨Nat.le_of_ble_eq_true rfl, Nat.le_of_ble_eq_true rfl⟩) (by rw [hRM]; exact ⟨Nat.le_of_ble_eq_true rfl, Nat.le_of_ble_eq_true rfl⟩) (Nat.le_of_ble_eq_true rfl) (by decide +kernel) rfl dX0_multiplyRows_99 ?_
      rintro ct1 rfl
      refine g_aload_n C dX0_multiplyRows_102 (k := ?_)
      refine g_getf (Cn := RX0) (T := TX0) (n := 8) (ref := "WheelProducts") C 0 5 h0 (by (repeat rw [va_up_ne _ _ (by omega)]); exact e0) rfl (by decide +kernel) (by decide) (by decide +kernel) (fun _ h => h) rfl dX0_multiplyRows_103 ?_
      refine g_iconst C 0 dX0_multiplyRows_106 (k := ?_)
      refine g_aload_n C dX0_multiplyRows_107 (k := ?_)
      refine g_iconst C 0 dX0_multiplyRows_108 (k := ?_)
      refine g_iload C dX0_multiplyRows_109 (k := ?_)
      refine g_acopy C (by decide +kernel) (by decide +kernel) (by decide +kernel) (by decide +kernel) 17 qt 0 h17 (by omega) (by rw [va_up_ne _ _ (by omega), va_up_self]) (va_up_self _ _ _) ht hKn hKn (by omega) (by rw [hRM]; exact Nat.le_of_ble_eq_true rfl) (by rw [hRM]; exact Nat.le_of_ble_eq_true rfl) dX0_multiplyRows_111 ?_
      rw [cp_lN]
      refine g_vret C hr ⟨B, R1, ?_⟩ dX0_multiplyRows_114
      have hmr : cpN B (fun _ => 0) (2 ^ K) = mr p wn K va vb := by
        funext k
        unfold cpN mr
        by_cases hk : k < 2 ^ K
        · rw [if_pos hk, if_pos hk, hB k hk]
        · rw [if_neg hk, if_neg hk]
      rw [bx_uu, hmr]
      funext k
      by_cases h1 : k = qt
      · subst h1; rw [va_up_self, va_up_self]
      · rw [va_up_ne _ _ h1, va_up_ne _ _ h1]
        by_cases h2 : k = 17
        · subst h2; rw [va_up_self, va_up_ne _ _ (by decide), va_up_self]
        · rw [va_up_ne _ _ h2]
          by_cases h3 : k = 18
          · subst h3; rw [va_up_self, va_up_self]
          · rw [va_up_ne _ _ h3, va_up_ne _ _ h3, va_up_ne _ _ h2, va_up_ne _ _ h2]
    | succ d ih =>
      intro i hd
      have hik : i < 2 ^ K := by omega
      have hl1 : L1 i < p := by rw [hLt i hik]; exact hLl i hik
      have hr1 : R1 i < p := by rw [hRt i hik]; exact hRl i hik
      have hmul : L1 i * R1 i < 2 ^ 62 := Nat.lt_of_lt_of_le (Nat.mul_lt_mul'' (Nat.lt_trans hl1 hp2) (Nat.lt_trans hr1 hp2)) (by decide)
      refine g_iload C dX0_multiplyRows_47 (k := ?_)
      refine g_iload C dX0_multiplyRows_49 (k := ?_)
      refine g_icN_ge (tgt := 87) C (by omega) (by omega) dX0_multiplyRows_51 (by decide) (fun h => absurd h (by omega)) (fun _ => ?_)
      refine g_aload_n C dX0_multiplyRows_54 (k := ?_)
      refine g_getf (Cn := RX0) (T := TX0) (n := 8) (ref := "WheelProducts") C 0 5 h0 (by (repeat rw [va_up_ne _ _ (by omega)]); exact e0) rfl (by decide +kernel) (by decide) (by decide +kernel) (fun _ h => h) rfl dX0_multiplyRows_55 ?_
      refine g_iload C dX0_multiplyRows_58 (k := ?_)
      refine g_aload_n C dX0_multiplyRows_60 (k := ?_)
      refine g_getf (Cn := RX0) (T := TX0) (n := 8) (ref := "WheelProducts") C 0 5 h0 (by (repeat rw [va_up_ne _ _ (by omega)]); exact e0) rfl (by decide +kernel) (by decide) (by decide +kernel) (fun _ h => h) rfl dX0_multiplyRows_61 ?_
      refine g_iload C dX0_multiplyRows_64 (k := ?_)
      refine gN_lald C 17 h17 (by rw [va_up_ne _ _ (by decide), va_up_self]) ht (by omega) (by decide) dX0_multiplyRows_66 ?_
      rw [if_neg (show ¬ i < i by omega)]
      refine g_aload_n C dX0_multiplyRows_67 (k := ?_)
      refine g_getf (Cn := RX0) (T := TX0) (n := 8) (ref := "WheelProducts") C 0 6 h0 (by (repeat rw [va_up_ne _ _ (by omega)]); exact e0) rfl (by decide +kernel) (by decide) (by decide +kernel) (fun _ h => h) rfl dX0_multiplyRows_68 ?_
      refine g_iload C dX0_multiplyRows_71 (k := ?_)
      refine gN_lald C 18 h18 (va_up_self _ _ _) ht (by omega) (by decide) dX0_multiplyRows_73 ?_
      refine gN_lmul C dX0_multiplyRows_74 ?_
      refine g_aload_n C dX0_multiplyRows_75 (k := ?_)
      refine g_getf (Cn := RX0) (T := TX0) (n := 8) (ref := "WheelProducts") C 0 0 h0 (by (repeat rw [va_up_ne _ _ (by omega)]); exact e0) rfl (by decide +kernel) (by decide) (by decide +kernel) (fun _ h => h) rfl dX0_multiplyRows_76 ?_
      refine gN_lrem C (by omega) (by omega) (by omega) dX0_multiplyRows_79 ?_
      refine gN_last C 17 h17 (by rw [va_up_ne _ _ (by decide), va_up_self]) ht (by omega) (by decide) dX0_multiplyRows_80 ?_
      have e : nu (fun k => if k < i then L1 k * R1 k % p else L1 k) i (L1 i * R1 i % p) = fun k => if k < i + 1 then L1 k * R1 k % p else L1 k := by
        funext k
        unfold nu
        by_cases h1 : k = i
        · subst h1; rw [if_pos rfl, if_pos (by omega)]
        · rw [if_neg h1]
          show (if k < i then L1 k * R1 k % p else L1 k) = _
          by_cases h2 : k < i
          · rw [if_pos h2, if_pos (by omega)]
          · rw [if_neg h2, if_neg (by omega)]
      have hcc : ∀ x y z, va_up (va_up (va_up ct 17 x) 18 y) 17 z = va_up (va_up ct 17 z) 18 y := by
        intro x y z
        funext k
        by_cases h2 : k = 17
        · subst h2; rw [va_up_self, va_up_ne _ _ (by decide), va_up_self]
        · rw [va_up_ne _ _ h2]
          by_cases h3 : k = 18
          · subst h3; rw [va_up_self, va_up_self]
          · rw [va_up_ne _ _ h3, va_up_ne _ _ h3, va_up_ne _ _ h2, va_up_ne _ _ h2]
      rw [hcc, e]
      refine gN_inc C dX0_multiplyRows_81 (k := ?_)
      refine g_goto (tgt := 47) C dX0_multiplyRows_84 (k := ?_)
      exact g_l2 (ih (i + 1) (by omega)) ⟨Or.inr rfl, Or.inr rfl, Or.inr rfl, Or.inr rfl, trivial⟩
  refine g_iconst C (nI 0) dX0_multiplyRows_44 (k := ?_)
  refine g_istore C dX0_multiplyRows_45 (k := ?_)
  refine g_ct (ct' := va_up (va_up ct 17 (LN cJ 512 (fun k => if k < 0 then L1 k * R1 k % p else L1 k))) 18 (LN cJ 512 R1)) ?_ ?_
  · have : (fun k => if k < 0 then L1 k * R1 k % p else L1 k) = L1 := funext fun k => if_neg (by omega)
    rw [this]
  · exact g_l2 (loop (2 ^ K) 0 (by omega)) ⟨Or.inr rfl, Or.inr rfl, Or.inr rfl, Or.inr rfl, trivial⟩
