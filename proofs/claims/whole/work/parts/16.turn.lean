/-! ===== powerModulo ===== -/
theorem pm_odd (a s k m : Nat) : (a * s % m) * (s * s % m) ^ k % m = a * s ^ (2 * k + 1) % m := by
  rw [Nat.mul_mod, Nat.mod_mod, ← Nat.pow_mod, ← Nat.mul_mod, Nat.pow_succ, Nat.pow_mul, Nat.pow_two, Nat.mul_assoc, Nat.mul_comm s]
theorem pm_even (a s k m : Nat) : a * (s * s % m) ^ k % m = a * s ^ (2 * k) % m := by
  rw [Nat.mul_mod, ← Nat.pow_mod, ← Nat.mul_mod, Nat.pow_mul, Nat.pow_two]

set_option maxRecDepth 100000 in
set_option maxHeartbeats 4000000 in
theorem c_powerModulo (l : Launch) {D : va_G} {tys : List (ClassId × FieldType)} {N : Nat} {ad : Nat → Nat} {ct : Nat → va_E} {cl : List vw_C} {x e m : Nat} (hx : x < m) (he : e < 2 ^ 63) (hm : 1 < m) (hm2 : m < 2 ^ 31) :
    gMl l yX0_powerModulo wsX0_powerModulo rz D cl tys N ad [.long (lN x), .long (lN e), .long (lN m)] ct (fun r ct1 => r = lN (x ^ e % m) ∧ ct1 = ct) := by
  refine gof_l (cc := cX0_powerModulo) (maxL := 12) (by decide) rfl (Nat.le_of_ble_eq_true rfl) ?_
  intro M sz C hlM hRM hr hsz
  have loop : ∀ (b a s : Nat), a < m → s < m → b < 2 ^ 63 → a * s ^ b % m = x ^ e % m → gW M D cl (ixA N ad sz) 12 0 0 (MQ (gb M) (va_Ql (fun r ct1 => r = lN (x ^ e % m) ∧ ct1 = ct) (gB D cl tys N ad (ixA N ad sz)) (ixA N ad sz)) (ga M) (gs M) 0 0 (ixA N ad sz)) N ad 9 [(4, some (.long (lN m))), (6, some (.long (lN a))), (8, some (.long (lN s))), (10, some (.long (lN b)))] [] ct := by
    intro b
    induction b using Nat.strongRecOn with
    | ind b ih =>
      intro a s ha hs hb63 hv
      have hss : s * s < 2 ^ 62 := Nat.lt_of_lt_of_le (Nat.mul_lt_mul'' (Nat.lt_trans hs hm2) (Nat.lt_trans hs hm2)) (by decide)
      have has : a * s < 2 ^ 62 := Nat.lt_of_lt_of_le (Nat.mul_lt_mul'' (Nat.lt_trans ha hm2) (Nat.lt_trans hs hm2)) (by decide)
      refine g_lload C dX0_powerModulo_9 (k := ?_)
      refine g_lconst C (lN 0) dX0_powerModulo_11 (k := ?_)
      by_cases hb0 : b = 0
      · refine g_lcN_le (tgt := 54) C hb63 (by decide) dX0_powerModulo_12 dX0_powerModulo_13 (by decide) (fun _ => ?_) (fun h => absurd h (by omega))
        refine g_lload C dX0_powerModulo_54 (k := ?_)
        refine g_lret C hr ⟨?_, rfl⟩ dX0_powerModulo_56
        rw [hb0, Nat.pow_zero, Nat.mul_one, Nat.mod_eq_of_lt ha] at hv
        rw [hv]
      · refine g_lcN_le (tgt := 54) C hb63 (by decide) dX0_powerModulo_12 dX0_powerModulo_13 (by decide) (fun h => absurd h (by omega)) (fun _ => ?_)
        refine g_lload C dX0_powerModulo_16 (k := ?_)
        refine g_lconst C (lN 1) dX0_powerModulo_18 (k := ?_)
        refine g_land C dX0_powerModulo_19 ?_
        refine g_tl _ (k_and1 b) ?_
        refine g_lconst C (lN 1) dX0_powerModulo_20 (k := ?_)
        by_cases h1 : b % 2 = 1
        · refine g_lcN_ne (tgt := 35) C (by omega) (by decide) dX0_powerModulo_21 dX0_powerModulo_22 (by decide) (fun h => absurd h1 h) (fun _ => ?_)
          refine g_lload C dX0_powerModulo_25 (k := ?_)
          refine g_lload C dX0_powerModulo_27 (k := ?_)
          refine gN_lmul C dX0_powerModulo_29 ?_
          refine g_lload C dX0_powerModulo_30 (k := ?_)
          refine gN_lrem C (by omega) (by omega) (by omega) dX0_powerModulo_32 ?_
          refine g_lstore C dX0_powerModulo_33 (k := ?_)
          refine g_lload C dX0_powerModulo_35 (k := ?_)
          refine g_lload C dX0_powerModulo_37 (k := ?_)
          refine gN_lmul C dX0_powerModulo_39 ?_
          refine g_lload C dX0_powerModulo_40 (k := ?_)
          refine gN_lrem C (by omega) (by omega) (by omega) dX0_powerModulo_42 ?_
          refine g_lstore C dX0_powerModulo_43 (k := ?_)
          refine g_lload C dX0_powerModulo_45 (k := ?_)
          refine g_iconst C (nI 1) dX0_powerModulo_47 (k := ?_)
          refine g_lshr C dX0_powerModulo_48 ?_
          refine g_tl _ (k_lshr1 hb63) ?_
          refine g_lstore C dX0_powerModulo_49 (k := ?_)
          refine g_goto (tgt := 9) C dX0_powerModulo_51 (k := ?_)
          refine g_l2 (ih (b / 2) (by omega) (a * s % m) (s * s % m) (Nat.mod_lt _ (by omega)) (Nat.mod_lt _ (by omega)) (by omega) ?_) ⟨Or.inr rfl, Or.inr rfl, Or.inr rfl, Or.inr rfl, trivial⟩
          rw [pm_odd, show 2 * (b / 2) + 1 = b by omega, hv]
        · refine g_lcN_ne (tgt := 35) C (by omega) (by decide) dX0_powerModulo_21 dX0_powerModulo_22 (by decide) (fun _ => ?_) (fun h => absurd h h1)
          refine g_lload C dX0_powerModulo_35 (k := ?_)
          refine g_lload C dX0_powerModulo_37 (k := ?_)
          refine gN_lmul C dX0_powerModulo_39 ?_
          refine g_lload C dX0_powerModulo_40 (k := ?_)
          refine gN_lrem C (by omega) (by omega) (by omega) dX0_powerModulo_42 ?_
          refine g_lstore C dX0_powerModulo_43 (k := ?_)
          refine g_lload C dX0_powerModulo_45 (k := ?_)
          refine g_iconst C (nI 1) dX0_powerModulo_47 (k := ?_)
          refine g_lshr C dX0_powerModulo_48 ?_
          refine g_tl _ (k_lshr1 hb63) ?_
          refine g_lstore C dX0_powerModulo_49 (k := ?_)
          refine g_goto (tgt := 9) C dX0_powerModulo_51 (k := ?_)
          refine g_l2 (ih (b / 2) (by omega) a (s * s % m) ha (Nat.mod_lt _ (by omega)) (by omega) ?_) ⟨Or.inr rfl, Or.inr rfl, Or.inr rfl, Or.inr rfl, trivial⟩
          rw [pm_even, show 2 * (b / 2) = b by omega, hv]
  refine g_lconst C (lN 1) dX0_powerModulo_0 (k := ?_)
  refine g_lstore C dX0_powerModulo_1 (k := ?_)
  refine g_lload_n C dX0_powerModulo_3 (k := ?_)
  refine g_lstore C dX0_powerModulo_4 (k := ?_)
  refine g_lload_n C dX0_powerModulo_6 (k := ?_)
  refine g_lstore C dX0_powerModulo_7 (k := ?_)
  exact g_l2 (loop e 1 x hm hx he (by rw [Nat.one_mul])) ⟨Or.inr rfl, Or.inr rfl, Or.inr rfl, Or.inr rfl, trivial⟩
abbrev ri1 : Room := { frames := 1, cells := 0, slots := 0, locals := 31 }
set_option maxRecDepth 100000 in
set_option maxHeartbeats 4000000 in
theorem c_inverseOf (l : Launch) {D : va_G} {tys : List (ClassId × FieldType)} {N : Nat} {ad : Nat → Nat} {ct : Nat → va_E} (hN : 20 ≤ N) {p x : Nat} (e0 : ct 0 = obX p ad) (hx : x < p) (hp1 : 1 < p) (hp : p < 2 ^ 31) :
    gMl l yX0_inverseOf wsX0_inverseOf ri1 D vwCl tys N ad [.ref (ad 0), .long (lN x)] ct (fun r ct1 => r = lN (x ^ (p - 2) % p) ∧ ct1 = ct) := by
  refine gof_l (cc := cX0_inverseOf) (maxL := 3) (by decide) rfl (Nat.le_of_ble_eq_true rfl) ?_
  intro M sz C hlM hRM hr hsz
  have h0 : 0 < N := by omega
  refine g_lload_n C dX0_inverseOf_0 (k := ?_)
  refine g_aload_n C dX0_inverseOf_1 (k := ?_)
  refine g_getf (Cn := RX0) (T := TX0) (n := 8) (ref := "WheelProducts") C 0 0 h0 e0 rfl (by decide +kernel) (by decide) (by decide +kernel) (fun _ h => h) rfl dX0_inverseOf_2 ?_
  refine g_ldc2 (v := 2) C (by decide +kernel) dX0_inverseOf_5 ?_
  refine g_tl (lN 2) rfl ?_
  refine gN_lsub C (by omega) dX0_inverseOf_8 ?_
  refine g_aload_n C dX0_inverseOf_9 (k := ?_)
  refine g_getf (Cn := RX0) (T := TX0) (n := 8) (ref := "WheelProducts") C 0 0 h0 e0 rfl (by decide +kernel) (by decide) (by decide +kernel) (fun _ h => h) rfl dX0_inverseOf_10 ?_
  refine g_cSl (n := 3) (av := [.long (lN x), .long (lN (p - 2)), .long (lN p)]) C (by rw [hlM]; exact c_powerModulo l hx (by omega) hp1 hp) gX0_inverseOf_X0_powerModulo rfl ⟨rfl, rfl⟩ (by rw [hRM]; exact ⟨Nat.le_of_ble_eq_true rfl, Nat.le_of_ble_eq_true rfl⟩) (by rw [hRM]; exact ⟨Nat.le_of_ble_eq_true rfl, Nat.le_of_ble_eq_true rfl⟩) (Nat.le_of_ble_eq_true rfl) (by decide +kernel) rfl dX0_inverseOf_13 ?_
  rintro v ct1 ⟨rfl, rfl⟩
  exact g_lret C hr ⟨rfl, rfl⟩ dX0_inverseOf_16
set_option maxRecDepth 100000 in
set_option maxHeartbeats 4000000 in
theorem c_turnThatHolds (l : Launch) {D : va_G} {tys : List (ClassId × FieldType)} {N : Nat} {ad : Nat → Nat} {ct : Nat → va_E} {cl : List vw_C} {n : Nat} (hn : n ≤ 512) :
    gMi l yX0_turnThatHolds wsX0_turnThatHolds rz D cl tys N ad [.int (nI n)] ct (fun r ct1 => (∃ K, K ≤ 9 ∧ n ≤ 2 ^ K ∧ r = nI (2 ^ K)) ∧ ct1 = ct) := by
  refine gof_i (cc := cX0_turnThatHolds) (maxL := 2) (by decide) rfl (Nat.le_of_ble_eq_true rfl) ?_
  intro M sz C hlM hRM hr hsz
  have loop : ∀ (d K : Nat), 9 = K + d → gW M D cl (ixA N ad sz) 2 0 0 (MQ (gb M) (va_Qi (fun r ct1 => (∃ K, K ≤ 9 ∧ n ≤ 2 ^ K ∧ r = nI (2 ^ K)) ∧ ct1 = ct) (gB D cl tys N ad (ixA N ad sz)) (ixA N ad sz)) (ga M) (gs M) 0 0 (ixA N ad sz)) N ad 2 [(0, some (.int (nI n))), (1, some (.int (nI (2 ^ K))))] [] ct := by
    intro d
    induction d with
    | zero =>
      intro K hd
      have hK : K = 9 := by omega
      subst hK
      refine g_iload_n C dX0_turnThatHolds_2 (k := ?_)
      refine g_iload_n C dX0_turnThatHolds_3 (k := ?_)
      refine g_icN_ge (tgt := 21) C (by decide) (by omega) dX0_turnThatHolds_4 (by decide) (fun h => ?_) (fun h => absurd h (by omega))
      refine g_iload_n C dX0_turnThatHolds_21 (k := ?_)
      exact g_iret C hr ⟨⟨9, by omega, h, rfl⟩, rfl⟩ dX0_turnThatHolds_22
    | succ d ih =>
      intro K hd
      have hK : 2 ^ K < 512 := show 2 ^ K < 2 ^ 9 from Nat.pow_lt_pow_right (by decide) (by omega)
      refine g_iload_n C dX0_turnThatHolds_2 (k := ?_)
      refine g_iload_n C dX0_turnThatHolds_3 (k := ?_)
      refine g_icN_ge (tgt := 21) C (by omega) (by omega) dX0_turnThatHolds_4 (by decide) (fun h => ?_) (fun _ => ?_)
      · refine g_iload_n C dX0_turnThatHolds_21 (k := ?_)
        exact g_iret C hr ⟨⟨K, by omega, h, rfl⟩, rfl⟩ dX0_turnThatHolds_22
      · refine g_iload_n C dX0_turnThatHolds_7 (k := ?_)
        refine g_sipush C (nI 512) dX0_turnThatHolds_8 (k := ?_)
        refine g_icN_ge (tgt := 21) C (by omega) (by decide) dX0_turnThatHolds_11 (by decide) (fun h => absurd h (by omega)) (fun _ => ?_)
        refine g_iload_n C dX0_turnThatHolds_14 (k := ?_)
        refine g_iconst C (nI 2) dX0_turnThatHolds_15 (k := ?_)
        refine gN_imul C dX0_turnThatHolds_16 ?_
        refine g_istore_n C dX0_turnThatHolds_17 (k := ?_)
        refine g_goto (tgt := 2) C dX0_turnThatHolds_18 (k := ?_)
        exact g_l2 (ih (K + 1) (by omega)) ⟨Or.inr rfl, Or.inr rfl, trivial⟩
  refine g_iconst C (nI 1) dX0_turnThatHolds_0 (k := ?_)
  refine g_istore_n C dX0_turnThatHolds_1 (k := ?_)
  exact g_l2 (loop 9 0 rfl) ⟨Or.inr rfl, Or.inr rfl, trivial⟩
/-! ===== the turn: all stages ===== -/
def tf (p : Nat) (wn : Nat → Nat) (K : Nat) (v : Nat → Nat) : Nat → Nat → Nat
  | 0 => ob K v (2 ^ K)
  | s + 1 => jw p (2 ^ s) (256 / 2 ^ s) wn (tf p wn K v s) (2 ^ K) 0
theorem ob_lt {p K m : Nat} {v : Nat → Nat} (hv : ∀ k, k < 2 ^ K → v k < p) {k : Nat} (hk : k < 2 ^ K) : ob K v m k < p := by
  unfold ob
  split
  · exact hv _ (rv_lt K k)
  · exact hv _ hk
theorem tf_lt {p K : Nat} {wn v : Nat → Nat} (hp : 0 < p) (hv : ∀ k, k < 2 ^ K → v k < p) : ∀ s k, k < 2 ^ K → tf p wn K v s k < p
  | 0, k, hk => ob_lt hv hk
  | s + 1, k, hk => by
    rw [tf]
    unfold jw
    split
    · exact jv_lt hp (tf_lt hp hv s) hk
    · exact tf_lt hp hv s k hk
abbrev rt2 : Room := { frames := 2, cells := 0, slots := 0, locals := 50 }

set_option maxRecDepth 100000 in
set_option maxHeartbeats 4000000 in
theorem c_turnForward (l : Launch) {D : va_G} {tys : List (ClassId × FieldType)} {N : Nat} {ad : Nat → Nat} {ct : Nat → va_E} (hN : 20 ≤ N) {q : Nat} (hq : q < N) (hq0 : q ≠ 0) (hq1 : q ≠ 1) {cJ : ClassId} {p K : Nat} {wn v : Nat → Nat} (e0 : ct 0 = obX p ad) (ew : ct 1 = LN cJ 512 wn) (he : ct q = LN cJ 512 v) (ht : tys[0]? = some (cJ, .long)) (hp : 0 < p) (hp2 : p < 2 ^ 31) (hK : K ≤ 9) (hv : ∀ k, k < 2 ^ K → v k < p) (hwn : ∀ k, k < 512 → wn k < p) :
    gMv l yX0_turnForward wsX0_turnForward rt2 D vwCl tys N ad [.ref (ad 0), .ref (ad q), .int (nI (2 ^ K))] ct (fun ct1 => ct1 = va_up ct q (LN cJ 512 (tf p wn K v K))) := by
  refine gof_v (cc := cX0_turnForward) (maxL := 5) (by decide) rfl (Nat.le_of_ble_eq_true rfl) ?_
  intro M sz C hlM hRM hr hsz
  have h0 : 0 < N := by omega
  have hKn : 2 ^ K ≤ 512 := show 2 ^ K ≤ 2 ^ 9 from Nat.pow_le_pow_right (by decide) hK
  have loop : ∀ (d s : Nat), K = s + d → gW M D vwCl (ixA N ad sz) 5 0 0 (MQ (gb M) (va_Qv (fun ct1 => ct1 = va_up ct q (LN cJ 512 (tf p wn K v K))) (gB D vwCl tys N ad (ixA N ad sz)) (ixA N ad sz)) (ga M) (gs M) 0 0 (ixA N ad sz)) N ad 12 [(0, some (.ref (ad 0))), (1, some (.ref (ad q))), (2, some (.int (nI (2 ^ K)))), (3, some (.int (nI (256 / 2 ^ s)))), (4, some (.int (nI (2 ^ s))))] [] (va_up ct q (LN cJ 512 (tf p wn K v s))) := by
    intro d
    induction d with
    | zero =>
      intro s hd
      have hsK : s = K := by omega
      subst hsK
      refine g_iload C dX0_turnForward_12 (k := ?_)
      refine g_iload_n C dX0_turnForward_14 (k := ?_)
      refine g_icN_ge (tgt := 40) C (by omega) (by omega) dX0_turnForward_15 (by decide) (fun _ => ?_) (fun h => absurd h (by omega))
      exact g_vret C hr rfl dX0_turnForward_40
    | succ d ih =>
      intro s hd
      have hsp : 2 ^ s < 2 ^ K := Nat.pow_lt_pow_right (by decide) (by omega)
      have hs8 : 2 ^ s ≤ 256 := show 2 ^ s ≤ 2 ^ 8 from Nat.pow_le_pow_right (by decide) (by omega)
      have hpos : 0 < 2 ^ s := Nat.pow_pos (by decide)
      have hB : 2 ^ (K - (s + 1)) * (2 * 2 ^ s) = 2 ^ K := by
        rw [Nat.mul_comm 2, ← Nat.pow_succ, ← Nat.pow_add]
        congr 1
        omega
      have hdl : 256 / 2 ^ s ≤ 256 := Nat.div_le_self _ _
      refine g_iload C dX0_turnForward_12 (k := ?_)
      refine g_iload_n C dX0_turnForward_14 (k := ?_)
      refine g_icN_ge (tgt := 40) C (by omega) (by omega) dX0_turnForward_15 (by decide) (fun h => absurd h (by omega)) (fun _ => ?_)
      refine g_aload_n C dX0_turnForward_18 (k := ?_)
      refine g_aload_n C dX0_turnForward_19 (k := ?_)
      refine g_iload_n C dX0_turnForward_20 (k := ?_)
      refine g_iload C dX0_turnForward_21 (k := ?_)
      refine g_iload_n C dX0_turnForward_23 (k := ?_)
      refine g_cVv (rmy := rz) (n := 4) (av := [.ref (ad q), .int (nI (2 ^ K)), .int (nI (2 ^ s)), .int (nI (256 / 2 ^ s))]) C 0 h0 (by rw [va_up_ne _ _ (fun e => hq0 e.symm)]; exact e0) rfl (post := fun ct1 => ct1 = va_up ct q (LN cJ 512 (tf p wn K v (s + 1)))) ?_ gX0_turnForward_X0_joinHalves rfl ⟨rfl, rfl⟩ (by rw [hRM]; exact ⟨Nat.le_of_ble_eq_true rfl, Nat.le_of_ble_eq_true rfl⟩) (by rw [hRM]; exact ⟨Nat.le_of_ble_eq_true rfl, Nat.le_of_ble_eq_true rfl⟩) (Nat.le_of_ble_eq_true rfl) (by decide +kernel) rfl dX0_turnForward_24 ?_
      · rw [hlM]
        have c1 := c_joinHalves l (D := D) (tys := tys) (ad := ad) (ct := va_up ct q (LN cJ 512 (tf p wn K v s))) hN hq hq0 hq1 (p := p) (h := 2 ^ s) (t := 256 / 2 ^ s) (B := 2 ^ (K - (s + 1))) (by rw [va_up_ne _ _ (fun e => hq0 e.symm)]; exact e0) (by rw [va_up_ne _ _ (fun e => hq1 e.symm)]; exact ew) (va_up_self _ _ _) ht hp hp2 (by rw [hB]; exact tf_lt hp hv s) hwn (by rw [hB]; exact hKn) hpos (Nat.div_pos hs8 hpos) (Nat.le_trans (Nat.mul_div_le _ _) (by decide))
        rw [hB, bx_uu] at c1
        exact c1
      rintro ct1 rfl
      refine g_iload_n C dX0_turnForward_27 (k := ?_)
      refine g_iconst C (nI 2) dX0_turnForward_28 (k := ?_)
      refine gN_idiv C (by omega) (by decide) (by decide) dX0_turnForward_29 ?_
      rw [Nat.div_div_eq_div_mul, ← Nat.pow_succ]
      refine g_istore_n C dX0_turnForward_30 (k := ?_)
      refine g_iload C dX0_turnForward_31 (k := ?_)
      refine g_iconst C (nI 2) dX0_turnForward_33 (k := ?_)
      refine gN_imul C dX0_turnForward_34 ?_
      rw [← Nat.pow_succ]
      refine g_istore C dX0_turnForward_35 (k := ?_)
      refine g_goto (tgt := 12) C dX0_turnForward_37 (k := ?_)
      exact g_l2 (ih (s + 1) (by omega)) ⟨Or.inr rfl, Or.inr rfl, Or.inr rfl, Or.inr rfl, Or.inr rfl, trivial⟩
  refine g_aload_n C dX0_turnForward_0 (k := ?_)
  refine g_iload_n C dX0_turnForward_1 (k := ?_)
  refine g_cSv (n := 2) (av := [.ref (ad q), .int (nI (2 ^ K))]) C (by rw [hlM]; exact c_orderByMirroredBits l hq he ht (by decide) hK hKn) gX0_turnForward_X0_orderByMirroredBits rfl ⟨rfl, rfl⟩ (by rw [hRM]; exact ⟨Nat.le_of_ble_eq_true rfl, Nat.le_of_ble_eq_true rfl⟩) (by rw [hRM]; exact ⟨Nat.le_of_ble_eq_true rfl, Nat.le_of_ble_eq_true rfl⟩) (Nat.le_of_ble_eq_true rfl) (by decide +kernel) rfl dX0_turnForward_2 ?_
  rintro ct1 rfl
  rw [ob_lN]
  refine g_sipush C (nI 256) dX0_turnForward_5 (k := ?_)
  refine g_istore_n C dX0_turnForward_8 (k := ?_)
  refine g_iconst C (nI 1) dX0_turnForward_9 (k := ?_)
  refine g_istore C dX0_turnForward_10 (k := ?_)
  exact g_l2 (loop K 0 (by omega)) ⟨Or.inr rfl, Or.inr rfl, Or.inr rfl, Or.inr rfl, Or.inr rfl, trivial⟩
