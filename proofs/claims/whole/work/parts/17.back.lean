/-! ===== turnBackward ===== -/
/-- the first n numbers times sh -/
def scl (p sh n : Nat) (v : Nat → Nat) : Nat → Nat := fun k => if k < n then v k * sh % p else v k
/-- numbers 1 .. n - 1 in opposite order -/
def rvs (n : Nat) (v : Nat → Nat) : Nat → Nat := fun k => if 1 ≤ k ∧ k < n then v (n - k) else v k
/-- .. so far: those below j and above n - j -/
def rvj (n j : Nat) (v : Nat → Nat) : Nat → Nat := fun k => if (1 ≤ k ∧ k < j) ∨ (n - j < k ∧ k < n) then v (n - k) else v k
theorem rvj_1 {n : Nat} (hn : 1 ≤ n) (v : Nat → Nat) : rvj n 1 v = v := by
  funext k
  unfold rvj
  rw [if_neg (by omega)]
theorem rvj_end {n j : Nat} (h1 : 1 ≤ j) (hj : j ≤ n) (h : n - j ≤ j) (v : Nat → Nat) : rvj n j v = rvs n v := by
  funext k
  unfold rvj rvs
  by_cases hk : 1 ≤ k ∧ k < n
  · rw [if_pos hk]
    by_cases h2 : (1 ≤ k ∧ k < j) ∨ (n - j < k ∧ k < n)
    · rw [if_pos h2]
    · rw [if_neg h2]
      congr 1
      omega
  · rw [if_neg hk, if_neg (by omega)]
theorem rvj_sw {n j : Nat} (h1 : 1 ≤ j) (h : j < n - j) (v : Nat → Nat) : swN (rvj n j v) j (n - j) = rvj n (j + 1) v := by
  funext k
  show (if k = j then rvj n j v (n - j) else if k = n - j then rvj n j v j else rvj n j v k) = _
  by_cases e1 : k = j
  · subst e1
    rw [if_pos rfl]
    unfold rvj
    rw [if_neg (by omega), if_pos (by omega)]
  · rw [if_neg e1]
    by_cases e2 : k = n - j
    · subst e2
      rw [if_pos rfl]
      unfold rvj
      rw [if_neg (by omega), if_pos (by omega)]
      congr 1
      omega
    · rw [if_neg e2]
      unfold rvj
      by_cases h2 : (1 ≤ k ∧ k < j) ∨ (n - j < k ∧ k < n)
      · rw [if_pos h2, if_pos (by omega)]
      · rw [if_neg h2, if_neg (by omega)]
/-- what a row is, turned back -/
def tb (p : Nat) (wn : Nat → Nat) (K : Nat) (v : Nat → Nat) : Nat → Nat := rvs (2 ^ K) (scl p ((2 ^ K) ^ (p - 2) % p) (2 ^ K) (tf p wn K v K))
theorem tb_lt {p K : Nat} {wn v : Nat → Nat} (hp : 0 < p) {k : Nat} (hk : k < 2 ^ K) : tb p wn K v k < p := by
  unfold tb rvs
  split
  · unfold scl
    rw [if_pos (by omega)]
    exact Nat.mod_lt _ hp
  · unfold scl
    rw [if_pos hk]
    exact Nat.mod_lt _ hp
abbrev rt3 : Room := { frames := 3, cells := 0, slots := 0, locals := 74 }

set_option maxRecDepth 100000 in
set_option maxHeartbeats 4000000 in
theorem c_turnBackward (l : Launch) {D : va_G} {tys : List (ClassId × FieldType)} {N : Nat} {ad : Nat → Nat} {ct : Nat → va_E} (hN : 20 ≤ N) {q : Nat} (hq : q < N) (hq0 : q ≠ 0) (hq1 : q ≠ 1) {cJ : ClassId} {p K : Nat} {wn v : Nat → Nat} (e0 : ct 0 = obX p ad) (ew : ct 1 = LN cJ 512 wn) (he : ct q = LN cJ 512 v) (ht : tys[0]? = some (cJ, .long)) (hp : 512 < p) (hp2 : p < 2 ^ 31) (hK : K ≤ 9) (hv : ∀ k, k < 2 ^ K → v k < p) (hwn : ∀ k, k < 512 → wn k < p) :
    gMv l yX0_turnBackward wsX0_turnBackward rt3 D vwCl tys N ad [.ref (ad 0), .ref (ad q), .int (nI (2 ^ K))] ct (fun ct1 => ct1 = va_up ct q (LN cJ 512 (tb p wn K v))) := by
  refine gof_v (cc := cX0_turnBackward) (maxL := 7) (by decide) rfl (Nat.le_of_ble_eq_true rfl) ?_
  intro M sz C hlM hRM hr hsz
  have h0 : 0 < N := by omega
  have hKn : 2 ^ K ≤ 512 := show 2 ^ K ≤ 2 ^ 9 from Nat.pow_le_pow_right (by decide) hK
  have hpos : 0 < 2 ^ K := Nat.pow_pos (by decide)
  have hq0' : ∀ z, (va_up ct q z) 0 = obX p ad := fun z => by rw [va_up_ne _ _ (fun e => hq0 e.symm)]; exact e0
  have loop2 : ∀ (d j : Nat), 1 ≤ j → j ≤ 2 ^ K → 2 ^ K - j ≤ j + d → gW M D vwCl (ixA N ad sz) 7 0 0 (MQ (gb M) (va_Qv (fun ct1 => ct1 = va_up ct q (LN cJ 512 (tb p wn K v))) (gB D vwCl tys N ad (ixA N ad sz)) (ixA N ad sz)) (ga M) (gs M) 0 0 (ixA N ad sz)) N ad 51 [(0, some (.ref (ad 0))), (1, some (.ref (ad q))), (2, some (.int (nI (2 ^ K)))), (5, some (.int (nI (2 ^ K - j)))), (6, some (.int (nI j)))] [] (va_up ct q (LN cJ 512 (rvj (2 ^ K) j (scl p ((2 ^ K) ^ (p - 2) % p) (2 ^ K) (tf p wn K v K))))) := by
    intro d
    induction d with
    | zero =>
      intro j h1 h2 h3
      refine g_iload C dX0_turnBackward_51 (k := ?_)
      refine g_iload C dX0_turnBackward_53 (k := ?_)
      refine g_icN_ge (tgt := 75) C (by omega) (by omega) dX0_turnBackward_55 (by decide) (fun _ => ?_) (fun h => absurd h (by omega))
      refine g_vret C hr ?_ dX0_turnBackward_75
      rw [rvj_end h1 h2 (by omega)]; rfl
    | succ d ih =>
      intro j h1 h2 h3
      refine g_iload C dX0_turnBackward_51 (k := ?_)
      refine g_iload C dX0_turnBackward_53 (k := ?_)
      by_cases hlt : j < 2 ^ K - j
      · refine g_icN_ge (tgt := 75) C (by omega) (by omega) dX0_turnBackward_55 (by decide) (fun h => absurd h (by omega)) (fun _ => ?_)
        refine g_aload_n C dX0_turnBackward_58 (k := ?_)
        refine g_iload C dX0_turnBackward_59 (k := ?_)
        refine g_iload C dX0_turnBackward_61 (k := ?_)
        refine g_cSv (n := 3) (av := [.ref (ad q), .int (nI j), .int (nI (2 ^ K - j))]) C (by rw [hlM]; exact c_swap l hq (va_up_self _ _ _) ht (by decide) (by omega) (by omega)) gX0_turnBackward_X0_swap rfl ⟨rfl, rfl⟩ (by rw [hRM]; exact ⟨Nat.le_of_ble_eq_true rfl, Nat.le_of_ble_eq_true rfl⟩) (by rw [hRM]; exact ⟨Nat.le_of_ble_eq_true rfl, Nat.le_of_ble_eq_true rfl⟩) (Nat.le_of_ble_eq_true rfl) (by decide +kernel) rfl dX0_turnBackward_63 ?_
        rintro ct1 rfl
        rw [bx_uu, sw_lN, rvj_sw h1 hlt]
        refine gN_dec (a := 2 ^ K - j - 1) C dX0_turnBackward_66 (h := by rw [show 2 ^ K - j - 1 + 1 = 2 ^ K - j by omega]; rfl) (k := ?_)
        refine gN_inc C dX0_turnBackward_69 (k := ?_)
        refine g_goto (tgt := 51) C dX0_turnBackward_72 (k := ?_)
        exact g_l2 (ih (j + 1) (by omega) (by omega) (by omega)) ⟨Or.inr rfl, Or.inr rfl, Or.inr rfl, Or.inr rfl, Or.inr rfl, trivial⟩
      · refine g_icN_ge (tgt := 75) C (by omega) (by omega) dX0_turnBackward_55 (by decide) (fun _ => ?_) (fun h => absurd h (by omega))
        refine g_vret C hr ?_ dX0_turnBackward_75
        rw [rvj_end h1 h2 (by omega)]; rfl
  refine g_aload_n C dX0_turnBackward_0 (k := ?_)
  refine g_aload_n C dX0_turnBackward_1 (k := ?_)
  refine g_iload_n C dX0_turnBackward_2 (k := ?_)
  refine g_cVv (n := 2) (av := [.ref (ad q), .int (nI (2 ^ K))]) C 0 h0 e0 rfl (by rw [hlM]; exact c_turnForward l hN hq hq0 hq1 e0 ew he ht (by omega) hp2 hK hv hwn) gX0_turnBackward_X0_turnForward rfl ⟨rfl, rfl⟩ (by rw [hRM]; exact ⟨Nat.le_of_ble_eq_true rfl, Nat.le_of_ble_eq_true rfl⟩) (by rw [hRM]; exact ⟨Nat.le_of_ble_eq_true rfl, Nat.le_of_ble_eq_true rfl⟩) (Nat.le_of_ble_eq_true rfl) (by decide +kernel) rfl dX0_turnBackward_3 ?_
  rintro ct1 rfl
  refine g_aload_n C dX0_turnBackward_6 (k := ?_)
  refine g_iload_n C dX0_turnBackward_7 (k := ?_)
  refine gN_i2l C (by omega) dX0_turnBackward_8 ?_
  refine g_cVl (n := 1) (av := [.long (lN (2 ^ K))]) C 0 h0 (hq0' _) rfl (by rw [hlM]; exact c_inverseOf l hN (hq0' _) (by omega) (by omega) hp2) gX0_turnBackward_X0_inverseOf rfl ⟨rfl, rfl⟩ (by rw [hRM]; exact ⟨Nat.le_of_ble_eq_true rfl, Nat.le_of_ble_eq_true rfl⟩) (by rw [hRM]; exact ⟨Nat.le_of_ble_eq_true rfl, Nat.le_of_ble_eq_true rfl⟩) (Nat.le_of_ble_eq_true rfl) (by decide +kernel) rfl dX0_turnBackward_9 ?_
  rintro _ ct1 ⟨rfl, rfl⟩
  have htl := tf_lt (p := p) (wn := wn) (v := v) (K := K) (by omega) hv K
  generalize hsh : (2 ^ K) ^ (p - 2) % p = sh at loop2 ⊢
  have hshl : sh < p := by rw [← hsh]; exact Nat.mod_lt _ (by omega)
  generalize hT : tf p wn K v K = T at htl loop2 ⊢
  have loop1 : ∀ (d i : Nat), 2 ^ K = i + d → gW M D vwCl (ixA N ad sz) 7 0 0 (MQ (gb M) (va_Qv (fun ct1 => ct1 = va_up ct q (LN cJ 512 (tb p wn K v))) (gB D vwCl tys N ad (ixA N ad sz)) (ixA N ad sz)) (ga M) (gs M) 0 0 (ixA N ad sz)) N ad 16 [(0, some (.ref (ad 0))), (1, some (.ref (ad q))), (2, some (.int (nI (2 ^ K)))), (3, some (.long (lN sh))), (5, some (.int (nI i)))] [] (va_up ct q (LN cJ 512 (scl p sh i T))) := by
    intro d
    induction d with
    | zero =>
      intro i hd
      have hi : i = 2 ^ K := by omega
      refine g_iload C dX0_turnBackward_16 (k := ?_)
      refine g_iload_n C dX0_turnBackward_18 (k := ?_)
      refine g_icN_ge (tgt := 43) C (by omega) (by omega) dX0_turnBackward_19 (by decide) (fun _ => ?_) (fun h => absurd h (by omega))
      refine g_iload_n C dX0_turnBackward_43 (k := ?_)
      refine g_iconst C (nI 1) dX0_turnBackward_44 (k := ?_)
      refine gN_isub C (by omega) dX0_turnBackward_45 ?_
      refine g_istore C dX0_turnBackward_46 (k := ?_)
      refine g_iconst C (nI 1) dX0_turnBackward_48 (k := ?_)
      refine g_istore C dX0_turnBackward_49 (k := ?_)
      have h9 := loop2 (2 ^ K) 1 (by omega) (by omega) (by omega)
      rw [rvj_1 (by omega), ← hi] at h9
      rw [← hi]
      exact g_l2 h9 ⟨Or.inr rfl, Or.inr rfl, Or.inr rfl, Or.inr rfl, Or.inr rfl, trivial⟩
    | succ d ih =>
      intro i hd
      have hTi := htl i (by omega)
      have hmul : T i * sh < 2 ^ 62 := Nat.lt_of_lt_of_le (Nat.mul_lt_mul'' (Nat.lt_trans hTi hp2) (Nat.lt_trans hshl hp2)) (by decide)
      have hsi : scl p sh i T i = T i := by unfold scl; rw [if_neg (by omega)]
      refine g_iload C dX0_turnBackward_16 (k := ?_)
      refine g_iload_n C dX0_turnBackward_18 (k := ?_)
      refine g_icN_ge (tgt := 43) C (by omega) (by omega) dX0_turnBackward_19 (by decide) (fun h => absurd h (by omega)) (fun _ => ?_)
      refine g_aload_n C dX0_turnBackward_22 (k := ?_)
      refine g_iload C dX0_turnBackward_23 (k := ?_)
      refine g_aload_n C dX0_turnBackward_25 (k := ?_)
      refine g_iload C dX0_turnBackward_26 (k := ?_)
      refine gN_lald C q hq (va_up_self _ _ _) ht (by omega) (by decide) dX0_turnBackward_28 ?_
      rw [hsi]
      refine g_lload_n C dX0_turnBackward_29 (k := ?_)
      refine gN_lmul C dX0_turnBackward_30 ?_
      refine g_aload_n C dX0_turnBackward_31 (k := ?_)
      refine g_getf (Cn := RX0) (T := TX0) (n := 8) (ref := "WheelProducts") C 0 0 h0 (hq0' _) rfl (by decide +kernel) (by decide) (by decide +kernel) (fun _ h => h) rfl dX0_turnBackward_32 ?_
      refine gN_lrem C (by omega) (by omega) (by omega) dX0_turnBackward_35 ?_
      refine gN_last C q hq (va_up_self _ _ _) ht (by omega) (by decide) dX0_turnBackward_36 ?_
      refine gN_inc C dX0_turnBackward_37 (k := ?_)
      refine g_goto (tgt := 16) C dX0_turnBackward_40 (k := ?_)
      have e : nu (scl p sh i T) i (T i * sh % p) = scl p sh (i + 1) T := by
        funext k
        unfold nu scl
        by_cases h1 : k = i
        · subst h1; rw [if_pos rfl, if_pos (by omega)]
        · rw [if_neg h1]
          by_cases h2 : k < i
          · rw [if_pos h2, if_pos (by omega)]
          · rw [if_neg h2, if_neg (by omega)]
      rw [bx_uu, e]
      exact g_l2 (ih (i + 1) (by omega)) ⟨Or.inr rfl, Or.inr rfl, Or.inr rfl, Or.inr rfl, Or.inr rfl, trivial⟩
  refine g_lstore_n C dX0_turnBackward_12 (k := ?_)
  refine g_iconst C (nI 0) dX0_turnBackward_13 (k := ?_)
  refine g_istore C dX0_turnBackward_14 (k := ?_)
  refine g_ct (ct' := va_up ct q (LN cJ 512 (scl p sh 0 T))) ?_ ?_
  · have : scl p sh 0 T = T := funext fun k => if_neg (by omega)
    rw [this]
  · exact g_l2 (loop1 (2 ^ K) 0 (by omega)) ⟨Or.inr rfl, Or.inr rfl, Or.inr rfl, Or.inr rfl, Or.inr rfl, trivial⟩
