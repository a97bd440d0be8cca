/-! ===== swap, nextMirrored, orderByMirroredBits ===== -/
def sw (f : Nat → Int64) (i j : Nat) : Nat → Int64 := fun k => if k = i then f j else if k = j then f i else f k
theorem sw_eq (f : Nat → Int64) (i j : Nat) : vp_updL (vp_updL f i (f j)) j (f i) = sw f i j := by
  funext k
  unfold sw vp_updL
  by_cases h1 : k = j
  · subst h1
    by_cases h2 : k = i
    · subst h2; simp
    · simp [h2]
  · simp [h1]

set_option maxRecDepth 100000 in
set_option maxHeartbeats 4000000 in
theorem c_swap (l : Launch) {D : va_G} {cl : List vw_C} {tys : List (ClassId × FieldType)} {N : Nat} {ad : Nat → Nat} {ct : Nat → va_E} {q : Nat} (hq : q < N) {cJ : ClassId} {n : Nat} {f : Nat → Int64} (he : ct q = LA cJ n f) (ht : tys[0]? = some (cJ, .long)) (hn : n < 2 ^ 31) {i j : Nat} (hi : i < n) (hj : j < n) :
    gMv l yX0_swap wsX0_swap rz D cl tys N ad [.ref (ad q), .int (nI i), .int (nI j)] ct (fun ct1 => ct1 = va_up ct q (LA cJ n (sw f i j))) := by
  refine gof_v (cc := cX0_swap) (maxL := 5) (by decide) rfl (Nat.le_of_ble_eq_true rfl) ?_
  intro M sz C hlM hRM hr hsz
  refine g_aload_n C dX0_swap_0 (k := ?_)
  refine g_iload_n C dX0_swap_1 (k := ?_)
  refine g_lald C q 0 hq he ht hi hn dX0_swap_2 ?_
  refine g_lstore_n C dX0_swap_3 (k := ?_)
  refine g_aload_n C dX0_swap_4 (k := ?_)
  refine g_iload_n C dX0_swap_5 (k := ?_)
  refine g_aload_n C dX0_swap_6 (k := ?_)
  refine g_iload_n C dX0_swap_7 (k := ?_)
  refine g_lald C q 0 hq he ht hj hn dX0_swap_8 ?_
  refine g_last C q 0 hq he ht hi hn dX0_swap_9 ?_
  refine g_aload_n C dX0_swap_10 (k := ?_)
  refine g_iload_n C dX0_swap_11 (k := ?_)
  refine g_lload_n C dX0_swap_12 (k := ?_)
  refine g_last C q 0 hq (va_up_self _ _ _) ht hj hn dX0_swap_13 ?_
  refine g_vret C hr ?_ dX0_swap_14
  rw [bx_uu, sw_eq]
theorem and_top {k x : Nat} (h : x < 2 ^ (k + 1)) : x &&& 2 ^ k = if 2 ^ k ≤ x then 2 ^ k else 0 := by
  apply Nat.eq_of_testBit_eq
  intro i
  rw [Nat.testBit_and, Nat.testBit_two_pow]
  by_cases e : k = i
  · subst e
    by_cases h1 : 2 ^ k ≤ x
    · rw [if_pos h1, Nat.testBit_of_two_pow_le_and_two_pow_add_one_gt h1 h, Nat.testBit_two_pow_self]; simp
    · rw [if_neg h1, Nat.testBit_lt_two_pow (by omega)]; simp
  · rw [show decide (k = i) = false by simp [e], Bool.and_false]
    split
    · rw [Nat.testBit_two_pow_of_ne e]
    · simp
theorem g_l2 {M : gM} {D : va_G} {cl : List vw_C} {A : Nat → Prop} {nL cells slots : Nat} {Q : State → Prop} {N : Nat} {ad : Nat → Nat} {pc : Nat} {lv lv' : gLv} {st : List Value} {ct : Nat → va_E} (k : gW M D cl A nL cells slots Q N ad pc lv' st ct) (hp : lvp lv lv') : gW M D cl A nL cells slots Q N ad pc lv st ct := g_lv hp k
set_option maxRecDepth 100000 in
set_option maxHeartbeats 4000000 in
theorem c_nextMirrored (l : Launch) {D : va_G} {cl : List vw_C} {tys : List (ClassId × FieldType)} {N : Nat} {ad : Nat → Nat} {ct : Nat → va_E} {K x : Nat} (hK : K ≤ 9) (hx : x < 2 ^ K) :
    gMi l yX0_nextMirrored wsX0_nextMirrored rz D cl tys N ad [.int (nI x), .int (nI (2 ^ K))] ct (fun r ct1 => r = nI (nm K x) ∧ ct1 = ct) := by
  refine gof_i (cc := cX0_nextMirrored) (maxL := 4) (by decide) rfl (Nat.le_of_ble_eq_true rfl) ?_
  intro M sz C hlM hRM hr hsz
  have hp9 : ∀ k, k ≤ 9 → 2 ^ k < 2 ^ 31 := fun k hk => Nat.pow_lt_pow_right (by decide) (by omega)
  have loop : ∀ (k y : Nat), k ≤ 9 → y < 2 ^ k → nm k y = nm K x → gW M D cl (ixA N ad sz) 4 0 0 (MQ (gb M) (va_Qi (fun r ct1 => r = nI (nm K x) ∧ ct1 = ct) (gB D cl tys N ad (ixA N ad sz)) (ixA N ad sz)) (ga M) (gs M) 0 0 (ixA N ad sz)) N ad 6 [(3, some (.int (nI (2 ^ k / 2)))), (2, some (.int (nI y)))] [] ct := by
    intro k
    induction k with
    | zero =>
      intro y _ hy hv
      refine g_iload_n C dX0_nextMirrored_6 (k := ?_)
      refine g_ifN_le (tgt := 27) C (by decide) dX0_nextMirrored_7 (by decide) (fun _ => ?_) (fun h => absurd h (by decide))
      refine g_iload_n C dX0_nextMirrored_27 (k := ?_)
      refine g_iload_n C dX0_nextMirrored_28 (k := ?_)
      refine gN_iadd C dX0_nextMirrored_29 ?_
      refine g_iret C hr ⟨?_, rfl⟩ dX0_nextMirrored_30
      rw [← hv]
      show nI (y + 0) = nI y
      rw [Nat.add_zero]
    | succ k ih =>
      intro y hk hy hv
      have e2 : 2 ^ (k + 1) / 2 = 2 ^ k := by rw [Nat.pow_succ, Nat.mul_div_cancel _ (by decide)]
      have hpk := hp9 k (by omega)
      have hpk1 := hp9 (k + 1) hk
      have hpos : 0 < 2 ^ k := Nat.pow_pos (by decide)
      rw [e2]
      refine g_iload_n C dX0_nextMirrored_6 (k := ?_)
      refine g_ifN_le (tgt := 27) C hpk dX0_nextMirrored_7 (by decide) (fun h => absurd h (by omega)) (fun _ => ?_)
      refine g_iload_n C dX0_nextMirrored_10 (k := ?_)
      refine g_iload_n C dX0_nextMirrored_11 (k := ?_)
      refine gN_iand C dX0_nextMirrored_12 ?_
      rw [and_top hy]
      by_cases hle : 2 ^ k ≤ y
      · rw [if_pos hle]
        refine g_ifN_eq (tgt := 27) C hpk dX0_nextMirrored_13 (by decide) (fun h => absurd h (by omega)) (fun _ => ?_)
        refine g_iload_n C dX0_nextMirrored_16 (k := ?_)
        refine g_iload_n C dX0_nextMirrored_17 (k := ?_)
        refine gN_isub C hle dX0_nextMirrored_18 ?_
        refine g_istore_n C dX0_nextMirrored_19 (k := ?_)
        refine g_iload_n C dX0_nextMirrored_20 (k := ?_)
        refine g_iconst C (nI 2) dX0_nextMirrored_21 (k := ?_)
        refine gN_idiv C hpk (by decide) (by decide) dX0_nextMirrored_22 ?_
        refine g_istore_n C dX0_nextMirrored_23 (k := ?_)
        refine g_goto (tgt := 6) C dX0_nextMirrored_24 (k := ?_)
        rw [Nat.pow_succ] at hy
        refine g_l2 (ih (y - 2 ^ k) (by omega) (by omega) ?_) ⟨Or.inr rfl, Or.inr rfl, trivial⟩
        rw [← hv, nm, if_pos hle]
      · rw [if_neg hle]
        refine g_ifN_eq (tgt := 27) C (by decide) dX0_nextMirrored_13 (by decide) (fun _ => ?_) (fun h => absurd rfl h)
        refine g_iload_n C dX0_nextMirrored_27 (k := ?_)
        refine g_iload_n C dX0_nextMirrored_28 (k := ?_)
        refine gN_iadd C dX0_nextMirrored_29 ?_
        refine g_iret C hr ⟨?_, rfl⟩ dX0_nextMirrored_30
        rw [← hv, nm, if_neg hle]
  refine g_iload_n C dX0_nextMirrored_0 (k := ?_)
  refine g_istore_n C dX0_nextMirrored_1 (k := ?_)
  refine g_iload_n C dX0_nextMirrored_2 (k := ?_)
  refine g_iconst C (nI 2) dX0_nextMirrored_3 (k := ?_)
  refine gN_idiv C (hp9 K hK) (by decide) (by decide) dX0_nextMirrored_4 ?_
  refine g_istore_n C dX0_nextMirrored_5 (k := ?_)
  exact g_l2 (loop K x hK hx rfl) ⟨Or.inr rfl, Or.inr rfl, trivial⟩
abbrev ro1 : Room := { frames := 1, cells := 0, slots := 0, locals := 24 }
set_option maxRecDepth 100000 in
set_option maxHeartbeats 4000000 in
theorem c_orderByMirroredBits (l : Launch) {D : va_G} {cl : List vw_C} {tys : List (ClassId × FieldType)} {N : Nat} {ad : Nat → Nat} {ct : Nat → va_E} {q : Nat} (hq : q < N) {cJ : ClassId} {n K : Nat} {f : Nat → Int64} (he : ct q = LA cJ n f) (ht : tys[0]? = some (cJ, .long)) (hn : n < 2 ^ 31) (hK : K ≤ 9) (hKn : 2 ^ K ≤ n) :
    gMv l yX0_orderByMirroredBits wsX0_orderByMirroredBits ro1 D cl tys N ad [.ref (ad q), .int (nI (2 ^ K))] ct (fun ct1 => ct1 = va_up ct q (LA cJ n (ob K f (2 ^ K)))) := by
  refine gof_v (cc := cX0_orderByMirroredBits) (maxL := 4) (by decide) rfl (Nat.le_of_ble_eq_true rfl) ?_
  intro M sz C hlM hRM hr hsz
  have hKp : 2 ^ K < 2 ^ 31 := Nat.pow_lt_pow_right (by decide) (by omega)
  have hpos : 0 < 2 ^ K := Nat.pow_pos (by decide)
  have loop : ∀ (d k : Nat), 1 ≤ k → k ≤ 2 ^ K → 2 ^ K = k + d → gW M D cl (ixA N ad sz) 4 0 0 (MQ (gb M) (va_Qv (fun ct1 => ct1 = va_up ct q (LA cJ n (ob K f (2 ^ K)))) (gB D cl tys N ad (ixA N ad sz)) (ixA N ad sz)) (ga M) (gs M) 0 0 (ixA N ad sz)) N ad 4 [(0, some (.ref (ad q))), (1, some (.int (nI (2 ^ K)))), (2, some (.int (nI (rv K (k - 1))))), (3, some (.int (nI k)))] [] (va_up ct q (LA cJ n (ob K f k))) := by
    intro d
    induction d with
    | zero =>
      intro k h1 h2 h3
      refine g_iload_n C dX0_orderByMirroredBits_4 (k := ?_)
      refine g_iload_n C dX0_orderByMirroredBits_5 (k := ?_)
      refine g_icN_ge (tgt := 32) C (by omega) hKp dX0_orderByMirroredBits_6 (by decide) (fun _ => ?_) (fun h => absurd h (by omega))
      refine g_vret C hr ?_ dX0_orderByMirroredBits_32
      rw [show k = 2 ^ K by omega]
    | succ d ih =>
      intro k h1 h2 h3
      refine g_iload_n C dX0_orderByMirroredBits_4 (k := ?_)
      refine g_iload_n C dX0_orderByMirroredBits_5 (k := ?_)
      refine g_icN_ge (tgt := 32) C (by omega) hKp dX0_orderByMirroredBits_6 (by decide) (fun h => absurd h (by omega)) (fun _ => ?_)
      refine g_iload_n C dX0_orderByMirroredBits_9 (k := ?_)
      refine g_iload_n C dX0_orderByMirroredBits_10 (k := ?_)
      refine g_cSi (n := 2) (av := [.int (nI (rv K (k - 1))), .int (nI (2 ^ K))]) C (by rw [hlM]; exact c_nextMirrored l hK (rv_lt K _)) gX0_orderByMirroredBits_X0_nextMirrored rfl ⟨rfl, rfl⟩ (by rw [hRM]; exact ⟨Nat.le_of_ble_eq_true rfl, Nat.le_of_ble_eq_true rfl⟩) (by rw [hRM]; exact ⟨Nat.le_of_ble_eq_true rfl, Nat.le_of_ble_eq_true rfl⟩) (Nat.le_of_ble_eq_true rfl) (by decide +kernel) rfl dX0_orderByMirroredBits_11 ?_
      rintro v ct1 ⟨rfl, rfl⟩
      rw [nm_rv K (k - 1) (by omega), show k - 1 + 1 = k by omega]
      have hrl := rv_lt K k
      refine g_istore_n C dX0_orderByMirroredBits_14 (k := ?_)
      refine g_iload_n C dX0_orderByMirroredBits_15 (k := ?_)
      refine g_iload_n C dX0_orderByMirroredBits_16 (k := ?_)
      by_cases hlt : k < rv K k
      · refine g_icN_ge (tgt := 26) C (by omega) (by omega) dX0_orderByMirroredBits_17 (by decide) (fun h => absurd h (by omega)) (fun _ => ?_)
        refine g_aload_n C dX0_orderByMirroredBits_20 (k := ?_)
        refine g_iload_n C dX0_orderByMirroredBits_21 (k := ?_)
        refine g_iload_n C dX0_orderByMirroredBits_22 (k := ?_)
        refine g_cSv (n := 3) (av := [.ref (ad q), .int (nI k), .int (nI (rv K k))]) C (by rw [hlM]; exact c_swap l hq (va_up_self _ _ _) ht hn (by omega) (by omega)) gX0_orderByMirroredBits_X0_swap rfl ⟨rfl, rfl⟩ (by rw [hRM]; exact ⟨Nat.le_of_ble_eq_true rfl, Nat.le_of_ble_eq_true rfl⟩) (by rw [hRM]; exact ⟨Nat.le_of_ble_eq_true rfl, Nat.le_of_ble_eq_true rfl⟩) (Nat.le_of_ble_eq_true rfl) (by decide +kernel) rfl dX0_orderByMirroredBits_23 ?_
        rintro ct1 rfl
        rw [bx_uu, show sw (ob K f k) k (rv K k) = ob K f (k + 1) from funext fun i => ob_swap K f (by omega) hlt i]
        refine gN_inc C dX0_orderByMirroredBits_26 (k := ?_)
        refine g_goto (tgt := 4) C dX0_orderByMirroredBits_29 (k := ?_)
        exact g_l2 (ih (k + 1) (by omega) (by omega) (by omega)) ⟨Or.inr rfl, Or.inr rfl, Or.inr rfl, Or.inr rfl, trivial⟩
      · refine g_icN_ge (tgt := 26) C (by omega) (by omega) dX0_orderByMirroredBits_17 (by decide) (fun _ => ?_) (fun h => absurd h (by omega))
        rw [← ob_keep K f (k := k) (by omega) (by omega)]
        refine gN_inc C dX0_orderByMirroredBits_26 (k := ?_)
        refine g_goto (tgt := 4) C dX0_orderByMirroredBits_29 (k := ?_)
        exact g_l2 (ih (k + 1) (by omega) (by omega) (by omega)) ⟨Or.inr rfl, Or.inr rfl, Or.inr rfl, Or.inr rfl, trivial⟩
  refine g_iconst C (nI 0) dX0_orderByMirroredBits_0 (k := ?_)
  refine g_istore_n C dX0_orderByMirroredBits_1 (k := ?_)
  refine g_iconst C (nI 1) dX0_orderByMirroredBits_2 (k := ?_)
  refine g_istore_n C dX0_orderByMirroredBits_3 (k := ?_)
  refine g_ct (ct' := va_up ct q (LA cJ n (ob K f 1))) ?_ ?_
  · rw [ob_one, ← he]
    funext k
    by_cases hk : k = q
    · subst hk; rw [va_up_self]
    · rw [va_up_ne _ _ hk]
  · refine g_l2 (loop (2 ^ K - 1) 1 (by omega) (by omega) (by omega)) ⟨Or.inr rfl, Or.inr rfl, Or.inr ?_, Or.inr rfl, trivial⟩
    show some (Value.int (nI 0)) = some (Value.int (nI (rv K 0)))
    rw [rv_zero]
