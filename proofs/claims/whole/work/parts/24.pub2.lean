abbrev rti : Room := { frames := 2, cells := 0, slots := 0, locals := 47 }
set_option maxRecDepth 100000 in
set_option maxHeartbeats 4000000 in
theorem c_times (l : Launch) {D : va_G} {tys : List (ClassId × FieldType)} {N : Nat} {ad : Nat → Nat} {ct : Nat → va_E} (hN : 20 ≤ N) {cJ cQ : ClassId} {p : Nat} {wn : Nat → Nat} {Mr Nw : Nat → Nat → Nat} (S : stX cJ cQ ad p wn Mr Nw ct) (ht : tys[0]? = some (cJ, .long)) (ht2 : tys[1]? = some (cQ, .array .long)) (hv : nvX p wn Mr Nw) (x y : Int64) :
    gMl l yX0_times wsX0_times rti D vwCl tys N ad [.ref (ad 0), .long x, .long y] ct (fun r ct1 => r = lN (fm p x * fm p y % p) ∧ ct1 = ct) := by
  refine gof_l (cc := cX0_times) (maxL := 5) (by decide) rfl (Nat.le_of_ble_eq_true rfl) ?_
  intro M sz C hlM hRM hr hsz
  have h0 : 0 < N := by omega
  have hp1 := hv.1
  have hp2 := hv.2.1
  have hx := fm_lt (p := p) (by omega) x
  have hy := fm_lt (p := p) (by omega) y
  have hmul : fm p x * fm p y < 2 ^ 62 := Nat.lt_of_lt_of_le (Nat.mul_lt_mul'' (Nat.lt_trans hx hp2) (Nat.lt_trans hy hp2)) (by decide)
  refine g_aload_n C dX0_times_0 (k := ?_)
  refine g_lload_n C dX0_times_1 (k := ?_)
  refine g_cVl (n := 1) (av := [.long x]) C 0 h0 S.1 rfl (by rw [hlM]; exact c_rest l hN S.1 x (by omega) hp2) gX0_times_X0_rest rfl ⟨rfl, rfl⟩ (by rw [hRM]; exact ⟨Nat.le_of_ble_eq_true rfl, Nat.le_of_ble_eq_true rfl⟩) (by rw [hRM]; exact ⟨Nat.le_of_ble_eq_true rfl, Nat.le_of_ble_eq_true rfl⟩) (Nat.le_of_ble_eq_true rfl) (by decide +kernel) rfl dX0_times_2 ?_
  rintro _ _ ⟨rfl, rfl⟩
  refine g_aload_n C dX0_times_5 (k := ?_)
  refine g_lload_n C dX0_times_6 (k := ?_)
  refine g_cVl (n := 1) (av := [.long y]) C 0 h0 S.1 rfl (by rw [hlM]; exact c_rest l hN S.1 y (by omega) hp2) gX0_times_X0_rest rfl ⟨rfl, rfl⟩ (by rw [hRM]; exact ⟨Nat.le_of_ble_eq_true rfl, Nat.le_of_ble_eq_true rfl⟩) (by rw [hRM]; exact ⟨Nat.le_of_ble_eq_true rfl, Nat.le_of_ble_eq_true rfl⟩) (Nat.le_of_ble_eq_true rfl) (by decide +kernel) rfl dX0_times_7 ?_
  rintro _ _ ⟨rfl, rfl⟩
  refine gN_lmul C dX0_times_10 ?_
  refine g_aload_n C dX0_times_11 (k := ?_)
  refine g_getf (Cn := RX0) (T := TX0) (n := 8) (ref := "WheelProducts") C 0 0 h0 S.1 rfl (by decide +kernel) (by decide) (by decide +kernel) (fun _ h => h) rfl dX0_times_12 ?_
  refine gN_lrem C (by omega) (by omega) (by omega) dX0_times_15 ?_
  exact g_lret C hr ⟨rfl, rfl⟩ dX0_times_16
abbrev rpo : Room := { frames := 6, cells := 1, slots := 6, locals := 82 }
set_option maxRecDepth 100000 in
set_option maxHeartbeats 4000000 in
theorem c_power {l : Launch} (hl : l.stackTraces = false) {D : va_G} {tys : List (ClassId × FieldType)} {N : Nat} {ad : Nat → Nat} {ct : Nat → va_E} (hN : 20 ≤ N) {cJ cQ : ClassId} {p : Nat} {wn : Nat → Nat} {Mr Nw : Nat → Nat → Nat} (S : stX cJ cQ ad p wn Mr Nw ct) (ht : tys[0]? = some (cJ, .long)) (ht2 : tys[1]? = some (cQ, .array .long)) (hv : nvX p wn Mr Nw) (x e : Int64) :
    gTl l yX0_power wsX0_power rpo 1 6 D vwCl tys N ad [.ref (ad 0), .long x, .long e] ct (fun r ct1 => ct1 = ct ∧ ∃ n, n < 2 ^ 63 ∧ e = lN n ∧ r = lN (fm p x ^ n % p)) (fun E ct1 => E = xIA ∧ ct1 = ct ∧ e < 0) := by
  refine gofT_l (cc := cX0_power) (maxL := 5) (by decide) rfl (Nat.le_of_ble_eq_true rfl) ?_
  intro M sz C hlM hRM hr hT hE
  have h0 : 0 < N := by omega
  have hp1 := hv.1
  have hp2 := hv.2.1
  refine g_lload_n C dX0_power_0 (k := ?_)
  refine g_lconst C (lN 0) dX0_power_1 (k := ?_)
  by_cases hneg : e < 0
  · refine g_lc_ge (tgt := 16) C dX0_power_2 dX0_power_3 (by decide) (fun h => absurd hneg (by rw [Int64.not_lt]; exact h)) (fun _ => ?_)
    exact g_throwS (E := xIA) (text := "the power is below 0") C hT (by rw [hlM]; exact hl) hE rfl (by decide +kernel) (by decide +kernel) (by decide +kernel) (by decide +kernel) (by decide +kernel) (by decide +kernel) (by decide +kernel) dX0_power_6 dX0_power_9 dX0_power_10 dX0_power_12 dX0_power_15 (by rw [hRM]; exact (Nat.le_of_ble_eq_true rfl)) (by rw [hRM]; exact (Nat.le_of_ble_eq_true rfl)) (by rw [hRM]; exact (Nat.le_of_ble_eq_true rfl)) (by rw [hRM]; exact (Nat.le_of_ble_eq_true rfl)) (Nat.le_of_ble_eq_true rfl) (Nat.le_of_ble_eq_true rfl) ⟨rfl, rfl, hneg⟩
  · obtain ⟨n, hn, rfl⟩ := pk_lOf hneg
    refine g_lcN_ge (tgt := 16) C hn (by decide) dX0_power_2 dX0_power_3 (by decide) (fun _ => ?_) (fun h => absurd h (by omega))
    refine g_aload_n C dX0_power_16 (k := ?_)
    refine g_lload_n C dX0_power_17 (k := ?_)
    refine g_cVl (n := 1) (av := [.long x]) C 0 h0 S.1 rfl (by rw [hlM]; exact c_rest l hN S.1 x (by omega) hp2) gX0_power_X0_rest rfl ⟨rfl, rfl⟩ (by rw [hRM]; exact ⟨Nat.le_of_ble_eq_true rfl, Nat.le_of_ble_eq_true rfl⟩) (by rw [hRM]; exact ⟨Nat.le_of_ble_eq_true rfl, Nat.le_of_ble_eq_true rfl⟩) (Nat.le_of_ble_eq_true rfl) (by decide +kernel) rfl dX0_power_18 ?_
    rintro _ _ ⟨rfl, rfl⟩
    refine g_lload_n C dX0_power_21 (k := ?_)
    refine g_aload_n C dX0_power_22 (k := ?_)
    refine g_getf (Cn := RX0) (T := TX0) (n := 8) (ref := "WheelProducts") C 0 0 h0 S.1 rfl (by decide +kernel) (by decide) (by decide +kernel) (fun _ h => h) rfl dX0_power_23 ?_
    refine g_cSl (n := 3) (av := [.long (lN (fm p x)), .long (lN n), .long (lN p)]) C (by rw [hlM]; exact c_powerModulo l (fm_lt (by omega) x) hn (by omega) hp2) gX0_power_X0_powerModulo rfl ⟨rfl, rfl⟩ (by rw [hRM]; exact ⟨Nat.le_of_ble_eq_true rfl, Nat.le_of_ble_eq_true rfl⟩) (by rw [hRM]; exact ⟨Nat.le_of_ble_eq_true rfl, Nat.le_of_ble_eq_true rfl⟩) (Nat.le_of_ble_eq_true rfl) (by decide +kernel) rfl dX0_power_26 ?_
    rintro _ _ ⟨rfl, rfl⟩
    exact gT_lret C hr (Nat.le_of_ble_eq_true rfl) (Nat.le_of_ble_eq_true rfl) ⟨rfl, n, hn, rfl, rfl⟩ dX0_power_29
set_option maxRecDepth 100000 in
set_option maxHeartbeats 4000000 in
theorem c_inverse {l : Launch} (hl : l.stackTraces = false) {D : va_G} {tys : List (ClassId × FieldType)} {N : Nat} {ad : Nat → Nat} {ct : Nat → va_E} (hN : 20 ≤ N) {cJ cQ : ClassId} {p : Nat} {wn : Nat → Nat} {Mr Nw : Nat → Nat → Nat} (S : stX cJ cQ ad p wn Mr Nw ct) (ht : tys[0]? = some (cJ, .long)) (ht2 : tys[1]? = some (cQ, .array .long)) (hv : nvX p wn Mr Nw) (x : Int64) :
    gTl l yX0_inverse wsX0_inverse rpo 1 6 D vwCl tys N ad [.ref (ad 0), .long x] ct (fun r ct1 => ct1 = ct ∧ fm p x ≠ 0 ∧ r = lN (fm p x ^ (p - 2) % p)) (fun E ct1 => E = xIA ∧ ct1 = ct ∧ fm p x = 0) := by
  refine gofT_l (cc := cX0_inverse) (maxL := 5) (by decide) rfl (Nat.le_of_ble_eq_true rfl) ?_
  intro M sz C hlM hRM hr hT hE
  have h0 : 0 < N := by omega
  have hp1 := hv.1
  have hp2 := hv.2.1
  have hx := fm_lt (p := p) (by omega) x
  refine g_aload_n C dX0_inverse_0 (k := ?_)
  refine g_lload_n C dX0_inverse_1 (k := ?_)
  refine g_cVl (n := 1) (av := [.long x]) C 0 h0 S.1 rfl (by rw [hlM]; exact c_rest l hN S.1 x (by omega) hp2) gX0_inverse_X0_rest rfl ⟨rfl, rfl⟩ (by rw [hRM]; exact ⟨Nat.le_of_ble_eq_true rfl, Nat.le_of_ble_eq_true rfl⟩) (by rw [hRM]; exact ⟨Nat.le_of_ble_eq_true rfl, Nat.le_of_ble_eq_true rfl⟩) (Nat.le_of_ble_eq_true rfl) (by decide +kernel) rfl dX0_inverse_2 ?_
  rintro _ _ ⟨rfl, rfl⟩
  refine g_lstore_n C dX0_inverse_5 (k := ?_)
  refine g_lload_n C dX0_inverse_6 (k := ?_)
  refine g_lconst C (lN 0) dX0_inverse_7 (k := ?_)
  by_cases hz : fm p x = 0
  · refine g_lcN_ne (tgt := 22) C (by omega) (by decide) dX0_inverse_8 dX0_inverse_9 (by decide) (fun h => absurd hz h) (fun _ => ?_)
    exact g_throwS (E := xIA) (text := "0 has no inverse") C hT (by rw [hlM]; exact hl) hE rfl (by decide +kernel) (by decide +kernel) (by decide +kernel) (by decide +kernel) (by decide +kernel) (by decide +kernel) (by decide +kernel) dX0_inverse_12 dX0_inverse_15 dX0_inverse_16 dX0_inverse_18 dX0_inverse_21 (by rw [hRM]; exact (Nat.le_of_ble_eq_true rfl)) (by rw [hRM]; exact (Nat.le_of_ble_eq_true rfl)) (by rw [hRM]; exact (Nat.le_of_ble_eq_true rfl)) (by rw [hRM]; exact (Nat.le_of_ble_eq_true rfl)) (Nat.le_of_ble_eq_true rfl) (Nat.le_of_ble_eq_true rfl) ⟨rfl, rfl, hz⟩
  · refine g_lcN_ne (tgt := 22) C (by omega) (by decide) dX0_inverse_8 dX0_inverse_9 (by decide) (fun _ => ?_) (fun h => absurd h hz)
    refine g_aload_n C dX0_inverse_22 (k := ?_)
    refine g_lload_n C dX0_inverse_23 (k := ?_)
    refine g_cVl (n := 1) (av := [.long (lN (fm p x))]) C 0 h0 S.1 rfl (by rw [hlM]; exact c_inverseOf l hN S.1 hx (by omega) hp2) gX0_inverse_X0_inverseOf rfl ⟨rfl, rfl⟩ (by rw [hRM]; exact ⟨Nat.le_of_ble_eq_true rfl, Nat.le_of_ble_eq_true rfl⟩) (by rw [hRM]; exact ⟨Nat.le_of_ble_eq_true rfl, Nat.le_of_ble_eq_true rfl⟩) (Nat.le_of_ble_eq_true rfl) (by decide +kernel) rfl dX0_inverse_24 ?_
    rintro _ _ ⟨rfl, rfl⟩
    exact gT_lret C hr (Nat.le_of_ble_eq_true rfl) (Nat.le_of_ble_eq_true rfl) ⟨rfl, hz, rfl⟩ dX0_inverse_27
/-- Horner: numbers m - 1 .. 0 -/
def hra (p : Nat) (v : Nat → Nat) (x : Nat) : Nat → Nat → Nat
  | 0, a => a
  | m + 1, a => hra p v x m ((a * x + v m) % p)
def hrn (p : Nat) (v : Nat → Nat) (x m : Nat) : Nat := hra p v x m 0
theorem hra_skip {p : Nat} {v : Nat → Nat} {x : Nat} : ∀ m, hra p v x m 0 = hra p v x (up1 v m) 0
  | 0 => rfl
  | m + 1 => by
    unfold up1
    by_cases h : v m = 0
    · rw [if_pos h, hra, h, Nat.zero_mul, Nat.add_zero, Nat.zero_mod]
      exact hra_skip m
    · rw [if_neg h]
theorem k_m1 : nI 0 - nI 1 < 0 := by decide
abbrev rat : Room := { frames := 7, cells := 1, slots := 6, locals := 104 }
set_option maxRecDepth 100000 in
set_option maxHeartbeats 4000000 in
theorem c_at {l : Launch} (hl : l.stackTraces = false) {D : va_G} {tys : List (ClassId × FieldType)} {N : Nat} {ad : Nat → Nat} {ct : Nat → va_E} (hN : 20 ≤ N) {cJ cQ : ClassId} {p : Nat} {wn : Nat → Nat} {Mr Nw : Nat → Nat → Nat} (S : stX cJ cQ ad p wn Mr Nw ct) (ht : tys[0]? = some (cJ, .long)) (ht2 : tys[1]? = some (cQ, .array .long)) (hv : nvX p wn Mr Nw) (x : Int32) (z : Int64) :
    gTl l yX0_at wsX0_at rat 1 6 D vwCl tys N ad [.ref (ad 0), .int x, .long z] ct (fun r ct1 => ct1 = ct ∧ ∃ i, i < 6 ∧ x = nI i ∧ r = lN (hrn p (Mr i) (fm p z) 512)) (fun E ct1 => E = xIO ∧ ct1 = ct ∧ ¬ ir x 6) := by
  refine gofT_l (cc := cX0_at) (maxL := 10) (by decide) rfl (Nat.le_of_ble_eq_true rfl) ?_
  intro M sz C hlM hRM hr hT hE
  have h0 : 0 < N := by omega
  have hp1 := hv.1
  have hp2 := hv.2.1
  have hx := fm_lt (p := p) (by omega) z
  refine g_iload_n C dX0_at_0 (k := ?_)
  refine gT_cSv (rmy := rck) (n := 1) (av := [.int x]) C hT hE (by rw [hlM]; exact c_checkRow hl x) gX0_at_X0_checkRow rfl ⟨rfl, rfl⟩ (by rw [hRM]; exact ⟨Nat.le_of_ble_eq_true rfl, Nat.le_of_ble_eq_true rfl⟩) (by rw [hRM]; exact ⟨Nat.le_of_ble_eq_true rfl, Nat.le_of_ble_eq_true rfl⟩) (Nat.le_of_ble_eq_true rfl) (by decide +kernel) rfl dX0_at_1 (Nat.le_of_ble_eq_true rfl) (Nat.le_of_ble_eq_true rfl) (by intro E c q; exact ⟨q.1, q.2.1, fun z => q.2.2 z⟩) ?_
  rintro ct ⟨rfl, i, hi, rfl⟩
  have hrow := S.2.2.2.1 i hi
  have hMr := fun k hk => hv.2.2.2.1 i k hi hk
  refine g_aload_n C dX0_at_4 (k := ?_)
  refine g_getf (Cn := RX0) (T := TX0) (n := 8) (ref := "WheelProducts") C 0 2 h0 S.1 rfl (by decide +kernel) (by decide) (by decide +kernel) (fun _ h => h) rfl dX0_at_5 ?_
  refine g_iload_n C dX0_at_8 (k := ?_)
  refine g_aald C 2 1 (by omega) S.2.2.1 ht2 rfl hi (by decide) (if_pos hi) dX0_at_9 ?_
  refine g_astore C dX0_at_10 (k := ?_)
  refine g_aload_n C dX0_at_12 (k := ?_)
  refine g_lload_n C dX0_at_13 (k := ?_)
  refine g_cVl (n := 1) (av := [.long z]) C 0 h0 S.1 rfl (by rw [hlM]; exact c_rest l hN S.1 z (by omega) hp2) gX0_at_X0_rest rfl ⟨rfl, rfl⟩ (by rw [hRM]; exact ⟨Nat.le_of_ble_eq_true rfl, Nat.le_of_ble_eq_true rfl⟩) (by rw [hRM]; exact ⟨Nat.le_of_ble_eq_true rfl, Nat.le_of_ble_eq_true rfl⟩) (Nat.le_of_ble_eq_true rfl) (by decide +kernel) rfl dX0_at_14 ?_
  rintro _ ct ⟨rfl, rfl⟩
  refine g_lstore C dX0_at_17 (k := ?_)
  refine g_lconst C (lN 0) dX0_at_19 (k := ?_)
  refine g_lstore C dX0_at_20 (k := ?_)
  refine g_aload C dX0_at_22 (k := ?_)
  refine g_cSi (n := 1) (av := [.ref (ad (3 + i))]) C (by rw [hlM]; exact c_usedPart l (by omega) hrow ht (by decide) (fun k hk => Nat.lt_trans (hMr k hk) (by omega))) gX0_at_X0_usedPart rfl ⟨rfl, rfl⟩ (by rw [hRM]; exact ⟨Nat.le_of_ble_eq_true rfl, Nat.le_of_ble_eq_true rfl⟩) (by rw [hRM]; exact ⟨Nat.le_of_ble_eq_true rfl, Nat.le_of_ble_eq_true rfl⟩) (Nat.le_of_ble_eq_true rfl) (by decide +kernel) rfl dX0_at_24 ?_
  rintro _ ct ⟨rfl, rfl⟩
  have hul := up1_le (Mr i) 512
  have hfin : hra p (Mr i) (fm p z) (up1 (Mr i) 512) 0 = hrn p (Mr i) (fm p z) 512 := (hra_skip 512).symm
  generalize up1 (Mr i) 512 = u at hul hfin ⊢
  have loop : ∀ (m a : Nat), m ≤ 512 → a < p → hra p (Mr i) (fm p z) m a = hrn p (Mr i) (fm p z) 512 → gW M D vwCl (ixA N ad sz) 10 1 6 (vx_MQ (gb M) (va_Ql (fun r ct1 => ct1 = ct ∧ ∃ i_1, i_1 < 6 ∧ nI i = nI i_1 ∧ r = lN (hrn p (Mr i_1) (fm p z) 512)) (gB D vwCl tys N ad (ixA N ad sz)) (ixA N ad sz)) (gXC D vwCl tys N ad (ixA N ad sz) (fun E ct1 => E = xIO ∧ ct1 = ct ∧ ¬ ir (nI i) 6)) (ga M) (gs M) 1 6 (ixA N ad sz)) N ad 31 [(0, some (.ref (ad 0))), (4, some (.ref (ad (3 + i)))), (5, some (.long (lN (fm p z)))), (7, some (.long (lN a))), (9, some (.int (nI m - nI 1)))] [] ct := by
    intro m
    induction m with
    | zero =>
      intro a _ ha hh
      refine g_iload C dX0_at_31 (k := ?_)
      refine g_if_lt (tgt := 60) C dX0_at_33 (by decide) (fun _ => ?_) (fun h => absurd k_m1 h)
      refine g_lload C dX0_at_60 (k := ?_)
      exact gT_lret C hr (Nat.le_of_ble_eq_true rfl) (Nat.le_of_ble_eq_true rfl) ⟨rfl, i, hi, rfl, by rw [← hh]; rfl⟩ dX0_at_62
    | succ m ih =>
      intro a hm ha hh
      have hvm := hMr m (by omega)
      have hmul : a * fm p z < 2 ^ 62 := Nat.lt_of_lt_of_le (Nat.mul_lt_mul'' (Nat.lt_trans ha hp2) (Nat.lt_trans hx hp2)) (by decide)
      have e1 : nI (m + 1) - nI 1 = nI m := by rw [pk_sub (by omega)]; rfl
      rw [e1]
      refine g_iload C dX0_at_31 (k := ?_)
      refine g_ifN_lt (tgt := 60) C (by omega) dX0_at_33 (by decide) (fun h => absurd h (by omega)) (fun _ => ?_)
      refine g_lload C dX0_at_36 (k := ?_)
      refine g_lload C dX0_at_38 (k := ?_)
      refine gN_lmul C dX0_at_40 ?_
      refine g_aload C dX0_at_41 (k := ?_)
      refine g_iload C dX0_at_43 (k := ?_)
      refine gN_lald C (3 + i) (by omega) hrow ht (by omega) (by decide) dX0_at_45 ?_
      refine gN_ladd C dX0_at_46 ?_
      refine g_aload_n C dX0_at_47 (k := ?_)
      refine g_getf (Cn := RX0) (T := TX0) (n := 8) (ref := "WheelProducts") C 0 0 h0 S.1 rfl (by decide +kernel) (by decide) (by decide +kernel) (fun _ h => h) rfl dX0_at_48 ?_
      refine gN_lrem C (by omega) (by omega) (by omega) dX0_at_51 ?_
      refine g_lstore C dX0_at_52 (k := ?_)
      refine g_iinc C (nI m - nI 1) dX0_at_54 (by rw [Int32.sub_eq_add_neg]; rfl) (k := ?_)
      refine g_goto (tgt := 31) C dX0_at_57 (k := ?_)
      exact g_l2 (ih ((a * fm p z + Mr i m) % p) (by omega) (Nat.mod_lt _ (by omega)) hh) ⟨Or.inr rfl, Or.inr rfl, Or.inr rfl, Or.inr rfl, Or.inr rfl, trivial⟩
  refine g_iconst C (nI 1) dX0_at_27 (k := ?_)
  refine g_isub C dX0_at_28 ?_
  refine g_istore C dX0_at_29 (k := ?_)
  exact g_l2 (loop u 0 hul (by omega) hfin) ⟨Or.inr rfl, Or.inr rfl, Or.inr rfl, Or.inr rfl, Or.inr rfl, trivial⟩
