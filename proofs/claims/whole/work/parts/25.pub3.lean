/-- 1, 2, 4, .. 512 -/
abbrev pw2 (x : Int32) : Prop := ∃ K, K < 10 ∧ x = nI (2 ^ K)
theorem pw2_tab : ∀ j, j < 513 → ((1 ≤ j ∧ j &&& (j - 1) = 0) ↔ ∃ K, K < 10 ∧ j = 2 ^ K) := by decide +kernel
theorem pw2_nI {j : Nat} (hj : j < 2 ^ 31) : pw2 (nI j) ↔ ∃ K, K < 10 ∧ j = 2 ^ K := by
  constructor
  · rintro ⟨K, hK, h⟩
    have h2 : 2 ^ K < 2 ^ 31 := Nat.pow_lt_pow_right (by decide) (by omega)
    exact ⟨K, hK, (nI_eq hj h2).mp h⟩
  · rintro ⟨K, hK, rfl⟩
    exact ⟨K, hK, rfl⟩
theorem pw2_hi {x : Int32} (h : pw2 x) : ∃ j, 1 ≤ j ∧ j < 513 ∧ x = nI j := by
  obtain ⟨K, hK, rfl⟩ := h
  have h2 : 2 ^ K ≤ 2 ^ 9 := Nat.pow_le_pow_right (by decide) (by omega)
  have h3 : 0 < 2 ^ K := Nat.pow_pos (by decide)
  exact ⟨2 ^ K, by omega, by omega, rfl⟩
set_option maxRecDepth 100000 in
set_option maxHeartbeats 4000000 in
theorem c_checkTurn {l : Launch} (hl : l.stackTraces = false) {D : va_G} {tys : List (ClassId × FieldType)} {N : Nat} {ad : Nat → Nat} {ct : Nat → va_E} {cl : List vw_C} (x : Int32) :
    gTv l yX0_checkTurn wsX0_checkTurn rck 1 6 D cl tys N ad [.int x] ct (fun ct1 => ct1 = ct ∧ pw2 x) (fun E ct1 => E = xIA ∧ ct1 = ct ∧ ¬ pw2 x) := by
  refine gofT_v (cc := cX0_checkTurn) (maxL := 1) (by decide) rfl (Nat.le_of_ble_eq_true rfl) ?_
  intro M sz C hlM hRM hr hT hE
  refine g_iload_n C dX0_checkTurn_0 (k := ?_)
  refine g_iconst C (nI 1) dX0_checkTurn_1 (k := ?_)
  by_cases hin : ir x 513
  · obtain ⟨j, hj, rfl⟩ := hin
    by_cases h1 : 1 ≤ j
    · refine g_icN_lt (tgt := 20) C (by omega) (by decide) dX0_checkTurn_2 (by decide) (fun h => absurd h (by omega)) (fun _ => ?_)
      refine g_iload_n C dX0_checkTurn_5 (k := ?_)
      refine g_sipush C (nI 512) dX0_checkTurn_6 (k := ?_)
      refine g_icN_gt (tgt := 20) C (by omega) (by decide) dX0_checkTurn_9 (by decide) (fun h => absurd h (by omega)) (fun _ => ?_)
      refine g_iload_n C dX0_checkTurn_12 (k := ?_)
      refine g_iload_n C dX0_checkTurn_13 (k := ?_)
      refine g_iconst C (nI 1) dX0_checkTurn_14 (k := ?_)
      refine gN_isub C h1 dX0_checkTurn_15 ?_
      refine gN_iand C dX0_checkTurn_16 ?_
      have hand : j &&& (j - 1) < 2 ^ 31 := Nat.lt_of_le_of_lt Nat.and_le_left (by omega)
      by_cases hz : j &&& (j - 1) = 0
      · refine g_ifN_eq (tgt := 30) C hand dX0_checkTurn_17 (by decide) (fun _ => ?_) (fun h => absurd hz h)
        exact gT_vret C hr (Nat.le_of_ble_eq_true rfl) (Nat.le_of_ble_eq_true rfl) ⟨rfl, (pw2_nI (by omega)).mpr ((pw2_tab j hj).mp ⟨h1, hz⟩)⟩ dX0_checkTurn_30
      · have hno : ¬ pw2 (nI j) := fun q => hz ((pw2_tab j hj).mpr ((pw2_nI (by omega)).mp q)).2
        refine g_ifN_eq (tgt := 30) C hand dX0_checkTurn_17 (by decide) (fun h => absurd h hz) (fun _ => ?_)
        exact g_throwS (E := xIA) (text := "n is none of 1, 2, 4, .. 512") C hT (by rw [hlM]; exact hl) hE rfl (by decide +kernel) (by decide +kernel) (by decide +kernel) (by decide +kernel) (by decide +kernel) (by decide +kernel) (by decide +kernel) dX0_checkTurn_20 dX0_checkTurn_23 dX0_checkTurn_24 dX0_checkTurn_26 dX0_checkTurn_29 (by rw [hRM]; exact (Nat.le_of_ble_eq_true rfl)) (by rw [hRM]; exact (Nat.le_of_ble_eq_true rfl)) (by rw [hRM]; exact (Nat.le_of_ble_eq_true rfl)) (by rw [hRM]; exact (Nat.le_of_ble_eq_true rfl)) (Nat.le_of_ble_eq_true rfl) (Nat.le_of_ble_eq_true rfl) ⟨rfl, rfl, hno⟩
    · have hno : ¬ pw2 (nI j) := fun q => h1 ((pw2_tab j hj).mpr ((pw2_nI (by omega)).mp q)).1
      refine g_icN_lt (tgt := 20) C (by omega) (by decide) dX0_checkTurn_2 (by decide) (fun _ => ?_) (fun h => absurd h (by omega))
      exact g_throwS (E := xIA) (text := "n is none of 1, 2, 4, .. 512") C hT (by rw [hlM]; exact hl) hE rfl (by decide +kernel) (by decide +kernel) (by decide +kernel) (by decide +kernel) (by decide +kernel) (by decide +kernel) (by decide +kernel) dX0_checkTurn_20 dX0_checkTurn_23 dX0_checkTurn_24 dX0_checkTurn_26 dX0_checkTurn_29 (by rw [hRM]; exact (Nat.le_of_ble_eq_true rfl)) (by rw [hRM]; exact (Nat.le_of_ble_eq_true rfl)) (by rw [hRM]; exact (Nat.le_of_ble_eq_true rfl)) (by rw [hRM]; exact (Nat.le_of_ble_eq_true rfl)) (Nat.le_of_ble_eq_true rfl) (Nat.le_of_ble_eq_true rfl) ⟨rfl, rfl, hno⟩
  · have hno : ¬ pw2 x := fun q => by
      obtain ⟨j, -, hj, hx⟩ := pw2_hi q
      exact hin ⟨j, hj, hx⟩
    refine g_ic_lt (tgt := 20) C dX0_checkTurn_2 (by decide) (fun _ => ?_) (fun h1 => ?_)
    · exact g_throwS (E := xIA) (text := "n is none of 1, 2, 4, .. 512") C hT (by rw [hlM]; exact hl) hE rfl (by decide +kernel) (by decide +kernel) (by decide +kernel) (by decide +kernel) (by decide +kernel) (by decide +kernel) (by decide +kernel) dX0_checkTurn_20 dX0_checkTurn_23 dX0_checkTurn_24 dX0_checkTurn_26 dX0_checkTurn_29 (by rw [hRM]; exact (Nat.le_of_ble_eq_true rfl)) (by rw [hRM]; exact (Nat.le_of_ble_eq_true rfl)) (by rw [hRM]; exact (Nat.le_of_ble_eq_true rfl)) (by rw [hRM]; exact (Nat.le_of_ble_eq_true rfl)) (Nat.le_of_ble_eq_true rfl) (Nat.le_of_ble_eq_true rfl) ⟨rfl, rfl, hno⟩
    · refine g_iload_n C dX0_checkTurn_5 (k := ?_)
      refine g_sipush C (nI 512) dX0_checkTurn_6 (k := ?_)
      refine g_ic_gt (tgt := 20) C dX0_checkTurn_9 (by decide) (fun _ => ?_) (fun h2 => ?_)
      · exact g_throwS (E := xIA) (text := "n is none of 1, 2, 4, .. 512") C hT (by rw [hlM]; exact hl) hE rfl (by decide +kernel) (by decide +kernel) (by decide +kernel) (by decide +kernel) (by decide +kernel) (by decide +kernel) (by decide +kernel) dX0_checkTurn_20 dX0_checkTurn_23 dX0_checkTurn_24 dX0_checkTurn_26 dX0_checkTurn_29 (by rw [hRM]; exact (Nat.le_of_ble_eq_true rfl)) (by rw [hRM]; exact (Nat.le_of_ble_eq_true rfl)) (by rw [hRM]; exact (Nat.le_of_ble_eq_true rfl)) (by rw [hRM]; exact (Nat.le_of_ble_eq_true rfl)) (Nat.le_of_ble_eq_true rfl) (Nat.le_of_ble_eq_true rfl) ⟨rfl, rfl, hno⟩
      · exfalso
        rcases pk_ix x (n := 513) (by decide) with h | h | ⟨j, hj, rfl⟩
        · exact h1 (Int32.lt_trans h (by decide))
        · exact h2 (Int32.lt_of_lt_of_le (by decide) h)
        · exact hin ⟨j, hj, rfl⟩
abbrev rtu : Room := { frames := 7, cells := 2, slots := 12, locals := 104 }
set_option maxRecDepth 100000 in
set_option maxHeartbeats 4000000 in
theorem c_turn {l : Launch} (hl : l.stackTraces = false) {D : va_G} {tys : List (ClassId × FieldType)} {N : Nat} {ad : Nat → Nat} {ct : Nat → va_E} (hN : 20 ≤ N) {cJ cQ : ClassId} {p : Nat} {wn : Nat → Nat} {Mr Nw : Nat → Nat → Nat} (S : stX cJ cQ ad p wn Mr Nw ct) (ht : tys[0]? = some (cJ, .long)) (ht2 : tys[1]? = some (cQ, .array .long)) (hv : nvX p wn Mr Nw) (x y b : Int32) :
    gTv l yX0_turn wsX0_turn rtu 2 12 D vwCl tys N ad [.ref (ad 0), .int x, .int y, .int b] ct (fun ct1 => ∃ i K, i < 6 ∧ K < 10 ∧ x = nI i ∧ y = nI (2 ^ K) ∧ ct1 = va_up ct (3 + i) (LN cJ 512 (if b = 0 then tf p wn K (Mr i) K else tb p wn K (Mr i)))) (fun E ct1 => ct1 = ct ∧ ((E = xIO ∧ ¬ ir x 6) ∨ (E = xIA ∧ ir x 6 ∧ ¬ pw2 y))) := by
  refine gofT_v (cc := cX0_turn) (maxL := 4) (by decide) rfl (Nat.le_of_ble_eq_true rfl) ?_
  intro M sz C hlM hRM hr hT hE
  have h0 : 0 < N := by omega
  have hp1 := hv.1
  have hp2 := hv.2.1
  refine g_iload_n C dX0_turn_0 (k := ?_)
  refine gT_cSv (rmy := rck) (n := 1) (av := [.int x]) C hT hE (by rw [hlM]; exact c_checkRow hl x) gX0_turn_X0_checkRow rfl ⟨rfl, rfl⟩ (by rw [hRM]; exact ⟨Nat.le_of_ble_eq_true rfl, Nat.le_of_ble_eq_true rfl⟩) (by rw [hRM]; exact ⟨Nat.le_of_ble_eq_true rfl, Nat.le_of_ble_eq_true rfl⟩) (Nat.le_of_ble_eq_true rfl) (by decide +kernel) rfl dX0_turn_1 (Nat.le_of_ble_eq_true rfl) (Nat.le_of_ble_eq_true rfl) (by intro E c q; exact ⟨q.2.1, Or.inl ⟨q.1, q.2.2⟩⟩) ?_
  rintro ct ⟨rfl, i, hi, rfl⟩
  have hrow := S.2.2.2.1 i hi
  refine g_iload_n C dX0_turn_4 (k := ?_)
  refine gT_cSv (rmy := rck) (n := 1) (av := [.int y]) C hT hE (by rw [hlM]; exact c_checkTurn hl y) gX0_turn_X0_checkTurn rfl ⟨rfl, rfl⟩ (by rw [hRM]; exact ⟨Nat.le_of_ble_eq_true rfl, Nat.le_of_ble_eq_true rfl⟩) (by rw [hRM]; exact ⟨Nat.le_of_ble_eq_true rfl, Nat.le_of_ble_eq_true rfl⟩) (Nat.le_of_ble_eq_true rfl) (by decide +kernel) rfl dX0_turn_5 (Nat.le_of_ble_eq_true rfl) (Nat.le_of_ble_eq_true rfl) (by intro E c q; exact ⟨q.2.1, Or.inr ⟨q.1, ⟨i, hi, rfl⟩, q.2.2⟩⟩) ?_
  rintro ct ⟨rfl, K, hK, rfl⟩
  have hKn : 2 ^ K ≤ 512 := show 2 ^ K ≤ 2 ^ 9 from Nat.pow_le_pow_right (by decide) (by omega)
  refine g_iload_n C dX0_turn_8 (k := ?_)
  refine g_if_eq (tgt := 26) C dX0_turn_9 (by decide) (fun hb => ?_) (fun hb => ?_)
  · refine g_aload_n C dX0_turn_26 (k := ?_)
    refine g_aload_n C dX0_turn_27 (k := ?_)
    refine g_getf (Cn := RX0) (T := TX0) (n := 8) (ref := "WheelProducts") C 0 2 h0 S.1 rfl (by decide +kernel) (by decide) (by decide +kernel) (fun _ h => h) rfl dX0_turn_28 ?_
    refine g_iload_n C dX0_turn_31 (k := ?_)
    refine g_aald C 2 1 (by omega) S.2.2.1 ht2 rfl hi (by decide) (if_pos hi) dX0_turn_32 ?_
    refine g_iload_n C dX0_turn_33 (k := ?_)
    refine g_cVv (n := 2) (av := [.ref (ad (3 + i)), .int (nI (2 ^ K))]) C 0 h0 S.1 rfl (by rw [hlM]; exact c_turnForward l hN (by omega) (by omega) (by omega) S.1 S.2.1 hrow ht (by omega) hp2 (by omega) (fun k hk => hv.2.2.2.1 i k hi (by omega)) hv.2.2.1) gX0_turn_X0_turnForward rfl ⟨rfl, rfl⟩ (by rw [hRM]; exact ⟨Nat.le_of_ble_eq_true rfl, Nat.le_of_ble_eq_true rfl⟩) (by rw [hRM]; exact ⟨Nat.le_of_ble_eq_true rfl, Nat.le_of_ble_eq_true rfl⟩) (Nat.le_of_ble_eq_true rfl) (by decide +kernel) rfl dX0_turn_34 ?_
    rintro _ rfl
    exact gT_vret C hr (Nat.le_of_ble_eq_true rfl) (Nat.le_of_ble_eq_true rfl) ⟨i, K, hi, hK, rfl, rfl, by rw [if_pos hb]⟩ dX0_turn_37
  · refine g_aload_n C dX0_turn_12 (k := ?_)
    refine g_aload_n C dX0_turn_13 (k := ?_)
    refine g_getf (Cn := RX0) (T := TX0) (n := 8) (ref := "WheelProducts") C 0 2 h0 S.1 rfl (by decide +kernel) (by decide) (by decide +kernel) (fun _ h => h) rfl dX0_turn_14 ?_
    refine g_iload_n C dX0_turn_17 (k := ?_)
    refine g_aald C 2 1 (by omega) S.2.2.1 ht2 rfl hi (by decide) (if_pos hi) dX0_turn_18 ?_
    refine g_iload_n C dX0_turn_19 (k := ?_)
    refine g_cVv (n := 2) (av := [.ref (ad (3 + i)), .int (nI (2 ^ K))]) C 0 h0 S.1 rfl (by rw [hlM]; exact c_turnBackward l hN (by omega) (by omega) (by omega) S.1 S.2.1 hrow ht hp1 hp2 (by omega) (fun k hk => hv.2.2.2.1 i k hi (by omega)) hv.2.2.1) gX0_turn_X0_turnBackward rfl ⟨rfl, rfl⟩ (by rw [hRM]; exact ⟨Nat.le_of_ble_eq_true rfl, Nat.le_of_ble_eq_true rfl⟩) (by rw [hRM]; exact ⟨Nat.le_of_ble_eq_true rfl, Nat.le_of_ble_eq_true rfl⟩) (Nat.le_of_ble_eq_true rfl) (by decide +kernel) rfl dX0_turn_20 ?_
    rintro _ rfl
    refine g_goto (tgt := 37) C dX0_turn_23 (k := ?_)
    exact gT_vret C hr (Nat.le_of_ble_eq_true rfl) (Nat.le_of_ble_eq_true rfl) ⟨i, K, hi, hK, rfl, rfl, by rw [if_neg hb]⟩ dX0_turn_37
abbrev rpr : Room := { frames := 7, cells := 4, slots := 24, locals := 126 }
set_option maxRecDepth 100000 in
set_option maxHeartbeats 4000000 in
theorem c_product {l : Launch} (hl : l.stackTraces = false) {D : va_G} {tys : List (ClassId × FieldType)} {N : Nat} {ad : Nat → Nat} {ct : Nat → va_E} (hN : 20 ≤ N) {cJ cQ : ClassId} {p : Nat} {wn : Nat → Nat} {Mr Nw : Nat → Nat → Nat} (S : stX cJ cQ ad p wn Mr Nw ct) (ht : tys[0]? = some (cJ, .long)) (ht2 : tys[1]? = some (cQ, .array .long)) (hv : nvX p wn Mr Nw) (x y z : Int32) :
    gTi l yX0_product wsX0_product rpr 4 24 D vwCl tys N ad [.ref (ad 0), .int x, .int y, .int z] ct (fun r ct1 => ∃ t i j, t < 6 ∧ i < 6 ∧ j < 6 ∧ x = nI t ∧ y = nI i ∧ z = nI j ∧ (((up1 (Mr i) 512 = 0 ∨ up1 (Mr j) 512 = 0) ∧ r = nI 0 ∧ ct1 = va_up ct (3 + t) (LN cJ 512 (fun _ => 0))) ∨ (up1 (Mr i) 512 ≠ 0 ∧ up1 (Mr j) 512 ≠ 0 ∧ r = nI (up1 (Mr i) 512 + up1 (Mr j) 512 - 1) ∧ ∃ K lf1 rt1, K ≤ 9 ∧ up1 (Mr i) 512 + up1 (Mr j) 512 - 1 ≤ 2 ^ K ∧ ct1 = va_up (va_up (va_up ct 17 (LN cJ 512 lf1)) 18 (LN cJ 512 rt1)) (3 + t) (LN cJ 512 (mr p wn K (Mr i) (Mr j)))))) (fun E ct1 => ct1 = ct ∧ ((E = xIO ∧ ¬ (ir x 6 ∧ ir y 6 ∧ ir z 6)) ∨ (E = xUO ∧ ∃ t i j, t < 6 ∧ i < 6 ∧ j < 6 ∧ x = nI t ∧ y = nI i ∧ z = nI j ∧ up1 (Mr i) 512 ≠ 0 ∧ up1 (Mr j) 512 ≠ 0 ∧ 512 < up1 (Mr i) 512 + up1 (Mr j) 512 - 1))) := by
  refine gofT_i (cc := cX0_product) (maxL := 7) (by decide) rfl (Nat.le_of_ble_eq_true rfl) ?_
  intro M sz C hlM hRM hr hT hE
  have h0 : 0 < N := by omega
  have hp1 := hv.1
  have hp2 := hv.2.1
  refine g_iload_n C dX0_product_0 (k := ?_)
  refine gT_cSv (rmy := rck) (n := 1) (av := [.int x]) C hT hE (by rw [hlM]; exact c_checkRow hl x) gX0_product_X0_checkRow rfl ⟨rfl, rfl⟩ (by rw [hRM]; exact ⟨Nat.le_of_ble_eq_true rfl, Nat.le_of_ble_eq_true rfl⟩) (by rw [hRM]; exact ⟨Nat.le_of_ble_eq_true rfl, Nat.le_of_ble_eq_true rfl⟩) (Nat.le_of_ble_eq_true rfl) (by decide +kernel) rfl dX0_product_1 (Nat.le_of_ble_eq_true rfl) (Nat.le_of_ble_eq_true rfl) (by intro E c q; exact ⟨q.2.1, Or.inl ⟨q.1, fun z => q.2.2 z.1⟩⟩) ?_
  rintro ct ⟨rfl, t, ht6, rfl⟩
  refine g_iload_n C dX0_product_4 (k := ?_)
  refine gT_cSv (rmy := rck) (n := 1) (av := [.int y]) C hT hE (by rw [hlM]; exact c_checkRow hl y) gX0_product_X0_checkRow rfl ⟨rfl, rfl⟩ (by rw [hRM]; exact ⟨Nat.le_of_ble_eq_true rfl, Nat.le_of_ble_eq_true rfl⟩) (by rw [hRM]; exact ⟨Nat.le_of_ble_eq_true rfl, Nat.le_of_ble_eq_true rfl⟩) (Nat.le_of_ble_eq_true rfl) (by decide +kernel) rfl dX0_product_5 (Nat.le_of_ble_eq_true rfl) (Nat.le_of_ble_eq_true rfl) (by intro E c q; exact ⟨q.2.1, Or.inl ⟨q.1, fun z => q.2.2 z.2.1⟩⟩) ?_
  rintro ct ⟨rfl, i, hi, rfl⟩
  refine g_iload_n C dX0_product_8 (k := ?_)
  refine gT_cSv (rmy := rck) (n := 1) (av := [.int z]) C hT hE (by rw [hlM]; exact c_checkRow hl z) gX0_product_X0_checkRow rfl ⟨rfl, rfl⟩ (by rw [hRM]; exact ⟨Nat.le_of_ble_eq_true rfl, Nat.le_of_ble_eq_true rfl⟩) (by rw [hRM]; exact ⟨Nat.le_of_ble_eq_true rfl, Nat.le_of_ble_eq_true rfl⟩) (Nat.le_of_ble_eq_true rfl) (by decide +kernel) rfl dX0_product_9 (Nat.le_of_ble_eq_true rfl) (Nat.le_of_ble_eq_true rfl) (by intro E c q; exact ⟨q.2.1, Or.inl ⟨q.1, fun z => q.2.2 z.2.2⟩⟩) ?_
  rintro ct ⟨rfl, j, hj, rfl⟩
  have hirow := S.2.2.2.1 i hi
  have hjrow := S.2.2.2.1 j hj
  have htrow := S.2.2.2.1 t ht6
  refine g_aload_n C dX0_product_12 (k := ?_)
  refine g_getf (Cn := RX0) (T := TX0) (n := 8) (ref := "WheelProducts") C 0 2 h0 S.1 rfl (by decide +kernel) (by decide) (by decide +kernel) (fun _ h => h) rfl dX0_product_13 ?_
  refine g_iload_n C dX0_product_16 (k := ?_)
  refine g_aald C 2 1 (by omega) S.2.2.1 ht2 rfl hi (by decide) (if_pos hi) dX0_product_17 ?_
  refine g_cSi (n := 1) (av := [.ref (ad (3 + i))]) C (by rw [hlM]; exact c_usedPart l (by omega) hirow ht (by decide) (fun k hk => Nat.lt_trans (hv.2.2.2.1 i k hi hk) (by omega))) gX0_product_X0_usedPart rfl ⟨rfl, rfl⟩ (by rw [hRM]; exact ⟨Nat.le_of_ble_eq_true rfl, Nat.le_of_ble_eq_true rfl⟩) (by rw [hRM]; exact ⟨Nat.le_of_ble_eq_true rfl, Nat.le_of_ble_eq_true rfl⟩) (Nat.le_of_ble_eq_true rfl) (by decide +kernel) rfl dX0_product_18 ?_
  rintro _ ct ⟨rfl, rfl⟩
  refine g_istore C dX0_product_21 (k := ?_)
  refine g_aload_n C dX0_product_23 (k := ?_)
  refine g_getf (Cn := RX0) (T := TX0) (n := 8) (ref := "WheelProducts") C 0 2 h0 S.1 rfl (by decide +kernel) (by decide) (by decide +kernel) (fun _ h => h) rfl dX0_product_24 ?_
  refine g_iload_n C dX0_product_27 (k := ?_)
  refine g_aald C 2 1 (by omega) S.2.2.1 ht2 rfl hj (by decide) (if_pos hj) dX0_product_28 ?_
  refine g_cSi (n := 1) (av := [.ref (ad (3 + j))]) C (by rw [hlM]; exact c_usedPart l (by omega) hjrow ht (by decide) (fun k hk => Nat.lt_trans (hv.2.2.2.1 j k hj hk) (by omega))) gX0_product_X0_usedPart rfl ⟨rfl, rfl⟩ (by rw [hRM]; exact ⟨Nat.le_of_ble_eq_true rfl, Nat.le_of_ble_eq_true rfl⟩) (by rw [hRM]; exact ⟨Nat.le_of_ble_eq_true rfl, Nat.le_of_ble_eq_true rfl⟩) (Nat.le_of_ble_eq_true rfl) (by decide +kernel) rfl dX0_product_29 ?_
  rintro _ ct ⟨rfl, rfl⟩
  have hul := up1_le (Mr i) 512
  have hvl := up1_le (Mr j) 512
  refine g_istore C dX0_product_32 (k := ?_)
  refine g_iload C dX0_product_34 (k := ?_)
  by_cases hz1 : up1 (Mr i) 512 = 0
  · refine g_ifN_eq (tgt := 44) C (by omega) dX0_product_36 (by decide) (fun _ => ?_) (fun h => absurd hz1 h)
    refine g_aload_n C dX0_product_44 (k := ?_)
    refine g_getf (Cn := RX0) (T := TX0) (n := 8) (ref := "WheelProducts") C 0 2 h0 S.1 rfl (by decide +kernel) (by decide) (by decide +kernel) (fun _ h => h) rfl dX0_product_45 ?_
    refine g_iload_n C dX0_product_48 (k := ?_)
    refine g_aald C 2 1 (by omega) S.2.2.1 ht2 rfl ht6 (by decide) (if_pos ht6) dX0_product_49 ?_
    refine g_lconst C (lN 0) dX0_product_50 (k := ?_)
    refine g_cSv (n := 2) (av := [.ref (ad (3 + t)), .long (lN 0)]) C (by rw [hlM]; exact c_fill l (by omega) htrow ht (by decide)) gX0_product_J7_fill_d0a16 rfl ⟨rfl, rfl⟩ (by rw [hRM]; exact ⟨Nat.le_of_ble_eq_true rfl, Nat.le_of_ble_eq_true rfl⟩) (by rw [hRM]; exact ⟨Nat.le_of_ble_eq_true rfl, Nat.le_of_ble_eq_true rfl⟩) (Nat.le_of_ble_eq_true rfl) (by decide +kernel) rfl dX0_product_51 ?_
    rintro _ rfl
    refine g_iconst C (nI 0) dX0_product_54 (k := ?_)
    exact gT_iret C hr (Nat.le_of_ble_eq_true rfl) (Nat.le_of_ble_eq_true rfl) ⟨t, i, j, ht6, hi, hj, rfl, rfl, rfl, Or.inl ⟨Or.inl hz1, rfl, rfl⟩⟩ dX0_product_55
  · refine g_ifN_eq (tgt := 44) C (by omega) dX0_product_36 (by decide) (fun h => absurd h hz1) (fun _ => ?_)
    refine g_iload C dX0_product_39 (k := ?_)
    by_cases hz2 : up1 (Mr j) 512 = 0
    · refine g_ifN_ne (tgt := 56) C (by omega) dX0_product_41 (by decide) (fun h => absurd hz2 h) (fun _ => ?_)
      refine g_aload_n C dX0_product_44 (k := ?_)
      refine g_getf (Cn := RX0) (T := TX0) (n := 8) (ref := "WheelProducts") C 0 2 h0 S.1 rfl (by decide +kernel) (by decide) (by decide +kernel) (fun _ h => h) rfl dX0_product_45 ?_
      refine g_iload_n C dX0_product_48 (k := ?_)
      refine g_aald C 2 1 (by omega) S.2.2.1 ht2 rfl ht6 (by decide) (if_pos ht6) dX0_product_49 ?_
      refine g_lconst C (lN 0) dX0_product_50 (k := ?_)
      refine g_cSv (n := 2) (av := [.ref (ad (3 + t)), .long (lN 0)]) C (by rw [hlM]; exact c_fill l (by omega) htrow ht (by decide)) gX0_product_J7_fill_d0a16 rfl ⟨rfl, rfl⟩ (by rw [hRM]; exact ⟨Nat.le_of_ble_eq_true rfl, Nat.le_of_ble_eq_true rfl⟩) (by rw [hRM]; exact ⟨Nat.le_of_ble_eq_true rfl, Nat.le_of_ble_eq_true rfl⟩) (Nat.le_of_ble_eq_true rfl) (by decide +kernel) rfl dX0_product_51 ?_
      rintro _ rfl
      refine g_iconst C (nI 0) dX0_product_54 (k := ?_)
      exact gT_iret C hr (Nat.le_of_ble_eq_true rfl) (Nat.le_of_ble_eq_true rfl) ⟨t, i, j, ht6, hi, hj, rfl, rfl, rfl, Or.inl ⟨Or.inr hz2, rfl, rfl⟩⟩ dX0_product_55
    · refine g_ifN_ne (tgt := 56) C (by omega) dX0_product_41 (by decide) (fun _ => ?_) (fun h => absurd h hz2)
      refine g_iload C dX0_product_56 (k := ?_)
      refine g_iload C dX0_product_58 (k := ?_)
      refine gN_iadd C dX0_product_60 ?_
      refine g_iconst C (nI 1) dX0_product_61 (k := ?_)
      refine gN_isub C (by omega) dX0_product_62 ?_
      refine g_istore C dX0_product_63 (k := ?_)
      refine g_iload C dX0_product_65 (k := ?_)
      refine g_sipush C (nI 512) dX0_product_67 (k := ?_)
      by_cases hbig : 512 < up1 (Mr i) 512 + up1 (Mr j) 512 - 1
      · refine g_icN_le (tgt := 83) C (by omega) (by decide) dX0_product_70 (by decide) (fun h => absurd h (by omega)) (fun _ => ?_)
        exact g_throwS (E := xUO) (text := "the product has more than 512 coefficients") C hT (by rw [hlM]; exact hl) hE rfl (by decide +kernel) (by decide +kernel) (by decide +kernel) (by decide +kernel) (by decide +kernel) (by decide +kernel) (by decide +kernel) dX0_product_73 dX0_product_76 dX0_product_77 dX0_product_79 dX0_product_82 (by rw [hRM]; exact (Nat.le_of_ble_eq_true rfl)) (by rw [hRM]; exact (Nat.le_of_ble_eq_true rfl)) (by rw [hRM]; exact (Nat.le_of_ble_eq_true rfl)) (by rw [hRM]; exact (Nat.le_of_ble_eq_true rfl)) (Nat.le_of_ble_eq_true rfl) (Nat.le_of_ble_eq_true rfl) ⟨rfl, Or.inr ⟨rfl, t, i, j, ht6, hi, hj, rfl, rfl, rfl, hz1, hz2, hbig⟩⟩
      · refine g_icN_le (tgt := 83) C (by omega) (by decide) dX0_product_70 (by decide) (fun _ => ?_) (fun h => absurd h (by omega))
        refine g_aload_n C dX0_product_83 (k := ?_)
        refine g_aload_n C dX0_product_84 (k := ?_)
        refine g_getf (Cn := RX0) (T := TX0) (n := 8) (ref := "WheelProducts") C 0 2 h0 S.1 rfl (by decide +kernel) (by decide) (by decide +kernel) (fun _ h => h) rfl dX0_product_85 ?_
        refine g_iload_n C dX0_product_88 (k := ?_)
        refine g_aald C 2 1 (by omega) S.2.2.1 ht2 rfl ht6 (by decide) (if_pos ht6) dX0_product_89 ?_
        refine g_aload_n C dX0_product_90 (k := ?_)
        refine g_getf (Cn := RX0) (T := TX0) (n := 8) (ref := "WheelProducts") C 0 2 h0 S.1 rfl (by decide +kernel) (by decide) (by decide +kernel) (fun _ h => h) rfl dX0_product_91 ?_
        refine g_iload_n C dX0_product_94 (k := ?_)
        refine g_aald C 2 1 (by omega) S.2.2.1 ht2 rfl hi (by decide) (if_pos hi) dX0_product_95 ?_
        refine g_aload_n C dX0_product_96 (k := ?_)
        refine g_getf (Cn := RX0) (T := TX0) (n := 8) (ref := "WheelProducts") C 0 2 h0 S.1 rfl (by decide +kernel) (by decide) (by decide +kernel) (fun _ h => h) rfl dX0_product_97 ?_
        refine g_iload_n C dX0_product_100 (k := ?_)
        refine g_aald C 2 1 (by omega) S.2.2.1 ht2 rfl hj (by decide) (if_pos hj) dX0_product_101 ?_
        refine g_iload C dX0_product_102 (k := ?_)
        refine g_cSi (n := 1) (av := [.int (nI (up1 (Mr i) 512 + up1 (Mr j) 512 - 1))]) C (by rw [hlM]; exact c_turnThatHolds l (by omega)) gX0_product_X0_turnThatHolds rfl ⟨rfl, rfl⟩ (by rw [hRM]; exact ⟨Nat.le_of_ble_eq_true rfl, Nat.le_of_ble_eq_true rfl⟩) (by rw [hRM]; exact ⟨Nat.le_of_ble_eq_true rfl, Nat.le_of_ble_eq_true rfl⟩) (Nat.le_of_ble_eq_true rfl) (by decide +kernel) rfl dX0_product_104 ?_
        rintro _ ct ⟨⟨K, hK, hKl, rfl⟩, rfl⟩
        have hKn : 2 ^ K ≤ 512 := show 2 ^ K ≤ 2 ^ 9 from Nat.pow_le_pow_right (by decide) hK
        obtain ⟨lf, el⟩ := S.2.2.2.2.2.2.2.1
        obtain ⟨rt, er⟩ := S.2.2.2.2.2.2.2.2.1
        refine g_cVv (n := 4) (av := [.ref (ad (3 + t)), .ref (ad (3 + i)), .ref (ad (3 + j)), .int (nI (2 ^ K))]) C 0 h0 S.1 rfl (by rw [hlM]; exact c_multiplyRows l hN (by omega) (by omega) (by omega) S.1 S.2.1 hirow hjrow htrow el er ht hp1 hp2 hK (fun k hk => hv.2.2.2.1 i k hi (by omega)) (fun k hk => hv.2.2.2.1 j k hj (by omega)) hv.2.2.1) gX0_product_X0_multiplyRows rfl ⟨rfl, rfl⟩ (by rw [hRM]; exact ⟨Nat.le_of_ble_eq_true rfl, Nat.le_of_ble_eq_true rfl⟩) (by rw [hRM]; exact ⟨Nat.le_of_ble_eq_true rfl, Nat.le_of_ble_eq_true rfl⟩) (Nat.le_of_ble_eq_true rfl) (by decide +kernel) rfl dX0_product_107 ?_
        rintro _ ⟨lf1, rt1, rfl⟩
        refine g_iload C dX0_product_110 (k := ?_)
        exact gT_iret C hr (Nat.le_of_ble_eq_true rfl) (Nat.le_of_ble_eq_true rfl) ⟨t, i, j, ht6, hi, hj, rfl, rfl, rfl, Or.inr ⟨hz1, hz2, rfl, K, lf1, rt1, hK, hKl, rfl⟩⟩ dX0_product_112
abbrev rmu : Room := { frames := 7, cells := 4, slots := 24, locals := 126 }
set_option maxRecDepth 100000 in
set_option maxHeartbeats 4000000 in
theorem c_multiply {l : Launch} (hl : l.stackTraces = false) {D : va_G} {tys : List (ClassId × FieldType)} {N : Nat} {ad : Nat → Nat} {ct : Nat → va_E} (hN : 20 ≤ N) {cJ cQ : ClassId} {p : Nat} {wn : Nat → Nat} {Mr Nw : Nat → Nat → Nat} (S : stX cJ cQ ad p wn Mr Nw ct) (ht : tys[0]? = some (cJ, .long)) (ht2 : tys[1]? = some (cQ, .array .long)) (hv : nvX p wn Mr Nw) (x y z : Int32) :
    gTi l yX0_multiply wsX0_multiply rmu 4 24 D vwCl tys N ad [.ref (ad 0), .int x, .int y, .int z] ct (fun r ct1 => ∃ t i j, t < 6 ∧ i < 6 ∧ j < 6 ∧ x = nI t ∧ y = nI i ∧ z = nI j ∧ (((up1 (Nw i) 240 = 0 ∨ up1 (Nw j) 240 = 0) ∧ r = nI 0 ∧ ct1 = va_up ct (10 + t) (LN cJ 240 (fun _ => 0))) ∨ (up1 (Nw i) 240 ≠ 0 ∧ up1 (Nw j) 240 ≠ 0 ∧ up1 (Nw i) 240 + up1 (Nw j) 240 ≤ 240 ∧ r = nI (up1 (mo (Nw i) (Nw j) (up1 (Nw j) 240) (up1 (Nw i) 240)) 240) ∧ ct1 = va_up (va_up ct 19 (LN cJ 240 (mo (Nw i) (Nw j) (up1 (Nw j) 240) (up1 (Nw i) 240)))) (10 + t) (LN cJ 240 (mo (Nw i) (Nw j) (up1 (Nw j) 240) (up1 (Nw i) 240)))))) (fun E ct1 => ct1 = ct ∧ ((E = xIO ∧ ¬ (ir x 6 ∧ ir y 6 ∧ ir z 6)) ∨ (E = xUO ∧ ∃ t i j, t < 6 ∧ i < 6 ∧ j < 6 ∧ x = nI t ∧ y = nI i ∧ z = nI j ∧ up1 (Nw i) 240 ≠ 0 ∧ up1 (Nw j) 240 ≠ 0 ∧ 240 < up1 (Nw i) 240 + up1 (Nw j) 240))) := by
  refine gofT_i (cc := cX0_multiply) (maxL := 6) (by decide) rfl (Nat.le_of_ble_eq_true rfl) ?_
  intro M sz C hlM hRM hr hT hE
  have h0 : 0 < N := by omega
  have hp1 := hv.1
  have hp2 := hv.2.1
  refine g_iload_n C dX0_multiply_0 (k := ?_)
  refine gT_cSv (rmy := rck) (n := 1) (av := [.int x]) C hT hE (by rw [hlM]; exact c_checkNatural hl x) gX0_multiply_X0_checkNatural rfl ⟨rfl, rfl⟩ (by rw [hRM]; exact ⟨Nat.le_of_ble_eq_true rfl, Nat.le_of_ble_eq_true rfl⟩) (by rw [hRM]; exact ⟨Nat.le_of_ble_eq_true rfl, Nat.le_of_ble_eq_true rfl⟩) (Nat.le_of_ble_eq_true rfl) (by decide +kernel) rfl dX0_multiply_1 (Nat.le_of_ble_eq_true rfl) (Nat.le_of_ble_eq_true rfl) (by intro E c q; exact ⟨q.2.1, Or.inl ⟨q.1, fun z => q.2.2 z.1⟩⟩) ?_
  rintro ct ⟨rfl, t, ht6, rfl⟩
  refine g_iload_n C dX0_multiply_4 (k := ?_)
  refine gT_cSv (rmy := rck) (n := 1) (av := [.int y]) C hT hE (by rw [hlM]; exact c_checkNatural hl y) gX0_multiply_X0_checkNatural rfl ⟨rfl, rfl⟩ (by rw [hRM]; exact ⟨Nat.le_of_ble_eq_true rfl, Nat.le_of_ble_eq_true rfl⟩) (by rw [hRM]; exact ⟨Nat.le_of_ble_eq_true rfl, Nat.le_of_ble_eq_true rfl⟩) (Nat.le_of_ble_eq_true rfl) (by decide +kernel) rfl dX0_multiply_5 (Nat.le_of_ble_eq_true rfl) (Nat.le_of_ble_eq_true rfl) (by intro E c q; exact ⟨q.2.1, Or.inl ⟨q.1, fun z => q.2.2 z.2.1⟩⟩) ?_
  rintro ct ⟨rfl, i, hi, rfl⟩
  refine g_iload_n C dX0_multiply_8 (k := ?_)
  refine gT_cSv (rmy := rck) (n := 1) (av := [.int z]) C hT hE (by rw [hlM]; exact c_checkNatural hl z) gX0_multiply_X0_checkNatural rfl ⟨rfl, rfl⟩ (by rw [hRM]; exact ⟨Nat.le_of_ble_eq_true rfl, Nat.le_of_ble_eq_true rfl⟩) (by rw [hRM]; exact ⟨Nat.le_of_ble_eq_true rfl, Nat.le_of_ble_eq_true rfl⟩) (Nat.le_of_ble_eq_true rfl) (by decide +kernel) rfl dX0_multiply_9 (Nat.le_of_ble_eq_true rfl) (Nat.le_of_ble_eq_true rfl) (by intro E c q; exact ⟨q.2.1, Or.inl ⟨q.1, fun z => q.2.2 z.2.2⟩⟩) ?_
  rintro ct ⟨rfl, j, hj, rfl⟩
  have hirow := S.2.2.2.2.2.1 i hi
  have hjrow := S.2.2.2.2.2.1 j hj
  have htrow := S.2.2.2.2.2.1 t ht6
  refine g_aload_n C dX0_multiply_12 (k := ?_)
  refine g_getf (Cn := RX0) (T := TX0) (n := 8) (ref := "WheelProducts") C 0 3 h0 S.1 rfl (by decide +kernel) (by decide) (by decide +kernel) (fun _ h => h) rfl dX0_multiply_13 ?_
  refine g_iload_n C dX0_multiply_16 (k := ?_)
  refine g_aald C 9 1 (by omega) S.2.2.2.2.1 ht2 rfl hi (by decide) (if_pos hi) dX0_multiply_17 ?_
  refine g_cSi (n := 1) (av := [.ref (ad (10 + i))]) C (by rw [hlM]; exact c_usedPart l (by omega) hirow ht (by decide) (fun k _ => Nat.lt_trans (hv.2.2.2.2 i k hi) (by decide))) gX0_multiply_X0_usedPart rfl ⟨rfl, rfl⟩ (by rw [hRM]; exact ⟨Nat.le_of_ble_eq_true rfl, Nat.le_of_ble_eq_true rfl⟩) (by rw [hRM]; exact ⟨Nat.le_of_ble_eq_true rfl, Nat.le_of_ble_eq_true rfl⟩) (Nat.le_of_ble_eq_true rfl) (by decide +kernel) rfl dX0_multiply_18 ?_
  rintro _ ct ⟨rfl, rfl⟩
  refine g_istore C dX0_multiply_21 (k := ?_)
  refine g_aload_n C dX0_multiply_23 (k := ?_)
  refine g_getf (Cn := RX0) (T := TX0) (n := 8) (ref := "WheelProducts") C 0 3 h0 S.1 rfl (by decide +kernel) (by decide) (by decide +kernel) (fun _ h => h) rfl dX0_multiply_24 ?_
  refine g_iload_n C dX0_multiply_27 (k := ?_)
  refine g_aald C 9 1 (by omega) S.2.2.2.2.1 ht2 rfl hj (by decide) (if_pos hj) dX0_multiply_28 ?_
  refine g_cSi (n := 1) (av := [.ref (ad (10 + j))]) C (by rw [hlM]; exact c_usedPart l (by omega) hjrow ht (by decide) (fun k _ => Nat.lt_trans (hv.2.2.2.2 j k hj) (by decide))) gX0_multiply_X0_usedPart rfl ⟨rfl, rfl⟩ (by rw [hRM]; exact ⟨Nat.le_of_ble_eq_true rfl, Nat.le_of_ble_eq_true rfl⟩) (by rw [hRM]; exact ⟨Nat.le_of_ble_eq_true rfl, Nat.le_of_ble_eq_true rfl⟩) (Nat.le_of_ble_eq_true rfl) (by decide +kernel) rfl dX0_multiply_29 ?_
  rintro _ ct ⟨rfl, rfl⟩
  have hul := up1_le (Nw i) 240
  have hvl := up1_le (Nw j) 240
  refine g_istore C dX0_multiply_32 (k := ?_)
  refine g_iload C dX0_multiply_34 (k := ?_)
  by_cases hz1 : up1 (Nw i) 240 = 0
  · refine g_ifN_eq (tgt := 44) C (by omega) dX0_multiply_36 (by decide) (fun _ => ?_) (fun h => absurd hz1 h)
    refine g_aload_n C dX0_multiply_44 (k := ?_)
    refine g_getf (Cn := RX0) (T := TX0) (n := 8) (ref := "WheelProducts") C 0 3 h0 S.1 rfl (by decide +kernel) (by decide) (by decide +kernel) (fun _ h => h) rfl dX0_multiply_45 ?_
    refine g_iload_n C dX0_multiply_48 (k := ?_)
    refine g_aald C 9 1 (by omega) S.2.2.2.2.1 ht2 rfl ht6 (by decide) (if_pos ht6) dX0_multiply_49 ?_
    refine g_lconst C (lN 0) dX0_multiply_50 (k := ?_)
    refine g_cSv (n := 2) (av := [.ref (ad (10 + t)), .long (lN 0)]) C (by rw [hlM]; exact c_fill l (by omega) htrow ht (by decide)) gX0_multiply_J7_fill_d0a16 rfl ⟨rfl, rfl⟩ (by rw [hRM]; exact ⟨Nat.le_of_ble_eq_true rfl, Nat.le_of_ble_eq_true rfl⟩) (by rw [hRM]; exact ⟨Nat.le_of_ble_eq_true rfl, Nat.le_of_ble_eq_true rfl⟩) (Nat.le_of_ble_eq_true rfl) (by decide +kernel) rfl dX0_multiply_51 ?_
    rintro _ rfl
    refine g_iconst C (nI 0) dX0_multiply_54 (k := ?_)
    exact gT_iret C hr (Nat.le_of_ble_eq_true rfl) (Nat.le_of_ble_eq_true rfl) ⟨t, i, j, ht6, hi, hj, rfl, rfl, rfl, Or.inl ⟨Or.inl hz1, rfl, rfl⟩⟩ dX0_multiply_55
  · refine g_ifN_eq (tgt := 44) C (by omega) dX0_multiply_36 (by decide) (fun h => absurd h hz1) (fun _ => ?_)
    refine g_iload C dX0_multiply_39 (k := ?_)
    by_cases hz2 : up1 (Nw j) 240 = 0
    · refine g_ifN_ne (tgt := 56) C (by omega) dX0_multiply_41 (by decide) (fun h => absurd hz2 h) (fun _ => ?_)
      refine g_aload_n C dX0_multiply_44 (k := ?_)
      refine g_getf (Cn := RX0) (T := TX0) (n := 8) (ref := "WheelProducts") C 0 3 h0 S.1 rfl (by decide +kernel) (by decide) (by decide +kernel) (fun _ h => h) rfl dX0_multiply_45 ?_
      refine g_iload_n C dX0_multiply_48 (k := ?_)
      refine g_aald C 9 1 (by omega) S.2.2.2.2.1 ht2 rfl ht6 (by decide) (if_pos ht6) dX0_multiply_49 ?_
      refine g_lconst C (lN 0) dX0_multiply_50 (k := ?_)
      refine g_cSv (n := 2) (av := [.ref (ad (10 + t)), .long (lN 0)]) C (by rw [hlM]; exact c_fill l (by omega) htrow ht (by decide)) gX0_multiply_J7_fill_d0a16 rfl ⟨rfl, rfl⟩ (by rw [hRM]; exact ⟨Nat.le_of_ble_eq_true rfl, Nat.le_of_ble_eq_true rfl⟩) (by rw [hRM]; exact ⟨Nat.le_of_ble_eq_true rfl, Nat.le_of_ble_eq_true rfl⟩) (Nat.le_of_ble_eq_true rfl) (by decide +kernel) rfl dX0_multiply_51 ?_
      rintro _ rfl
      refine g_iconst C (nI 0) dX0_multiply_54 (k := ?_)
      exact gT_iret C hr (Nat.le_of_ble_eq_true rfl) (Nat.le_of_ble_eq_true rfl) ⟨t, i, j, ht6, hi, hj, rfl, rfl, rfl, Or.inl ⟨Or.inr hz2, rfl, rfl⟩⟩ dX0_multiply_55
    · refine g_ifN_ne (tgt := 56) C (by omega) dX0_multiply_41 (by decide) (fun _ => ?_) (fun h => absurd h hz2)
      refine g_iload C dX0_multiply_56 (k := ?_)
      refine g_iload C dX0_multiply_58 (k := ?_)
      refine gN_iadd C dX0_multiply_60 ?_
      refine g_sipush C (nI 240) dX0_multiply_61 (k := ?_)
      by_cases hbig : 240 < up1 (Nw i) 240 + up1 (Nw j) 240
      · refine g_icN_le (tgt := 77) C (by omega) (by decide) dX0_multiply_64 (by decide) (fun h => absurd h (by omega)) (fun _ => ?_)
        exact g_throwS (E := xUO) (text := "the sizes of both together are above 240") C hT (by rw [hlM]; exact hl) hE rfl (by decide +kernel) (by decide +kernel) (by decide +kernel) (by decide +kernel) (by decide +kernel) (by decide +kernel) (by decide +kernel) dX0_multiply_67 dX0_multiply_70 dX0_multiply_71 dX0_multiply_73 dX0_multiply_76 (by rw [hRM]; exact (Nat.le_of_ble_eq_true rfl)) (by rw [hRM]; exact (Nat.le_of_ble_eq_true rfl)) (by rw [hRM]; exact (Nat.le_of_ble_eq_true rfl)) (by rw [hRM]; exact (Nat.le_of_ble_eq_true rfl)) (Nat.le_of_ble_eq_true rfl) (Nat.le_of_ble_eq_true rfl) ⟨rfl, Or.inr ⟨rfl, t, i, j, ht6, hi, hj, rfl, rfl, rfl, hz1, hz2, hbig⟩⟩
      · refine g_icN_le (tgt := 77) C (by omega) (by decide) dX0_multiply_64 (by decide) (fun _ => ?_) (fun h => absurd h (by omega))
        obtain ⟨z0, ez⟩ := S.2.2.2.2.2.2.2.2.2
        have hMl := mo_lt (hv.2.2.2.2 i · hi) (hv.2.2.2.2 j · hj) (up1 (Nw j) 240) (up1 (Nw i) 240)
        refine g_aload_n C dX0_multiply_77 (k := ?_)
        refine g_aload_n C dX0_multiply_78 (k := ?_)
        refine g_getf (Cn := RX0) (T := TX0) (n := 8) (ref := "WheelProducts") C 0 3 h0 S.1 rfl (by decide +kernel) (by decide) (by decide +kernel) (fun _ h => h) rfl dX0_multiply_79 ?_
        refine g_iload_n C dX0_multiply_82 (k := ?_)
        refine g_aald C 9 1 (by omega) S.2.2.2.2.1 ht2 rfl hi (by decide) (if_pos hi) dX0_multiply_83 ?_
        refine g_iload C dX0_multiply_84 (k := ?_)
        refine g_aload_n C dX0_multiply_86 (k := ?_)
        refine g_getf (Cn := RX0) (T := TX0) (n := 8) (ref := "WheelProducts") C 0 3 h0 S.1 rfl (by decide +kernel) (by decide) (by decide +kernel) (fun _ h => h) rfl dX0_multiply_87 ?_
        refine g_iload_n C dX0_multiply_90 (k := ?_)
        refine g_aald C 9 1 (by omega) S.2.2.2.2.1 ht2 rfl hj (by decide) (if_pos hj) dX0_multiply_91 ?_
        refine g_iload C dX0_multiply_92 (k := ?_)
        refine g_cVv (n := 4) (av := [.ref (ad (10 + i)), .int (nI (up1 (Nw i) 240)), .ref (ad (10 + j)), .int (nI (up1 (Nw j) 240))]) C 0 h0 S.1 rfl (by rw [hlM]; exact c_multiplyWords l hN (by omega) (by omega) S.1 hirow hjrow ez ht (fun k => hv.2.2.2.2 i k hi) (fun k => hv.2.2.2.2 j k hj) (by omega)) gX0_multiply_X0_multiplyWords rfl ⟨rfl, rfl⟩ (by rw [hRM]; exact ⟨Nat.le_of_ble_eq_true rfl, Nat.le_of_ble_eq_true rfl⟩) (by rw [hRM]; exact ⟨Nat.le_of_ble_eq_true rfl, Nat.le_of_ble_eq_true rfl⟩) (Nat.le_of_ble_eq_true rfl) (by decide +kernel) rfl dX0_multiply_94 ?_
        rintro _ rfl
        refine g_aload_n C dX0_multiply_97 (k := ?_)
        refine g_getf (Cn := RX0) (T := TX0) (n := 8) (ref := "WheelProducts") C 0 7 h0 (by (repeat rw [va_up_ne _ _ (by omega)]); exact S.1) rfl (by decide +kernel) (by decide) (by decide +kernel) (fun _ h => h) rfl dX0_multiply_98 ?_
        refine g_iconst C 0 dX0_multiply_101 (k := ?_)
        refine g_aload_n C dX0_multiply_102 (k := ?_)
        refine g_getf (Cn := RX0) (T := TX0) (n := 8) (ref := "WheelProducts") C 0 3 h0 (by (repeat rw [va_up_ne _ _ (by omega)]); exact S.1) rfl (by decide +kernel) (by decide) (by decide +kernel) (fun _ h => h) rfl dX0_multiply_103 ?_
        refine g_iload_n C dX0_multiply_106 (k := ?_)
        refine g_aald C 9 1 (by omega) (by (repeat rw [va_up_ne _ _ (by omega)]); exact S.2.2.2.2.1) ht2 rfl ht6 (by decide) (if_pos ht6) dX0_multiply_107 ?_
        refine g_iconst C 0 dX0_multiply_108 (k := ?_)
        refine g_sipush C (nI 240) dX0_multiply_109 (k := ?_)
        refine g_acopy C (by decide +kernel) (by decide +kernel) (by decide +kernel) (by decide +kernel) 19 (10 + t) 0 (by omega) (by omega) (va_up_self _ _ _) (by rw [va_up_ne _ _ (by omega)]; exact htrow) ht (Nat.le_refl 240) (Nat.le_refl 240) (by decide) (by rw [hRM]; exact Nat.le_of_ble_eq_true rfl) (by rw [hRM]; exact Nat.le_of_ble_eq_true rfl) dX0_multiply_112 ?_
        rw [cp_lN]
        refine g_ext (10 + t) (va_up_self _ _ _) (g := fun k => lN ((mo (Nw i) (Nw j) (up1 (Nw j) 240) (up1 (Nw i) 240)) k)) (fun k hk => by show lN (cpN _ _ 240 k) = _; unfold cpN; rw [if_pos hk]) ?_
        rw [bx_uu]
        refine g_aload_n C dX0_multiply_115 (k := ?_)
        refine g_getf (Cn := RX0) (T := TX0) (n := 8) (ref := "WheelProducts") C 0 7 h0 (by (repeat rw [va_up_ne _ _ (by omega)]); exact S.1) rfl (by decide +kernel) (by decide) (by decide +kernel) (fun _ h => h) rfl dX0_multiply_116 ?_
        refine g_cSi (n := 1) (av := [.ref (ad 19)]) C (by rw [hlM]; exact c_usedPart l (by omega) (by rw [va_up_ne _ _ (by omega), va_up_self]) ht (by decide) (fun k _ => Nat.lt_trans (hMl k) (by decide))) gX0_multiply_X0_usedPart rfl ⟨rfl, rfl⟩ (by rw [hRM]; exact ⟨Nat.le_of_ble_eq_true rfl, Nat.le_of_ble_eq_true rfl⟩) (by rw [hRM]; exact ⟨Nat.le_of_ble_eq_true rfl, Nat.le_of_ble_eq_true rfl⟩) (Nat.le_of_ble_eq_true rfl) (by decide +kernel) rfl dX0_multiply_119 ?_
        rintro _ _ ⟨rfl, rfl⟩
        exact gT_iret C hr (Nat.le_of_ble_eq_true rfl) (Nat.le_of_ble_eq_true rfl) ⟨t, i, j, ht6, hi, hj, rfl, rfl, rfl, Or.inr ⟨hz1, hz2, by omega, rfl, rfl⟩⟩ dX0_multiply_122
set_option maxRecDepth 100000 in
set_option maxHeartbeats 4000000 in
theorem c_sum {l : Launch} (hl : l.stackTraces = false) {D : va_G} {tys : List (ClassId × FieldType)} {N : Nat} {ad : Nat → Nat} {ct : Nat → va_E} (hN : 20 ≤ N) {cJ cQ : ClassId} {p : Nat} {wn : Nat → Nat} {Mr Nw : Nat → Nat → Nat} (S : stX cJ cQ ad p wn Mr Nw ct) (ht : tys[0]? = some (cJ, .long)) (ht2 : tys[1]? = some (cQ, .array .long)) (hv : nvX p wn Mr Nw) (x y z : Int32) :
    gTi l yX0_sum wsX0_sum rmu 4 24 D vwCl tys N ad [.ref (ad 0), .int x, .int y, .int z] ct (fun r ct1 => ∃ t i j, t < 6 ∧ i < 6 ∧ j < 6 ∧ x = nI t ∧ y = nI i ∧ z = nI j ∧ cy (Nw i) (Nw j) 240 = 0 ∧ r = nI (up1 (sw1 (Nw i) (Nw j)) 240) ∧ ct1 = va_up (va_up ct 19 (LN cJ 240 (sw1 (Nw i) (Nw j)))) (10 + t) (LN cJ 240 (sw1 (Nw i) (Nw j)))) (fun E ct1 => (ct1 = ct ∧ E = xIO ∧ ¬ (ir x 6 ∧ ir y 6 ∧ ir z 6)) ∨ (E = xUO ∧ ∃ t i j, t < 6 ∧ i < 6 ∧ j < 6 ∧ x = nI t ∧ y = nI i ∧ z = nI j ∧ cy (Nw i) (Nw j) 240 ≠ 0 ∧ ct1 = va_up ct 19 (LN cJ 240 (sw1 (Nw i) (Nw j))))) := by
  refine gofT_i (cc := cX0_sum) (maxL := 4) (by decide) rfl (Nat.le_of_ble_eq_true rfl) ?_
  intro M sz C hlM hRM hr hT hE
  have h0 : 0 < N := by omega
  have hp1 := hv.1
  have hp2 := hv.2.1
  refine g_iload_n C dX0_sum_0 (k := ?_)
  refine gT_cSv (rmy := rck) (n := 1) (av := [.int x]) C hT hE (by rw [hlM]; exact c_checkNatural hl x) gX0_sum_X0_checkNatural rfl ⟨rfl, rfl⟩ (by rw [hRM]; exact ⟨Nat.le_of_ble_eq_true rfl, Nat.le_of_ble_eq_true rfl⟩) (by rw [hRM]; exact ⟨Nat.le_of_ble_eq_true rfl, Nat.le_of_ble_eq_true rfl⟩) (Nat.le_of_ble_eq_true rfl) (by decide +kernel) rfl dX0_sum_1 (Nat.le_of_ble_eq_true rfl) (Nat.le_of_ble_eq_true rfl) (by intro E c q; exact Or.inl ⟨q.2.1, q.1, fun z => q.2.2 z.1⟩) ?_
  rintro ct ⟨rfl, t, ht6, rfl⟩
  refine g_iload_n C dX0_sum_4 (k := ?_)
  refine gT_cSv (rmy := rck) (n := 1) (av := [.int y]) C hT hE (by rw [hlM]; exact c_checkNatural hl y) gX0_sum_X0_checkNatural rfl ⟨rfl, rfl⟩ (by rw [hRM]; exact ⟨Nat.le_of_ble_eq_true rfl, Nat.le_of_ble_eq_true rfl⟩) (by rw [hRM]; exact ⟨Nat.le_of_ble_eq_true rfl, Nat.le_of_ble_eq_true rfl⟩) (Nat.le_of_ble_eq_true rfl) (by decide +kernel) rfl dX0_sum_5 (Nat.le_of_ble_eq_true rfl) (Nat.le_of_ble_eq_true rfl) (by intro E c q; exact Or.inl ⟨q.2.1, q.1, fun z => q.2.2 z.2.1⟩) ?_
  rintro ct ⟨rfl, i, hi, rfl⟩
  refine g_iload_n C dX0_sum_8 (k := ?_)
  refine gT_cSv (rmy := rck) (n := 1) (av := [.int z]) C hT hE (by rw [hlM]; exact c_checkNatural hl z) gX0_sum_X0_checkNatural rfl ⟨rfl, rfl⟩ (by rw [hRM]; exact ⟨Nat.le_of_ble_eq_true rfl, Nat.le_of_ble_eq_true rfl⟩) (by rw [hRM]; exact ⟨Nat.le_of_ble_eq_true rfl, Nat.le_of_ble_eq_true rfl⟩) (Nat.le_of_ble_eq_true rfl) (by decide +kernel) rfl dX0_sum_9 (Nat.le_of_ble_eq_true rfl) (Nat.le_of_ble_eq_true rfl) (by intro E c q; exact Or.inl ⟨q.2.1, q.1, fun z => q.2.2 z.2.2⟩) ?_
  rintro ct ⟨rfl, j, hj, rfl⟩
  have hirow := S.2.2.2.2.2.1 i hi
  have hjrow := S.2.2.2.2.2.1 j hj
  have htrow := S.2.2.2.2.2.1 t ht6
  obtain ⟨z0, ez⟩ := S.2.2.2.2.2.2.2.2.2
  have hcy := cy_lt (hv.2.2.2.2 i · hi) (hv.2.2.2.2 j · hj) 240
  refine g_aload_n C dX0_sum_12 (k := ?_)
  refine g_aload_n C dX0_sum_13 (k := ?_)
  refine g_getf (Cn := RX0) (T := TX0) (n := 8) (ref := "WheelProducts") C 0 3 h0 S.1 rfl (by decide +kernel) (by decide) (by decide +kernel) (fun _ h => h) rfl dX0_sum_14 ?_
  refine g_iload_n C dX0_sum_17 (k := ?_)
  refine g_aald C 9 1 (by omega) S.2.2.2.2.1 ht2 rfl hi (by decide) (if_pos hi) dX0_sum_18 ?_
  refine g_aload_n C dX0_sum_19 (k := ?_)
  refine g_getf (Cn := RX0) (T := TX0) (n := 8) (ref := "WheelProducts") C 0 3 h0 S.1 rfl (by decide +kernel) (by decide) (by decide +kernel) (fun _ h => h) rfl dX0_sum_20 ?_
  refine g_iload_n C dX0_sum_23 (k := ?_)
  refine g_aald C 9 1 (by omega) S.2.2.2.2.1 ht2 rfl hj (by decide) (if_pos hj) dX0_sum_24 ?_
  refine g_cVl (n := 2) (av := [.ref (ad (10 + i)), .ref (ad (10 + j))]) C 0 h0 S.1 rfl (by rw [hlM]; exact c_addWords l hN (by omega) (by omega) S.1 hirow hjrow ez ht (fun k => hv.2.2.2.2 i k hi) (fun k => hv.2.2.2.2 j k hj)) gX0_sum_X0_addWords rfl ⟨rfl, rfl⟩ (by rw [hRM]; exact ⟨Nat.le_of_ble_eq_true rfl, Nat.le_of_ble_eq_true rfl⟩) (by rw [hRM]; exact ⟨Nat.le_of_ble_eq_true rfl, Nat.le_of_ble_eq_true rfl⟩) (Nat.le_of_ble_eq_true rfl) (by decide +kernel) rfl dX0_sum_25 ?_
  rintro _ _ ⟨rfl, rfl⟩
  refine g_lconst C (lN 0) dX0_sum_28 (k := ?_)
  by_cases hz : cy (Nw i) (Nw j) 240 = 0
  · refine g_lcN_eq (tgt := 43) C (by omega) (by decide) dX0_sum_29 dX0_sum_30 (by decide) (fun _ => ?_) (fun h => absurd hz h)
    refine g_aload_n C dX0_sum_43 (k := ?_)
    refine g_getf (Cn := RX0) (T := TX0) (n := 8) (ref := "WheelProducts") C 0 7 h0 (by (repeat rw [va_up_ne _ _ (by omega)]); exact S.1) rfl (by decide +kernel) (by decide) (by decide +kernel) (fun _ h => h) rfl dX0_sum_44 ?_
    refine g_iconst C 0 dX0_sum_47 (k := ?_)
    refine g_aload_n C dX0_sum_48 (k := ?_)
    refine g_getf (Cn := RX0) (T := TX0) (n := 8) (ref := "WheelProducts") C 0 3 h0 (by (repeat rw [va_up_ne _ _ (by omega)]); exact S.1) rfl (by decide +kernel) (by decide) (by decide +kernel) (fun _ h => h) rfl dX0_sum_49 ?_
    refine g_iload_n C dX0_sum_52 (k := ?_)
    refine g_aald C 9 1 (by omega) (by (repeat rw [va_up_ne _ _ (by omega)]); exact S.2.2.2.2.1) ht2 rfl ht6 (by decide) (if_pos ht6) dX0_sum_53 ?_
    refine g_iconst C 0 dX0_sum_54 (k := ?_)
    refine g_sipush C (nI 240) dX0_sum_55 (k := ?_)
    refine g_acopy C (by decide +kernel) (by decide +kernel) (by decide +kernel) (by decide +kernel) 19 (10 + t) 0 (by omega) (by omega) (va_up_self _ _ _) (by rw [va_up_ne _ _ (by omega)]; exact htrow) ht (Nat.le_refl 240) (Nat.le_refl 240) (by decide) (by rw [hRM]; exact Nat.le_of_ble_eq_true rfl) (by rw [hRM]; exact Nat.le_of_ble_eq_true rfl) dX0_sum_58 ?_
    rw [cp_lN]
    refine g_ext (10 + t) (va_up_self _ _ _) (g := fun k => lN ((sw1 (Nw i) (Nw j)) k)) (fun k hk => by show lN (cpN _ _ 240 k) = _; unfold cpN; rw [if_pos hk]) ?_
    rw [bx_uu]
    refine g_aload_n C dX0_sum_61 (k := ?_)
    refine g_getf (Cn := RX0) (T := TX0) (n := 8) (ref := "WheelProducts") C 0 7 h0 (by (repeat rw [va_up_ne _ _ (by omega)]); exact S.1) rfl (by decide +kernel) (by decide) (by decide +kernel) (fun _ h => h) rfl dX0_sum_62 ?_
    refine g_cSi (n := 1) (av := [.ref (ad 19)]) C (by rw [hlM]; exact c_usedPart l (v := sw1 (Nw i) (Nw j)) (n := 240) (by omega) (by rw [va_up_ne _ _ (by omega), va_up_self]) ht (by decide) (fun k _ => Nat.lt_trans (show sw1 (Nw i) (Nw j) k < 4294967296 from Nat.mod_lt _ (by decide)) (by decide))) gX0_sum_X0_usedPart rfl ⟨rfl, rfl⟩ (by rw [hRM]; exact ⟨Nat.le_of_ble_eq_true rfl, Nat.le_of_ble_eq_true rfl⟩) (by rw [hRM]; exact ⟨Nat.le_of_ble_eq_true rfl, Nat.le_of_ble_eq_true rfl⟩) (Nat.le_of_ble_eq_true rfl) (by decide +kernel) rfl dX0_sum_65 ?_
    rintro _ _ ⟨rfl, rfl⟩
    exact gT_iret C hr (Nat.le_of_ble_eq_true rfl) (Nat.le_of_ble_eq_true rfl) ⟨t, i, j, ht6, hi, hj, rfl, rfl, rfl, hz, rfl, rfl⟩ dX0_sum_68
  · refine g_lcN_eq (tgt := 43) C (by omega) (by decide) dX0_sum_29 dX0_sum_30 (by decide) (fun h => absurd h hz) (fun _ => ?_)
    exact g_throwS (E := xUO) (text := "the sum has more than 240 words") C hT (by rw [hlM]; exact hl) hE rfl (by decide +kernel) (by decide +kernel) (by decide +kernel) (by decide +kernel) (by decide +kernel) (by decide +kernel) (by decide +kernel) dX0_sum_33 dX0_sum_36 dX0_sum_37 dX0_sum_39 dX0_sum_42 (by rw [hRM]; exact (Nat.le_of_ble_eq_true rfl)) (by rw [hRM]; exact (Nat.le_of_ble_eq_true rfl)) (by rw [hRM]; exact (Nat.le_of_ble_eq_true rfl)) (by rw [hRM]; exact (Nat.le_of_ble_eq_true rfl)) (Nat.le_of_ble_eq_true rfl) (Nat.le_of_ble_eq_true rfl) (Or.inr ⟨rfl, t, i, j, ht6, hi, hj, rfl, rfl, rfl, hz, rfl⟩)
