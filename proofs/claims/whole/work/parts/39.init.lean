abbrev riX0 : Room := { frames := 2, cells := 19, slots := 6309, locals := 60 }
set_option maxRecDepth 100000 in
set_option maxHeartbeats 4000000 in
theorem c_init (l : Launch) {D : va_G} {tys : List (ClassId × FieldType)} {ad : Nat → Nat} {ct : Nat → va_E} {cJ cQ : ClassId} (h0 : ct 0 = .inr (0, [.long (lN 0), .null, .null, .null, .null, .null, .null, .null])) (ht : tys[0]? = some (cJ, .long)) (ht2 : tys[1]? = some (cQ, .array .long)) :
    gI l yX0_init wsX0_init riX0 19 6309 D vwCl tys 1 20 ad [.ref (ad 0)] ct (fun u => u.1 0 = ad 0 ∧ stX cJ cQ u.1 998244353 (wl 998244353 3) (fun _ _ => 0) (fun _ _ => 0) u.2) := by
  refine gofI (cc := cX0_init) (maxL := 1) (by decide) rfl rfl (Nat.le_of_ble_eq_true rfl) ?_
  intro M sz C hlM hRM hr hnm hAO
  refine g_aload_n C dX0_init_0 (k := ?_)
  refine g_objInit C (by decide +kernel) (by decide +kernel) (by decide +kernel) (by rw [hRM]; exact Nat.le_of_ble_eq_true rfl) (by rw [hRM]; exact Nat.le_of_ble_eq_true rfl) dX0_init_1 ?_
  refine g_aload_n C dX0_init_4 (k := ?_)
  refine g_sipush C (nI 512) dX0_init_5 (k := ?_)
  refine g_newl C ht (by decide +kernel) (by decide) (by decide) (by decide) (by rw [hRM]; exact Nat.le_of_ble_eq_true rfl) (by rw [hRM]; exact Nat.le_of_ble_eq_true rfl) dX0_init_8 (fun ad1 h1 => ?_)
  have hz1 : ad1 0 = ad 0 := h1 0 (by decide)
  refine g_putfF (Cn := RX0) (T := TX0) (n := 8) (ref := "WheelProducts") (ty := .array .long) C 0 1 (by decide) (fs := [.long (lN 0), .null, .null, .null, .null, .null, .null, .null]) (by rw [va_up_ne _ _ (by decide)]; exact h0) rfl (by decide +kernel) tyX0 tyX0_ok nmX0 (by decide) (by decide +kernel) (fun _ h => h) rfl hnm rfl (by decide +kernel) rfl rfl (Nat.le_of_ble_eq_true rfl) hz1 dX0_init_10 ?_
  refine g_ct (ct' := (va_up (va_up ct 1 (LN cJ 512 (fun _ => 0))) 0 (.inr (0, [.long (lN 0), .ref (ad1 1), .null, .null, .null, .null, .null, .null])))) rfl ?_
  refine g_aload_n C dX0_init_13 (k := ?_)
  refine g_bipush C (nI 6) dX0_init_14 (k := ?_)
  refine g_sipush C (nI 512) dX0_init_16 (k := ?_)
  refine g_mna C ht ht2 (by decide +kernel) hAO (by decide +kernel) (by decide) (by decide) (by decide) (by decide) (by rw [hRM]; exact Nat.le_of_ble_eq_true rfl) (by rw [hRM]; exact Nat.le_of_ble_eq_true rfl) dX0_init_19 (fun ad2 h2 => ?_)
  have hz2 : ad2 0 = ad 0 := (h2 0 (by decide)).trans hz1
  refine g_putfF (Cn := RX0) (T := TX0) (n := 8) (ref := "WheelProducts") (ty := .array (.array .long)) C 0 2 (by decide) (fs := [.long (lN 0), .ref (ad1 1), .null, .null, .null, .null, .null, .null]) (by first | rfl | (unfold gN7; rfl)) rfl (by decide +kernel) tyX0 tyX0_ok nmX0 (by decide) (by decide +kernel) (fun _ h => h) rfl hnm rfl (by decide +kernel) rfl rfl (Nat.le_of_ble_eq_true rfl) hz2 dX0_init_23 ?_
  refine g_ct (ct' := (va_up (gN7 cJ cQ 512 2 ad2 (va_up (va_up ct 1 (LN cJ 512 (fun _ => 0))) 0 (.inr (0, [.long (lN 0), .ref (ad1 1), .null, .null, .null, .null, .null, .null])))) 0 (.inr (0, [.long (lN 0), .ref (ad1 1), .ref (ad2 2), .null, .null, .null, .null, .null])))) rfl ?_
  refine g_aload_n C dX0_init_26 (k := ?_)
  refine g_bipush C (nI 6) dX0_init_27 (k := ?_)
  refine g_sipush C (nI 240) dX0_init_29 (k := ?_)
  refine g_mna C ht ht2 (by decide +kernel) hAO (by decide +kernel) (by decide) (by decide) (by decide) (by decide) (by rw [hRM]; exact Nat.le_of_ble_eq_true rfl) (by rw [hRM]; exact Nat.le_of_ble_eq_true rfl) dX0_init_32 (fun ad3 h3 => ?_)
  have hz3 : ad3 0 = ad 0 := (h3 0 (by decide)).trans hz2
  refine g_putfF (Cn := RX0) (T := TX0) (n := 8) (ref := "WheelProducts") (ty := .array (.array .long)) C 0 3 (by decide) (fs := [.long (lN 0), .ref (ad1 1), .ref (ad2 2), .null, .null, .null, .null, .null]) (by first | rfl | (unfold gN7; rfl)) rfl (by decide +kernel) tyX0 tyX0_ok nmX0 (by decide) (by decide +kernel) (fun _ h => h) rfl hnm rfl (by decide +kernel) rfl rfl (Nat.le_of_ble_eq_true rfl) hz3 dX0_init_36 ?_
  refine g_ct (ct' := (va_up (gN7 cJ cQ 240 9 ad3 (va_up (gN7 cJ cQ 512 2 ad2 (va_up (va_up ct 1 (LN cJ 512 (fun _ => 0))) 0 (.inr (0, [.long (lN 0), .ref (ad1 1), .null, .null, .null, .null, .null, .null])))) 0 (.inr (0, [.long (lN 0), .ref (ad1 1), .ref (ad2 2), .null, .null, .null, .null, .null])))) 0 (.inr (0, [.long (lN 0), .ref (ad1 1), .ref (ad2 2), .ref (ad3 9), .null, .null, .null, .null])))) rfl ?_
  refine g_aload_n C dX0_init_39 (k := ?_)
  refine g_bipush C (nI 9) dX0_init_40 (k := ?_)
  refine g_newl C ht (by decide +kernel) (by decide) (by decide) (by decide) (by rw [hRM]; exact Nat.le_of_ble_eq_true rfl) (by rw [hRM]; exact Nat.le_of_ble_eq_true rfl) dX0_init_42 (fun ad4 h4 => ?_)
  have hz4 : ad4 0 = ad 0 := (h4 0 (by decide)).trans hz3
  refine g_putfF (Cn := RX0) (T := TX0) (n := 8) (ref := "WheelProducts") (ty := .array .long) C 0 4 (by decide) (fs := [.long (lN 0), .ref (ad1 1), .ref (ad2 2), .ref (ad3 9), .null, .null, .null, .null]) (by first | rfl | (unfold gN7; rfl)) rfl (by decide +kernel) tyX0 tyX0_ok nmX0 (by decide) (by decide +kernel) (fun _ h => h) rfl hnm rfl (by decide +kernel) rfl rfl (Nat.le_of_ble_eq_true rfl) hz4 dX0_init_44 ?_
  refine g_ct (ct' := (va_up (va_up (va_up (gN7 cJ cQ 240 9 ad3 (va_up (gN7 cJ cQ 512 2 ad2 (va_up (va_up ct 1 (LN cJ 512 (fun _ => 0))) 0 (.inr (0, [.long (lN 0), .ref (ad1 1), .null, .null, .null, .null, .null, .null])))) 0 (.inr (0, [.long (lN 0), .ref (ad1 1), .ref (ad2 2), .null, .null, .null, .null, .null])))) 0 (.inr (0, [.long (lN 0), .ref (ad1 1), .ref (ad2 2), .ref (ad3 9), .null, .null, .null, .null]))) 16 (LN cJ 9 (fun _ => 0))) 0 (.inr (0, [.long (lN 0), .ref (ad1 1), .ref (ad2 2), .ref (ad3 9), .ref (ad4 16), .null, .null, .null])))) rfl ?_
  refine g_aload_n C dX0_init_47 (k := ?_)
  refine g_sipush C (nI 512) dX0_init_48 (k := ?_)
  refine g_newl C ht (by decide +kernel) (by decide) (by decide) (by decide) (by rw [hRM]; exact Nat.le_of_ble_eq_true rfl) (by rw [hRM]; exact Nat.le_of_ble_eq_true rfl) dX0_init_51 (fun ad5 h5 => ?_)
  have hz5 : ad5 0 = ad 0 := (h5 0 (by decide)).trans hz4
  refine g_putfF (Cn := RX0) (T := TX0) (n := 8) (ref := "WheelProducts") (ty := .array .long) C 0 5 (by decide) (fs := [.long (lN 0), .ref (ad1 1), .ref (ad2 2), .ref (ad3 9), .ref (ad4 16), .null, .null, .null]) (by first | rfl | (unfold gN7; rfl)) rfl (by decide +kernel) tyX0 tyX0_ok nmX0 (by decide) (by decide +kernel) (fun _ h => h) rfl hnm rfl (by decide +kernel) rfl rfl (Nat.le_of_ble_eq_true rfl) hz5 dX0_init_53 ?_
  refine g_ct (ct' := (va_up (va_up (va_up (va_up (va_up (gN7 cJ cQ 240 9 ad3 (va_up (gN7 cJ cQ 512 2 ad2 (va_up (va_up ct 1 (LN cJ 512 (fun _ => 0))) 0 (.inr (0, [.long (lN 0), .ref (ad1 1), .null, .null, .null, .null, .null, .null])))) 0 (.inr (0, [.long (lN 0), .ref (ad1 1), .ref (ad2 2), .null, .null, .null, .null, .null])))) 0 (.inr (0, [.long (lN 0), .ref (ad1 1), .ref (ad2 2), .ref (ad3 9), .null, .null, .null, .null]))) 16 (LN cJ 9 (fun _ => 0))) 0 (.inr (0, [.long (lN 0), .ref (ad1 1), .ref (ad2 2), .ref (ad3 9), .ref (ad4 16), .null, .null, .null]))) 17 (LN cJ 512 (fun _ => 0))) 0 (.inr (0, [.long (lN 0), .ref (ad1 1), .ref (ad2 2), .ref (ad3 9), .ref (ad4 16), .ref (ad5 17), .null, .null])))) rfl ?_
  refine g_aload_n C dX0_init_56 (k := ?_)
  refine g_sipush C (nI 512) dX0_init_57 (k := ?_)
  refine g_newl C ht (by decide +kernel) (by decide) (by decide) (by decide) (by rw [hRM]; exact Nat.le_of_ble_eq_true rfl) (by rw [hRM]; exact Nat.le_of_ble_eq_true rfl) dX0_init_60 (fun ad6 h6 => ?_)
  have hz6 : ad6 0 = ad 0 := (h6 0 (by decide)).trans hz5
  refine g_putfF (Cn := RX0) (T := TX0) (n := 8) (ref := "WheelProducts") (ty := .array .long) C 0 6 (by decide) (fs := [.long (lN 0), .ref (ad1 1), .ref (ad2 2), .ref (ad3 9), .ref (ad4 16), .ref (ad5 17), .null, .null]) (by first | rfl | (unfold gN7; rfl)) rfl (by decide +kernel) tyX0 tyX0_ok nmX0 (by decide) (by decide +kernel) (fun _ h => h) rfl hnm rfl (by decide +kernel) rfl rfl (Nat.le_of_ble_eq_true rfl) hz6 dX0_init_62 ?_
  refine g_ct (ct' := (va_up (va_up (va_up (va_up (va_up (va_up (va_up (gN7 cJ cQ 240 9 ad3 (va_up (gN7 cJ cQ 512 2 ad2 (va_up (va_up ct 1 (LN cJ 512 (fun _ => 0))) 0 (.inr (0, [.long (lN 0), .ref (ad1 1), .null, .null, .null, .null, .null, .null])))) 0 (.inr (0, [.long (lN 0), .ref (ad1 1), .ref (ad2 2), .null, .null, .null, .null, .null])))) 0 (.inr (0, [.long (lN 0), .ref (ad1 1), .ref (ad2 2), .ref (ad3 9), .null, .null, .null, .null]))) 16 (LN cJ 9 (fun _ => 0))) 0 (.inr (0, [.long (lN 0), .ref (ad1 1), .ref (ad2 2), .ref (ad3 9), .ref (ad4 16), .null, .null, .null]))) 17 (LN cJ 512 (fun _ => 0))) 0 (.inr (0, [.long (lN 0), .ref (ad1 1), .ref (ad2 2), .ref (ad3 9), .ref (ad4 16), .ref (ad5 17), .null, .null]))) 18 (LN cJ 512 (fun _ => 0))) 0 (.inr (0, [.long (lN 0), .ref (ad1 1), .ref (ad2 2), .ref (ad3 9), .ref (ad4 16), .ref (ad5 17), .ref (ad6 18), .null])))) rfl ?_
  refine g_aload_n C dX0_init_65 (k := ?_)
  refine g_sipush C (nI 240) dX0_init_66 (k := ?_)
  refine g_newl C ht (by decide +kernel) (by decide) (by decide) (by decide) (by rw [hRM]; exact Nat.le_of_ble_eq_true rfl) (by rw [hRM]; exact Nat.le_of_ble_eq_true rfl) dX0_init_69 (fun ad7 h7 => ?_)
  have hz7 : ad7 0 = ad 0 := (h7 0 (by decide)).trans hz6
  refine g_putfF (Cn := RX0) (T := TX0) (n := 8) (ref := "WheelProducts") (ty := .array .long) C 0 7 (by decide) (fs := [.long (lN 0), .ref (ad1 1), .ref (ad2 2), .ref (ad3 9), .ref (ad4 16), .ref (ad5 17), .ref (ad6 18), .null]) (by first | rfl | (unfold gN7; rfl)) rfl (by decide +kernel) tyX0 tyX0_ok nmX0 (by decide) (by decide +kernel) (fun _ h => h) rfl hnm rfl (by decide +kernel) rfl rfl (Nat.le_of_ble_eq_true rfl) hz7 dX0_init_71 ?_
  refine g_ct (ct' := (va_up (va_up (va_up (va_up (va_up (va_up (va_up (va_up (va_up (gN7 cJ cQ 240 9 ad3 (va_up (gN7 cJ cQ 512 2 ad2 (va_up (va_up ct 1 (LN cJ 512 (fun _ => 0))) 0 (.inr (0, [.long (lN 0), .ref (ad1 1), .null, .null, .null, .null, .null, .null])))) 0 (.inr (0, [.long (lN 0), .ref (ad1 1), .ref (ad2 2), .null, .null, .null, .null, .null])))) 0 (.inr (0, [.long (lN 0), .ref (ad1 1), .ref (ad2 2), .ref (ad3 9), .null, .null, .null, .null]))) 16 (LN cJ 9 (fun _ => 0))) 0 (.inr (0, [.long (lN 0), .ref (ad1 1), .ref (ad2 2), .ref (ad3 9), .ref (ad4 16), .null, .null, .null]))) 17 (LN cJ 512 (fun _ => 0))) 0 (.inr (0, [.long (lN 0), .ref (ad1 1), .ref (ad2 2), .ref (ad3 9), .ref (ad4 16), .ref (ad5 17), .null, .null]))) 18 (LN cJ 512 (fun _ => 0))) 0 (.inr (0, [.long (lN 0), .ref (ad1 1), .ref (ad2 2), .ref (ad3 9), .ref (ad4 16), .ref (ad5 17), .ref (ad6 18), .null]))) 19 (LN cJ 240 (fun _ => 0))) 0 (.inr (0, [.long (lN 0), .ref (ad1 1), .ref (ad2 2), .ref (ad3 9), .ref (ad4 16), .ref (ad5 17), .ref (ad6 18), .ref (ad7 19)])))) rfl ?_
  generalize hct : (va_up (va_up (va_up (va_up (va_up (va_up (va_up (va_up (va_up (gN7 cJ cQ 240 9 ad3 (va_up (gN7 cJ cQ 512 2 ad2 (va_up (va_up ct 1 (LN cJ 512 (fun _ => 0))) 0 (.inr (0, [.long (lN 0), .ref (ad1 1), .null, .null, .null, .null, .null, .null])))) 0 (.inr (0, [.long (lN 0), .ref (ad1 1), .ref (ad2 2), .null, .null, .null, .null, .null])))) 0 (.inr (0, [.long (lN 0), .ref (ad1 1), .ref (ad2 2), .ref (ad3 9), .null, .null, .null, .null]))) 16 (LN cJ 9 (fun _ => 0))) 0 (.inr (0, [.long (lN 0), .ref (ad1 1), .ref (ad2 2), .ref (ad3 9), .ref (ad4 16), .null, .null, .null]))) 17 (LN cJ 512 (fun _ => 0))) 0 (.inr (0, [.long (lN 0), .ref (ad1 1), .ref (ad2 2), .ref (ad3 9), .ref (ad4 16), .ref (ad5 17), .null, .null]))) 18 (LN cJ 512 (fun _ => 0))) 0 (.inr (0, [.long (lN 0), .ref (ad1 1), .ref (ad2 2), .ref (ad3 9), .ref (ad4 16), .ref (ad5 17), .ref (ad6 18), .null]))) 19 (LN cJ 240 (fun _ => 0))) 0 (.inr (0, [.long (lN 0), .ref (ad1 1), .ref (ad2 2), .ref (ad3 9), .ref (ad4 16), .ref (ad5 17), .ref (ad6 18), .ref (ad7 19)]))) = ct7
  have c1 : ad7 1 = ad1 1 := (((((h7 1 (by decide)).trans (h6 1 (by decide))).trans (h5 1 (by decide))).trans (h4 1 (by decide))).trans (h3 1 (by decide))).trans (h2 1 (by decide))
  have c2 : ad7 2 = ad2 2 := ((((h7 2 (by decide)).trans (h6 2 (by decide))).trans (h5 2 (by decide))).trans (h4 2 (by decide))).trans (h3 2 (by decide))
  have c9 : ad7 9 = ad3 9 := (((h7 9 (by decide)).trans (h6 9 (by decide))).trans (h5 9 (by decide))).trans (h4 9 (by decide))
  have c16 : ad7 16 = ad4 16 := ((h7 16 (by decide)).trans (h6 16 (by decide))).trans (h5 16 (by decide))
  have c17 : ad7 17 = ad5 17 := (h7 17 (by decide)).trans (h6 17 (by decide))
  have c18 : ad7 18 = ad6 18 := h7 18 (by decide)
  have hr2 : gRow ad2 3 = gRow ad7 3 := by
    funext i
    show (if i < 6 then some (ad2 (3 + i)) else none) = if i < 6 then some (ad7 (3 + i)) else none
    by_cases hi : i < 6
    · rw [if_pos hi, if_pos hi, h7 (3 + i) (by omega), h6 (3 + i) (by omega), h5 (3 + i) (by omega), h4 (3 + i) (by omega), h3 (3 + i) (by omega)]
    · rw [if_neg hi, if_neg hi]
  have hr3 : gRow ad3 10 = gRow ad7 10 := by
    funext i
    show (if i < 6 then some (ad3 (10 + i)) else none) = if i < 6 then some (ad7 (10 + i)) else none
    by_cases hi : i < 6
    · rw [if_pos hi, if_pos hi, h7 (10 + i) (by omega), h6 (10 + i) (by omega), h5 (10 + i) (by omega), h4 (10 + i) (by omega)]
    · rw [if_neg hi, if_neg hi]
  have e0 : ct7 0 = obX 0 ad7 := by
    rw [← hct, va_up_self]
    show _ = (.inr (0, [.long (lN 0), .ref (ad7 1), .ref (ad7 2), .ref (ad7 9), .ref (ad7 16), .ref (ad7 17), .ref (ad7 18), .ref (ad7 19)]) : va_E)
    rw [c1, c2, c9, c16, c17, c18]
  have e1 : ct7 1 = LN cJ 512 (fun _ => 0) := by rw [← hct]; rfl
  have e2 : ct7 2 = QA cQ 6 (gRow ad7 3) := by rw [← hct, ← hr2]; rfl
  have e3 : ∀ i, i < 6 → ct7 (3 + i) = LN cJ 512 (fun _ => 0) := by
    intro i hi
    rw [← hct]
    rcases (show i = 0 ∨ i = 1 ∨ i = 2 ∨ i = 3 ∨ i = 4 ∨ i = 5 by omega) with rfl | rfl | rfl | rfl | rfl | rfl <;> rfl
  have e9 : ct7 9 = QA cQ 6 (gRow ad7 10) := by rw [← hct, ← hr3]; rfl
  have e10 : ∀ i, i < 6 → ct7 (10 + i) = LN cJ 240 (fun _ => 0) := by
    intro i hi
    rw [← hct]
    rcases (show i = 0 ∨ i = 1 ∨ i = 2 ∨ i = 3 ∨ i = 4 ∨ i = 5 by omega) with rfl | rfl | rfl | rfl | rfl | rfl <;> rfl
  have e16 : ct7 16 = LN cJ 9 (fun _ => 0) := by rw [← hct]; rfl
  have e17 : ct7 17 = LN cJ 512 (fun _ => 0) := by rw [← hct]; rfl
  have e18 : ct7 18 = LN cJ 512 (fun _ => 0) := by rw [← hct]; rfl
  have e19 : ct7 19 = LN cJ 240 (fun _ => 0) := by rw [← hct]; rfl
  clear hct
  refine g_aload_n C dX0_init_74 (k := ?_)
  refine g_ldc2 C (v := lN 998244353) (by decide +kernel) dX0_init_75 ?_
  refine g_ldc2 C (v := lN 3) (by decide +kernel) dX0_init_78 ?_
  refine g_st (st' := [.long (lN 3), .long (lN 998244353), .ref (ad7 0)]) (by rw [hz7]) ?_
  refine g_cVv (n := 2) (av := [.long (lN 998244353), .long (lN 3)]) (rest := []) C 0 (by decide) e0 rfl (by rw [hlM]; exact c_usePrime l (Nat.le_refl 20) e0 e1 ht (by decide) (by decide) (by decide)) gX0_init_X0_usePrime rfl ⟨rfl, rfl⟩ (by rw [hRM]; exact ⟨Nat.le_of_ble_eq_true rfl, Nat.le_of_ble_eq_true rfl⟩) (by rw [hRM]; exact ⟨Nat.le_of_ble_eq_true rfl, Nat.le_of_ble_eq_true rfl⟩) (Nat.le_of_ble_eq_true rfl) (by decide +kernel) rfl dX0_init_81 ?_
  rintro _ rfl
  refine g_iniret C hr ⟨hz7, ?_⟩ dX0_init_84
  refine ⟨?_, ?_, ?_, ?_, ?_, ?_, ⟨fun _ => 0, ?_⟩, ⟨fun _ => 0, ?_⟩, ⟨fun _ => 0, ?_⟩, ⟨fun _ => 0, ?_⟩⟩
  · show va_up (va_up ct7 0 (obX 998244353 ad7)) 1 (LN cJ 512 (fun k => (3 ^ ((998244353 - 1) / 512) % 998244353) ^ k % 998244353)) 0 = _
    rw [va_up_ne _ _ (by decide), va_up_self]
  · show va_up (va_up ct7 0 (obX 998244353 ad7)) 1 (LN cJ 512 (fun k => (3 ^ ((998244353 - 1) / 512) % 998244353) ^ k % 998244353)) 1 = _
    rw [va_up_self]
    rfl
  · show va_up (va_up ct7 0 (obX 998244353 ad7)) 1 (LN cJ 512 (fun k => (3 ^ ((998244353 - 1) / 512) % 998244353) ^ k % 998244353)) 2 = _
    rw [va_up_ne _ _ (by decide), va_up_ne _ _ (by decide)]; exact e2
  · intro i hi
    show va_up (va_up ct7 0 (obX 998244353 ad7)) 1 (LN cJ 512 (fun k => (3 ^ ((998244353 - 1) / 512) % 998244353) ^ k % 998244353)) (3 + i) = _
    rw [va_up_ne _ _ (by omega), va_up_ne _ _ (by omega)]; exact e3 i hi
  · show va_up (va_up ct7 0 (obX 998244353 ad7)) 1 (LN cJ 512 (fun k => (3 ^ ((998244353 - 1) / 512) % 998244353) ^ k % 998244353)) 9 = _
    rw [va_up_ne _ _ (by decide), va_up_ne _ _ (by decide)]; exact e9
  · intro i hi
    show va_up (va_up ct7 0 (obX 998244353 ad7)) 1 (LN cJ 512 (fun k => (3 ^ ((998244353 - 1) / 512) % 998244353) ^ k % 998244353)) (10 + i) = _
    rw [va_up_ne _ _ (by omega), va_up_ne _ _ (by omega)]; exact e10 i hi
  · show va_up (va_up ct7 0 (obX 998244353 ad7)) 1 (LN cJ 512 (fun k => (3 ^ ((998244353 - 1) / 512) % 998244353) ^ k % 998244353)) 16 = _
    rw [va_up_ne _ _ (by decide), va_up_ne _ _ (by decide)]; exact e16
  · show va_up (va_up ct7 0 (obX 998244353 ad7)) 1 (LN cJ 512 (fun k => (3 ^ ((998244353 - 1) / 512) % 998244353) ^ k % 998244353)) 17 = _
    rw [va_up_ne _ _ (by decide), va_up_ne _ _ (by decide)]; exact e17
  · show va_up (va_up ct7 0 (obX 998244353 ad7)) 1 (LN cJ 512 (fun k => (3 ^ ((998244353 - 1) / 512) % 998244353) ^ k % 998244353)) 18 = _
    rw [va_up_ne _ _ (by decide), va_up_ne _ _ (by decide)]; exact e18
  · show va_up (va_up ct7 0 (obX 998244353 ad7)) 1 (LN cJ 512 (fun k => (3 ^ ((998244353 - 1) / 512) % 998244353) ^ k % 998244353)) 19 = _
    rw [va_up_ne _ _ (by decide), va_up_ne _ _ (by decide)]; exact e19
abbrev riX1 : Room := { frames := 3, cells := 5, slots := 5777, locals := 90 }
set_option maxRecDepth 100000 in
set_option maxHeartbeats 4000000 in
theorem m_init (l : Launch) {D : va_G} {tys : List (ClassId × FieldType)} {ad : Nat → Nat} {ct : Nat → va_E} {cJ : ClassId} (h0 : ct 20 = .inr (1, [.int (nI 0), .long (lN 0), .long (lN 0), .null, .null, .null, .null, .null])) (ht : tys[0]? = some (cJ, .long)) :
    gI l yX1_init wsX1_init riX1 5 5777 D vwCl tys 21 26 ad [.ref (ad 20)] ct (fun u => (∀ k, k < 21 → u.1 k = ad k) ∧ (∀ k, k < 20 → u.2 k = ct k) ∧ u.2 20 = obM (nI 0) 998244353 3 u.1 ∧ u.2 21 = LN cJ 3072 (fun _ => 0) ∧ u.2 22 = LN cJ 1440 (fun _ => 0) ∧ u.2 23 = LN cJ 512 (fun _ => 0) ∧ u.2 24 = LN cJ 512 (fun _ => 0) ∧ u.2 25 = LN cJ 241 (fun _ => 0)) := by
  refine gofI (cc := cX1_init) (maxL := 1) (by decide) rfl rfl (Nat.le_of_ble_eq_true rfl) ?_
  intro M sz C hlM hRM hr hnm hAO
  refine g_aload_n C dX1_init_0 (k := ?_)
  refine g_objInit C (by decide +kernel) (by decide +kernel) (by decide +kernel) (by rw [hRM]; exact Nat.le_of_ble_eq_true rfl) (by rw [hRM]; exact Nat.le_of_ble_eq_true rfl) dX1_init_1 ?_
  refine g_aload_n C dX1_init_4 (k := ?_)
  refine g_sipush C (nI 3072) dX1_init_5 (k := ?_)
  refine g_newl C ht (by decide +kernel) (by decide) (by decide) (by decide) (by rw [hRM]; exact Nat.le_of_ble_eq_true rfl) (by rw [hRM]; exact Nat.le_of_ble_eq_true rfl) dX1_init_8 (fun ad1 h1 => ?_)
  have hz1 : ad1 20 = ad 20 := h1 20 (by decide)
  refine g_putfF (Cn := RX1) (T := TX1) (n := 8) (ref := "WheelProductsModel") (ty := .array .long) C 20 3 (by decide) (fs := [.int (nI 0), .long (lN 0), .long (lN 0), .null, .null, .null, .null, .null]) (by rw [va_up_ne _ _ (by decide)]; exact h0) rfl (by decide +kernel) tyX1 tyX1_ok nmX1 (by decide) (by decide +kernel) (fun _ h => h) rfl hnm rfl (by decide +kernel) rfl rfl (Nat.le_of_ble_eq_true rfl) hz1 dX1_init_10 ?_
  refine g_ct (ct' := (va_up (va_up ct 21 (LN cJ 3072 (fun _ => 0))) 20 (.inr (1, [.int (nI 0), .long (lN 0), .long (lN 0), .ref (ad1 21), .null, .null, .null, .null])))) rfl ?_
  refine g_aload_n C dX1_init_13 (k := ?_)
  refine g_sipush C (nI 1440) dX1_init_14 (k := ?_)
  refine g_newl C ht (by decide +kernel) (by decide) (by decide) (by decide) (by rw [hRM]; exact Nat.le_of_ble_eq_true rfl) (by rw [hRM]; exact Nat.le_of_ble_eq_true rfl) dX1_init_17 (fun ad2 h2 => ?_)
  have hz2 : ad2 20 = ad 20 := (h2 20 (by decide)).trans hz1
  refine g_putfF (Cn := RX1) (T := TX1) (n := 8) (ref := "WheelProductsModel") (ty := .array .long) C 20 4 (by decide) (fs := [.int (nI 0), .long (lN 0), .long (lN 0), .ref (ad1 21), .null, .null, .null, .null]) rfl rfl (by decide +kernel) tyX1 tyX1_ok nmX1 (by decide) (by decide +kernel) (fun _ h => h) rfl hnm rfl (by decide +kernel) rfl rfl (Nat.le_of_ble_eq_true rfl) hz2 dX1_init_19 ?_
  refine g_ct (ct' := (va_up (va_up (va_up (va_up ct 21 (LN cJ 3072 (fun _ => 0))) 20 (.inr (1, [.int (nI 0), .long (lN 0), .long (lN 0), .ref (ad1 21), .null, .null, .null, .null]))) 22 (LN cJ 1440 (fun _ => 0))) 20 (.inr (1, [.int (nI 0), .long (lN 0), .long (lN 0), .ref (ad1 21), .ref (ad2 22), .null, .null, .null])))) rfl ?_
  refine g_aload_n C dX1_init_22 (k := ?_)
  refine g_sipush C (nI 512) dX1_init_23 (k := ?_)
  refine g_newl C ht (by decide +kernel) (by decide) (by decide) (by decide) (by rw [hRM]; exact Nat.le_of_ble_eq_true rfl) (by rw [hRM]; exact Nat.le_of_ble_eq_true rfl) dX1_init_26 (fun ad3 h3 => ?_)
  have hz3 : ad3 20 = ad 20 := (h3 20 (by decide)).trans hz2
  refine g_putfF (Cn := RX1) (T := TX1) (n := 8) (ref := "WheelProductsModel") (ty := .array .long) C 20 5 (by decide) (fs := [.int (nI 0), .long (lN 0), .long (lN 0), .ref (ad1 21), .ref (ad2 22), .null, .null, .null]) rfl rfl (by decide +kernel) tyX1 tyX1_ok nmX1 (by decide) (by decide +kernel) (fun _ h => h) rfl hnm rfl (by decide +kernel) rfl rfl (Nat.le_of_ble_eq_true rfl) hz3 dX1_init_28 ?_
  refine g_ct (ct' := (va_up (va_up (va_up (va_up (va_up (va_up ct 21 (LN cJ 3072 (fun _ => 0))) 20 (.inr (1, [.int (nI 0), .long (lN 0), .long (lN 0), .ref (ad1 21), .null, .null, .null, .null]))) 22 (LN cJ 1440 (fun _ => 0))) 20 (.inr (1, [.int (nI 0), .long (lN 0), .long (lN 0), .ref (ad1 21), .ref (ad2 22), .null, .null, .null]))) 23 (LN cJ 512 (fun _ => 0))) 20 (.inr (1, [.int (nI 0), .long (lN 0), .long (lN 0), .ref (ad1 21), .ref (ad2 22), .ref (ad3 23), .null, .null])))) rfl ?_
  refine g_aload_n C dX1_init_31 (k := ?_)
  refine g_sipush C (nI 512) dX1_init_32 (k := ?_)
  refine g_newl C ht (by decide +kernel) (by decide) (by decide) (by decide) (by rw [hRM]; exact Nat.le_of_ble_eq_true rfl) (by rw [hRM]; exact Nat.le_of_ble_eq_true rfl) dX1_init_35 (fun ad4 h4 => ?_)
  have hz4 : ad4 20 = ad 20 := (h4 20 (by decide)).trans hz3
  refine g_putfF (Cn := RX1) (T := TX1) (n := 8) (ref := "WheelProductsModel") (ty := .array .long) C 20 6 (by decide) (fs := [.int (nI 0), .long (lN 0), .long (lN 0), .ref (ad1 21), .ref (ad2 22), .ref (ad3 23), .null, .null]) rfl rfl (by decide +kernel) tyX1 tyX1_ok nmX1 (by decide) (by decide +kernel) (fun _ h => h) rfl hnm rfl (by decide +kernel) rfl rfl (Nat.le_of_ble_eq_true rfl) hz4 dX1_init_37 ?_
  refine g_ct (ct' := (va_up (va_up (va_up (va_up (va_up (va_up (va_up (va_up ct 21 (LN cJ 3072 (fun _ => 0))) 20 (.inr (1, [.int (nI 0), .long (lN 0), .long (lN 0), .ref (ad1 21), .null, .null, .null, .null]))) 22 (LN cJ 1440 (fun _ => 0))) 20 (.inr (1, [.int (nI 0), .long (lN 0), .long (lN 0), .ref (ad1 21), .ref (ad2 22), .null, .null, .null]))) 23 (LN cJ 512 (fun _ => 0))) 20 (.inr (1, [.int (nI 0), .long (lN 0), .long (lN 0), .ref (ad1 21), .ref (ad2 22), .ref (ad3 23), .null, .null]))) 24 (LN cJ 512 (fun _ => 0))) 20 (.inr (1, [.int (nI 0), .long (lN 0), .long (lN 0), .ref (ad1 21), .ref (ad2 22), .ref (ad3 23), .ref (ad4 24), .null])))) rfl ?_
  refine g_aload_n C dX1_init_40 (k := ?_)
  refine g_sipush C (nI 241) dX1_init_41 (k := ?_)
  refine g_newl C ht (by decide +kernel) (by decide) (by decide) (by decide) (by rw [hRM]; exact Nat.le_of_ble_eq_true rfl) (by rw [hRM]; exact Nat.le_of_ble_eq_true rfl) dX1_init_44 (fun ad5 h5 => ?_)
  have hz5 : ad5 20 = ad 20 := (h5 20 (by decide)).trans hz4
  refine g_putfF (Cn := RX1) (T := TX1) (n := 8) (ref := "WheelProductsModel") (ty := .array .long) C 20 7 (by decide) (fs := [.int (nI 0), .long (lN 0), .long (lN 0), .ref (ad1 21), .ref (ad2 22), .ref (ad3 23), .ref (ad4 24), .null]) rfl rfl (by decide +kernel) tyX1 tyX1_ok nmX1 (by decide) (by decide +kernel) (fun _ h => h) rfl hnm rfl (by decide +kernel) rfl rfl (Nat.le_of_ble_eq_true rfl) hz5 dX1_init_46 ?_
  refine g_ct (ct' := (va_up (va_up (va_up (va_up (va_up (va_up (va_up (va_up (va_up (va_up ct 21 (LN cJ 3072 (fun _ => 0))) 20 (.inr (1, [.int (nI 0), .long (lN 0), .long (lN 0), .ref (ad1 21), .null, .null, .null, .null]))) 22 (LN cJ 1440 (fun _ => 0))) 20 (.inr (1, [.int (nI 0), .long (lN 0), .long (lN 0), .ref (ad1 21), .ref (ad2 22), .null, .null, .null]))) 23 (LN cJ 512 (fun _ => 0))) 20 (.inr (1, [.int (nI 0), .long (lN 0), .long (lN 0), .ref (ad1 21), .ref (ad2 22), .ref (ad3 23), .null, .null]))) 24 (LN cJ 512 (fun _ => 0))) 20 (.inr (1, [.int (nI 0), .long (lN 0), .long (lN 0), .ref (ad1 21), .ref (ad2 22), .ref (ad3 23), .ref (ad4 24), .null]))) 25 (LN cJ 241 (fun _ => 0))) 20 (.inr (1, [.int (nI 0), .long (lN 0), .long (lN 0), .ref (ad1 21), .ref (ad2 22), .ref (ad3 23), .ref (ad4 24), .ref (ad5 25)])))) rfl ?_
  refine g_aload_n C dX1_init_49 (k := ?_)
  refine g_ldc2 C (v := lN 998244353) (by decide +kernel) dX1_init_50 ?_
  refine g_st (st' := [.long (lN 998244353), .ref (ad5 20)]) (by rw [hz5]) ?_
  refine g_putf (Cn := RX1) (T := TX1) (n := 8) (ref := "WheelProductsModel") (ty := .long) C 20 1 (by decide) (fs := [.int (nI 0), .long (lN 0), .long (lN 0), .ref (ad1 21), .ref (ad2 22), .ref (ad3 23), .ref (ad4 24), .ref (ad5 25)]) (va_up_self _ _ _) rfl (by decide +kernel) tyX1 tyX1_ok nmX1 (by decide) (by decide +kernel) (fun _ h => h) rfl (by decide +kernel) rfl rfl (Nat.le_of_ble_eq_true rfl) dX1_init_53 ?_
  rw [bx_uu]
  refine g_ct (ct' := (va_up (va_up (va_up (va_up (va_up (va_up (va_up (va_up (va_up (va_up ct 21 (LN cJ 3072 (fun _ => 0))) 20 (.inr (1, [.int (nI 0), .long (lN 0), .long (lN 0), .ref (ad1 21), .null, .null, .null, .null]))) 22 (LN cJ 1440 (fun _ => 0))) 20 (.inr (1, [.int (nI 0), .long (lN 0), .long (lN 0), .ref (ad1 21), .ref (ad2 22), .null, .null, .null]))) 23 (LN cJ 512 (fun _ => 0))) 20 (.inr (1, [.int (nI 0), .long (lN 0), .long (lN 0), .ref (ad1 21), .ref (ad2 22), .ref (ad3 23), .null, .null]))) 24 (LN cJ 512 (fun _ => 0))) 20 (.inr (1, [.int (nI 0), .long (lN 0), .long (lN 0), .ref (ad1 21), .ref (ad2 22), .ref (ad3 23), .ref (ad4 24), .null]))) 25 (LN cJ 241 (fun _ => 0))) 20 (.inr (1, [.int (nI 0), .long (lN 998244353), .long (lN 0), .ref (ad1 21), .ref (ad2 22), .ref (ad3 23), .ref (ad4 24), .ref (ad5 25)])))) rfl ?_
  refine g_aload_n C dX1_init_56 (k := ?_)
  refine g_aload_n C dX1_init_57 (k := ?_)
  refine g_st (st' := [.ref (ad5 20), .ref (ad5 20)]) (by rw [hz5]) ?_
  refine g_getf (Cn := RX1) (T := TX1) (n := 8) (ref := "WheelProductsModel") C 20 1 (by decide) (va_up_self _ _ _) rfl (by decide +kernel) (by decide) (by decide +kernel) (fun _ h => h) rfl dX1_init_58 ?_
  refine g_cSl (n := 1) (av := [.long (lN 998244353)]) C (by rw [hlM]; exact m_rootOf l (by decide) (by decide) p0_pgk.2.2.1 (by decide)) gX1_init_X1_rootOf rfl ⟨rfl, rfl⟩ (by rw [hRM]; exact ⟨Nat.le_of_ble_eq_true rfl, Nat.le_of_ble_eq_true rfl⟩) (by rw [hRM]; exact ⟨Nat.le_of_ble_eq_true rfl, Nat.le_of_ble_eq_true rfl⟩) (Nat.le_of_ble_eq_true rfl) (by decide +kernel) rfl dX1_init_61 ?_
  rintro _ _ ⟨rfl, rfl⟩
  refine g_putf (Cn := RX1) (T := TX1) (n := 8) (ref := "WheelProductsModel") (ty := .long) C 20 2 (by decide) (fs := [.int (nI 0), .long (lN 998244353), .long (lN 0), .ref (ad1 21), .ref (ad2 22), .ref (ad3 23), .ref (ad4 24), .ref (ad5 25)]) (va_up_self _ _ _) rfl (by decide +kernel) tyX1 tyX1_ok nmX1 (by decide) (by decide +kernel) (fun _ h => h) rfl (by decide +kernel) rfl rfl (Nat.le_of_ble_eq_true rfl) dX1_init_64 ?_
  rw [bx_uu]
  refine g_ct (ct' := (va_up (va_up (va_up (va_up (va_up (va_up (va_up (va_up (va_up (va_up ct 21 (LN cJ 3072 (fun _ => 0))) 20 (.inr (1, [.int (nI 0), .long (lN 0), .long (lN 0), .ref (ad1 21), .null, .null, .null, .null]))) 22 (LN cJ 1440 (fun _ => 0))) 20 (.inr (1, [.int (nI 0), .long (lN 0), .long (lN 0), .ref (ad1 21), .ref (ad2 22), .null, .null, .null]))) 23 (LN cJ 512 (fun _ => 0))) 20 (.inr (1, [.int (nI 0), .long (lN 0), .long (lN 0), .ref (ad1 21), .ref (ad2 22), .ref (ad3 23), .null, .null]))) 24 (LN cJ 512 (fun _ => 0))) 20 (.inr (1, [.int (nI 0), .long (lN 0), .long (lN 0), .ref (ad1 21), .ref (ad2 22), .ref (ad3 23), .ref (ad4 24), .null]))) 25 (LN cJ 241 (fun _ => 0))) 20 (.inr (1, [.int (nI 0), .long (lN 998244353), .long (lN 3), .ref (ad1 21), .ref (ad2 22), .ref (ad3 23), .ref (ad4 24), .ref (ad5 25)])))) rfl ?_
  refine g_iniret C hr ⟨?_, ?_, ?_, rfl, rfl, rfl, rfl, rfl⟩ dX1_init_67
  · intro k hk
    show ad5 k = ad k
    rw [h5 k (by omega), h4 k (by omega), h3 k (by omega), h2 k (by omega), h1 k hk]
  · intro k hk
    show (va_up (va_up (va_up (va_up (va_up (va_up (va_up (va_up (va_up (va_up ct 21 (LN cJ 3072 (fun _ => 0))) 20 (.inr (1, [.int (nI 0), .long (lN 0), .long (lN 0), .ref (ad1 21), .null, .null, .null, .null]))) 22 (LN cJ 1440 (fun _ => 0))) 20 (.inr (1, [.int (nI 0), .long (lN 0), .long (lN 0), .ref (ad1 21), .ref (ad2 22), .null, .null, .null]))) 23 (LN cJ 512 (fun _ => 0))) 20 (.inr (1, [.int (nI 0), .long (lN 0), .long (lN 0), .ref (ad1 21), .ref (ad2 22), .ref (ad3 23), .null, .null]))) 24 (LN cJ 512 (fun _ => 0))) 20 (.inr (1, [.int (nI 0), .long (lN 0), .long (lN 0), .ref (ad1 21), .ref (ad2 22), .ref (ad3 23), .ref (ad4 24), .null]))) 25 (LN cJ 241 (fun _ => 0))) 20 (.inr (1, [.int (nI 0), .long (lN 998244353), .long (lN 3), .ref (ad1 21), .ref (ad2 22), .ref (ad3 23), .ref (ad4 24), .ref (ad5 25)]))) k = ct k
    rw [va_up_ne _ _ (by omega), va_up_ne _ _ (by omega), va_up_ne _ _ (by omega), va_up_ne _ _ (by omega), va_up_ne _ _ (by omega), va_up_ne _ _ (by omega), va_up_ne _ _ (by omega), va_up_ne _ _ (by omega), va_up_ne _ _ (by omega), va_up_ne _ _ (by omega)]
  · show (va_up (va_up (va_up (va_up (va_up (va_up (va_up (va_up (va_up (va_up ct 21 (LN cJ 3072 (fun _ => 0))) 20 (.inr (1, [.int (nI 0), .long (lN 0), .long (lN 0), .ref (ad1 21), .null, .null, .null, .null]))) 22 (LN cJ 1440 (fun _ => 0))) 20 (.inr (1, [.int (nI 0), .long (lN 0), .long (lN 0), .ref (ad1 21), .ref (ad2 22), .null, .null, .null]))) 23 (LN cJ 512 (fun _ => 0))) 20 (.inr (1, [.int (nI 0), .long (lN 0), .long (lN 0), .ref (ad1 21), .ref (ad2 22), .ref (ad3 23), .null, .null]))) 24 (LN cJ 512 (fun _ => 0))) 20 (.inr (1, [.int (nI 0), .long (lN 0), .long (lN 0), .ref (ad1 21), .ref (ad2 22), .ref (ad3 23), .ref (ad4 24), .null]))) 25 (LN cJ 241 (fun _ => 0))) 20 (.inr (1, [.int (nI 0), .long (lN 998244353), .long (lN 3), .ref (ad1 21), .ref (ad2 22), .ref (ad3 23), .ref (ad4 24), .ref (ad5 25)]))) 20 = _
    rw [va_up_self]
    show _ = (.inr (1, [.int (nI 0), .long (lN 998244353), .long (lN 3), .ref (ad5 21), .ref (ad5 22), .ref (ad5 23), .ref (ad5 24), .ref (ad5 25)]) : va_E)
    rw [show ad5 21 = ad1 21 from (((h5 21 (by decide)).trans (h4 21 (by decide))).trans (h3 21 (by decide))).trans (h2 21 (by decide)), show ad5 22 = ad2 22 from ((h5 22 (by decide)).trans (h4 22 (by decide))).trans (h3 22 (by decide)), show ad5 23 = ad3 23 from (h5 23 (by decide)).trans (h4 23 (by decide)), show ad5 24 = ad4 24 from h5 24 (by decide)]
