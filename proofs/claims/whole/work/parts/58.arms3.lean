set_option maxRecDepth 100000 in
set_option maxHeartbeats 4000000 in
theorem arm_put {M : gM} {D : va_G} {tys : List (ClassId × FieldType)} {A : Nat → Prop} {cJ cQ : ClassId} {b L : Nat} {xs : Nat → Int32} {ad : Nat → Nat} {cells slots : Nat} {Q : State → Prop} {ct : Nat → va_E} (G : gL M D tys A cJ cQ b L xs) {i : Nat} (hi : i + 4 < L) (hce : cells + 4 ≤ 601024) (hsl : slots + 24 ≤ 7293034) (Iv : inv cJ cQ ad ct) (k : ∀ ct', inv cJ cQ ad ct' → gW M D vwCl A 8 (cells + 4) (slots + 24) Q 27 ad 1418 (lvB b ad i) [] ct') : gW M D vwCl A 8 cells slots Q 27 ad 519 (lvB b ad i) [] ct := by
  obtain ⟨C, hT, hn1, hn2, hst, hRM, ht, ht2, hX, hbl, hbA, hL⟩ := G
  obtain ⟨p, g, Mr, Nw, c, wd, S, Dm, Ho, I⟩ := Iv
  obtain ⟨o, ho⟩ := id Ho
  refine g_aload_n C dL_law_519 (k := ?_)
  refine g_aload_n C dL_law_520 (k := ?_)
  refine g_iload C dL_law_521 (k := ?_)
  refine g_iconst C (nI 1) dL_law_523 (k := ?_)
  refine gN_iadd C dL_law_524 ?_
  refine g_sld C hX hbl hbA (by omega) (by omega) dL_law_525 ?_
  refine g_aload_n C dL_law_526 (k := ?_)
  refine g_iload C dL_law_527 (k := ?_)
  refine g_iconst C (nI 2) dL_law_529 (k := ?_)
  refine gN_iadd C dL_law_530 ?_
  refine g_sld C hX hbl hbA (by omega) (by omega) dL_law_531 ?_
  refine g_aload_n C dL_law_532 (k := ?_)
  refine g_iload C dL_law_533 (k := ?_)
  refine g_iconst C (nI 3) dL_law_535 (k := ?_)
  refine gN_iadd C dL_law_536 ?_
  refine g_sld C hX hbl hbA (by omega) (by omega) dL_law_537 ?_
  refine g_i2l C dL_law_538 ?_
  refine g_bipush C (nI 32) dL_law_539 (k := ?_)
  refine g_lshl C dL_law_541 ?_
  refine g_aload_n C dL_law_542 (k := ?_)
  refine g_iload C dL_law_543 (k := ?_)
  refine g_iconst C (nI 4) dL_law_545 (k := ?_)
  refine gN_iadd C dL_law_546 ?_
  refine g_sld C hX hbl hbA (by omega) (by omega) dL_law_547 ?_
  refine g_i2l C dL_law_548 ?_
  refine g_ldc2 C (v := lN 4294967295) k69 dL_law_549 ?_
  refine g_land C dL_law_552 ?_
  refine g_lor C dL_law_553 ?_
  refine g_tl (lg2 (xs (i + 3)) (xs (i + 4))) rfl ?_
  refine g_aload_n C dL_law_554 (k := ?_)
  refine g_cCi (n := 5) (av := [.ref (ad 0), .int (xs (i + 1)), .int (xs (i + 2)), .long (lg2 (xs (i + 3)) (xs (i + 4))), .ref (ad 26)]) (rest := []) C hT hn1 hn2 (w_put (by decide) S.1 ht _ _ _ (c_put hst (by decide) S ht ht2 (invN_nv I) _ _ _) (fun E ct1 h => h.1) (fun v ct1 h => by obtain ⟨i, k, hi, -, -, -, -, rfl⟩ := h; rw [va_up_ne _ _ (by omega)]; exact ho)) gL_law_L_put rfl ⟨rfl, rfl⟩ (by rw [hRM]; exact ⟨Nat.le_of_ble_eq_true rfl, Nat.le_of_ble_eq_true rfl⟩) (by rw [hRM]; exact ⟨show cells + 2 ≤ 601024 by omega, show slots + 12 ≤ 7293034 by omega⟩) (Nat.le_of_ble_eq_true rfl) (by decide +kernel) rfl dL_law_555 (fun r5 ct1 h1 => ?_)
  have D1 := pm_put S Dm Ho I _ _ _ h1
  obtain ⟨⟨th, e20⟩, ec, ew, ⟨f23, e23⟩, ⟨f24, e24⟩, f25, e25⟩ := D1
  refine g_istore C dL_law_558 (k := ?_)
  refine g_aload_n C dL_law_560 (k := ?_)
  refine g_aload_n C dL_law_561 (k := ?_)
  refine g_iload C dL_law_562 (k := ?_)
  refine g_iconst C (nI 1) dL_law_564 (k := ?_)
  refine gN_iadd C dL_law_565 ?_
  refine g_sld C hX hbl hbA (by omega) (by omega) dL_law_566 ?_
  refine g_aload_n C dL_law_567 (k := ?_)
  refine g_iload C dL_law_568 (k := ?_)
  refine g_iconst C (nI 2) dL_law_570 (k := ?_)
  refine gN_iadd C dL_law_571 ?_
  refine g_sld C hX hbl hbA (by omega) (by omega) dL_law_572 ?_
  refine g_aload_n C dL_law_573 (k := ?_)
  refine g_iload C dL_law_574 (k := ?_)
  refine g_iconst C (nI 3) dL_law_576 (k := ?_)
  refine gN_iadd C dL_law_577 ?_
  refine g_sld C hX hbl hbA (by omega) (by omega) dL_law_578 ?_
  refine g_i2l C dL_law_579 ?_
  refine g_bipush C (nI 32) dL_law_580 (k := ?_)
  refine g_lshl C dL_law_582 ?_
  refine g_aload_n C dL_law_583 (k := ?_)
  refine g_iload C dL_law_584 (k := ?_)
  refine g_iconst C (nI 4) dL_law_586 (k := ?_)
  refine gN_iadd C dL_law_587 ?_
  refine g_sld C hX hbl hbA (by omega) (by omega) dL_law_588 ?_
  refine g_i2l C dL_law_589 ?_
  refine g_ldc2 C (v := lN 4294967295) k69 dL_law_590 ?_
  refine g_land C dL_law_593 ?_
  refine g_lor C dL_law_594 ?_
  refine g_tl (lg2 (xs (i + 3)) (xs (i + 4))) rfl ?_
  refine g_cVi (n := 3) (av := [.int (xs (i + 1)), .int (xs (i + 2)), .long (lg2 (xs (i + 3)) (xs (i + 4)))]) (rest := []) C 20 (by decide) e20 rfl (m_put (gl M) (by decide) e20 ec ew ht (pgk_lt I.1) I.1.1.2.1 (invN_c I) (invN_w I)  _ _ _) gL_law_X1_put rfl ⟨rfl, rfl⟩ (by rw [hRM]; exact ⟨Nat.le_of_ble_eq_true rfl, Nat.le_of_ble_eq_true rfl⟩) (by rw [hRM]; exact ⟨show cells + 2 ≤ 601024 by omega, show slots + 12 ≤ 7293034 by omega⟩) (Nat.le_of_ble_eq_true rfl) (by decide +kernel) rfl dL_law_595 (fun v6 ct2 h2 => ?_)
  obtain ⟨⟨p2, g2, e20b⟩, hval, Iv2⟩ := pu_put S Dm Ho I _ _ _ h1 h2
  refine g_istore C dL_law_598 (k := ?_)
  refine g_aload_n C dL_law_600 (k := ?_)
  refine g_cVi (n := 0) (av := []) (rest := []) C 20 (by decide) e20b rfl (m_thrown (gl M) (by decide) e20b) gL_law_X1_thrown rfl ⟨rfl, rfl⟩ (by rw [hRM]; exact ⟨Nat.le_of_ble_eq_true rfl, Nat.le_of_ble_eq_true rfl⟩) (by rw [hRM]; exact ⟨show cells + 2 ≤ 601024 by omega, show slots + 12 ≤ 7293034 by omega⟩) (Nat.le_of_ble_eq_true rfl) (by decide +kernel) rfl dL_law_601 (fun r7 ct7 h7 => ?_)
  refine g_ti r5 h7.1 ?_
  refine g_ct (ct' := ct2) h7.2 ?_
  refine g_iload C dL_law_604 (k := ?_)
  refine g_ic_eq (tgt := 611) C dL_law_606 (by decide) (fun _ => ?_) (fun h => absurd rfl h)
  refine g_iload C dL_law_611 (k := ?_)
  refine g_if_ne (tgt := 635) C dL_law_613 (by decide) (fun _ => ?_) (fun h0 => ?_)
  · refine g_goto (tgt := 1418) C dL_law_635 (k := ?_)
    exact g_wd (by omega) (by omega) (g_l2 (k ct2 Iv2) ⟨Or.inr rfl, Or.inr rfl, Or.inr rfl, Or.inr rfl, Or.inr rfl, trivial⟩)
  · obtain ⟨o6, e26, ho6⟩ := hval (h0.trans nI_0.symm)
    refine g_aload_n C dL_law_616 (k := ?_)
    refine g_iconst C (nI 0) dL_law_617 (k := ?_)
    refine g_lald C 26 0 (by decide) e26 ht (by decide) (by decide) dL_law_618 ?_
    refine g_iload C dL_law_619 (k := ?_)
    by_cases hv6 : v6 = 0
    · refine g_if_eq (tgt := 628) C dL_law_621 (by decide) (fun _ => ?_) (fun h => absurd hv6 h)
      rw [if_pos hv6] at ho6
      refine g_lconst C (lN 0) dL_law_628 (k := ?_)
      refine g_lc_eq (tgt := 635) C dL_law_629 dL_law_630 (by decide) (fun _ => ?_) (fun h => absurd ho6 h)
      refine g_goto (tgt := 1418) C dL_law_635 (k := ?_)
      exact g_wd (by omega) (by omega) (g_l2 (k ct2 Iv2) ⟨Or.inr rfl, Or.inr rfl, Or.inr rfl, Or.inr rfl, Or.inr rfl, trivial⟩)
    · refine g_if_eq (tgt := 628) C dL_law_621 (by decide) (fun h => absurd h hv6) (fun _ => ?_)
      rw [if_neg hv6] at ho6
      refine g_lconst C (lN 1) dL_law_624 (k := ?_)
      refine g_goto (tgt := 629) C dL_law_625 (k := ?_)
      refine g_lc_eq (tgt := 635) C dL_law_629 dL_law_630 (by decide) (fun _ => ?_) (fun h => absurd ho6 h)
      refine g_goto (tgt := 1418) C dL_law_635 (k := ?_)
      exact g_wd (by omega) (by omega) (g_l2 (k ct2 Iv2) ⟨Or.inr rfl, Or.inr rfl, Or.inr rfl, Or.inr rfl, Or.inr rfl, trivial⟩)

set_option maxRecDepth 100000 in
set_option maxHeartbeats 4000000 in
theorem arm_word {M : gM} {D : va_G} {tys : List (ClassId × FieldType)} {A : Nat → Prop} {cJ cQ : ClassId} {b L : Nat} {xs : Nat → Int32} {ad : Nat → Nat} {cells slots : Nat} {Q : State → Prop} {ct : Nat → va_E} (G : gL M D tys A cJ cQ b L xs) {i : Nat} (hi : i + 4 < L) (hce : cells + 4 ≤ 601024) (hsl : slots + 24 ≤ 7293034) (Iv : inv cJ cQ ad ct) (k : ∀ ct', inv cJ cQ ad ct' → gW M D vwCl A 8 (cells + 4) (slots + 24) Q 27 ad 1418 (lvB b ad i) [] ct') : gW M D vwCl A 8 cells slots Q 27 ad 1016 (lvB b ad i) [] ct := by
  obtain ⟨C, hT, hn1, hn2, hst, hRM, ht, ht2, hX, hbl, hbA, hL⟩ := G
  obtain ⟨p, g, Mr, Nw, c, wd, S, Dm, Ho, I⟩ := Iv
  obtain ⟨o, ho⟩ := id Ho
  refine g_aload_n C dL_law_1016 (k := ?_)
  refine g_aload_n C dL_law_1017 (k := ?_)
  refine g_iload C dL_law_1018 (k := ?_)
  refine g_iconst C (nI 1) dL_law_1020 (k := ?_)
  refine gN_iadd C dL_law_1021 ?_
  refine g_sld C hX hbl hbA (by omega) (by omega) dL_law_1022 ?_
  refine g_aload_n C dL_law_1023 (k := ?_)
  refine g_iload C dL_law_1024 (k := ?_)
  refine g_iconst C (nI 2) dL_law_1026 (k := ?_)
  refine gN_iadd C dL_law_1027 ?_
  refine g_sld C hX hbl hbA (by omega) (by omega) dL_law_1028 ?_
  refine g_aload_n C dL_law_1029 (k := ?_)
  refine g_iload C dL_law_1030 (k := ?_)
  refine g_iconst C (nI 3) dL_law_1032 (k := ?_)
  refine gN_iadd C dL_law_1033 ?_
  refine g_sld C hX hbl hbA (by omega) (by omega) dL_law_1034 ?_
  refine g_i2l C dL_law_1035 ?_
  refine g_bipush C (nI 32) dL_law_1036 (k := ?_)
  refine g_lshl C dL_law_1038 ?_
  refine g_aload_n C dL_law_1039 (k := ?_)
  refine g_iload C dL_law_1040 (k := ?_)
  refine g_iconst C (nI 4) dL_law_1042 (k := ?_)
  refine gN_iadd C dL_law_1043 ?_
  refine g_sld C hX hbl hbA (by omega) (by omega) dL_law_1044 ?_
  refine g_i2l C dL_law_1045 ?_
  refine g_ldc2 C (v := lN 4294967295) k69 dL_law_1046 ?_
  refine g_land C dL_law_1049 ?_
  refine g_lor C dL_law_1050 ?_
  refine g_tl (lg2 (xs (i + 3)) (xs (i + 4))) rfl ?_
  refine g_aload_n C dL_law_1051 (k := ?_)
  refine g_cCi (n := 5) (av := [.ref (ad 0), .int (xs (i + 1)), .int (xs (i + 2)), .long (lg2 (xs (i + 3)) (xs (i + 4))), .ref (ad 26)]) (rest := []) C hT hn1 hn2 (w_word (by decide) S.1 ht _ _ _ (c_word hst (by decide) S ht ht2 (invN_nv I) _ _ _) (fun E ct1 h => h.1) (fun v ct1 h => by obtain ⟨i, k, hi, -, -, -, -, rfl⟩ := h; rw [va_up_ne _ _ (by omega)]; exact ho)) gL_law_L_word rfl ⟨rfl, rfl⟩ (by rw [hRM]; exact ⟨Nat.le_of_ble_eq_true rfl, Nat.le_of_ble_eq_true rfl⟩) (by rw [hRM]; exact ⟨show cells + 2 ≤ 601024 by omega, show slots + 12 ≤ 7293034 by omega⟩) (Nat.le_of_ble_eq_true rfl) (by decide +kernel) rfl dL_law_1052 (fun r5 ct1 h1 => ?_)
  have D1 := pm_word S Dm Ho I _ _ _ h1
  obtain ⟨⟨th, e20⟩, ec, ew, ⟨f23, e23⟩, ⟨f24, e24⟩, f25, e25⟩ := D1
  refine g_istore C dL_law_1055 (k := ?_)
  refine g_aload_n C dL_law_1057 (k := ?_)
  refine g_aload_n C dL_law_1058 (k := ?_)
  refine g_iload C dL_law_1059 (k := ?_)
  refine g_iconst C (nI 1) dL_law_1061 (k := ?_)
  refine gN_iadd C dL_law_1062 ?_
  refine g_sld C hX hbl hbA (by omega) (by omega) dL_law_1063 ?_
  refine g_aload_n C dL_law_1064 (k := ?_)
  refine g_iload C dL_law_1065 (k := ?_)
  refine g_iconst C (nI 2) dL_law_1067 (k := ?_)
  refine gN_iadd C dL_law_1068 ?_
  refine g_sld C hX hbl hbA (by omega) (by omega) dL_law_1069 ?_
  refine g_aload_n C dL_law_1070 (k := ?_)
  refine g_iload C dL_law_1071 (k := ?_)
  refine g_iconst C (nI 3) dL_law_1073 (k := ?_)
  refine gN_iadd C dL_law_1074 ?_
  refine g_sld C hX hbl hbA (by omega) (by omega) dL_law_1075 ?_
  refine g_i2l C dL_law_1076 ?_
  refine g_bipush C (nI 32) dL_law_1077 (k := ?_)
  refine g_lshl C dL_law_1079 ?_
  refine g_aload_n C dL_law_1080 (k := ?_)
  refine g_iload C dL_law_1081 (k := ?_)
  refine g_iconst C (nI 4) dL_law_1083 (k := ?_)
  refine gN_iadd C dL_law_1084 ?_
  refine g_sld C hX hbl hbA (by omega) (by omega) dL_law_1085 ?_
  refine g_i2l C dL_law_1086 ?_
  refine g_ldc2 C (v := lN 4294967295) k69 dL_law_1087 ?_
  refine g_land C dL_law_1090 ?_
  refine g_lor C dL_law_1091 ?_
  refine g_tl (lg2 (xs (i + 3)) (xs (i + 4))) rfl ?_
  refine g_cVi (n := 3) (av := [.int (xs (i + 1)), .int (xs (i + 2)), .long (lg2 (xs (i + 3)) (xs (i + 4)))]) (rest := []) C 20 (by decide) e20 rfl (m_word (gl M) (by decide) e20 ec ew ht (pgk_lt I.1) I.1.1.2.1 (invN_c I) (invN_w I)  _ _ _) gL_law_X1_word rfl ⟨rfl, rfl⟩ (by rw [hRM]; exact ⟨Nat.le_of_ble_eq_true rfl, Nat.le_of_ble_eq_true rfl⟩) (by rw [hRM]; exact ⟨show cells + 2 ≤ 601024 by omega, show slots + 12 ≤ 7293034 by omega⟩) (Nat.le_of_ble_eq_true rfl) (by decide +kernel) rfl dL_law_1092 (fun v6 ct2 h2 => ?_)
  obtain ⟨⟨p2, g2, e20b⟩, hval, Iv2⟩ := pu_word S Dm Ho I _ _ _ h1 h2
  refine g_istore C dL_law_1095 (k := ?_)
  refine g_aload_n C dL_law_1097 (k := ?_)
  refine g_cVi (n := 0) (av := []) (rest := []) C 20 (by decide) e20b rfl (m_thrown (gl M) (by decide) e20b) gL_law_X1_thrown rfl ⟨rfl, rfl⟩ (by rw [hRM]; exact ⟨Nat.le_of_ble_eq_true rfl, Nat.le_of_ble_eq_true rfl⟩) (by rw [hRM]; exact ⟨show cells + 2 ≤ 601024 by omega, show slots + 12 ≤ 7293034 by omega⟩) (Nat.le_of_ble_eq_true rfl) (by decide +kernel) rfl dL_law_1098 (fun r7 ct7 h7 => ?_)
  refine g_ti r5 h7.1 ?_
  refine g_ct (ct' := ct2) h7.2 ?_
  refine g_iload C dL_law_1101 (k := ?_)
  refine g_ic_eq (tgt := 1108) C dL_law_1103 (by decide) (fun _ => ?_) (fun h => absurd rfl h)
  refine g_iload C dL_law_1108 (k := ?_)
  refine g_if_ne (tgt := 1132) C dL_law_1110 (by decide) (fun _ => ?_) (fun h0 => ?_)
  · refine g_goto (tgt := 1418) C dL_law_1132 (k := ?_)
    exact g_wd (by omega) (by omega) (g_l2 (k ct2 Iv2) ⟨Or.inr rfl, Or.inr rfl, Or.inr rfl, Or.inr rfl, Or.inr rfl, trivial⟩)
  · obtain ⟨o6, e26, ho6⟩ := hval (h0.trans nI_0.symm)
    refine g_aload_n C dL_law_1113 (k := ?_)
    refine g_iconst C (nI 0) dL_law_1114 (k := ?_)
    refine g_lald C 26 0 (by decide) e26 ht (by decide) (by decide) dL_law_1115 ?_
    refine g_iload C dL_law_1116 (k := ?_)
    by_cases hv6 : v6 = 0
    · refine g_if_eq (tgt := 1125) C dL_law_1118 (by decide) (fun _ => ?_) (fun h => absurd hv6 h)
      rw [if_pos hv6] at ho6
      refine g_lconst C (lN 0) dL_law_1125 (k := ?_)
      refine g_lc_eq (tgt := 1132) C dL_law_1126 dL_law_1127 (by decide) (fun _ => ?_) (fun h => absurd ho6 h)
      refine g_goto (tgt := 1418) C dL_law_1132 (k := ?_)
      exact g_wd (by omega) (by omega) (g_l2 (k ct2 Iv2) ⟨Or.inr rfl, Or.inr rfl, Or.inr rfl, Or.inr rfl, Or.inr rfl, trivial⟩)
    · refine g_if_eq (tgt := 1125) C dL_law_1118 (by decide) (fun h => absurd h hv6) (fun _ => ?_)
      rw [if_neg hv6] at ho6
      refine g_lconst C (lN 1) dL_law_1121 (k := ?_)
      refine g_goto (tgt := 1126) C dL_law_1122 (k := ?_)
      refine g_lc_eq (tgt := 1132) C dL_law_1126 dL_law_1127 (by decide) (fun _ => ?_) (fun h => absurd ho6 h)
      refine g_goto (tgt := 1418) C dL_law_1132 (k := ?_)
      exact g_wd (by omega) (by omega) (g_l2 (k ct2 Iv2) ⟨Or.inr rfl, Or.inr rfl, Or.inr rfl, Or.inr rfl, Or.inr rfl, trivial⟩)

set_option maxRecDepth 100000 in
set_option maxHeartbeats 4000000 in
theorem arm_turn {M : gM} {D : va_G} {tys : List (ClassId × FieldType)} {A : Nat → Prop} {cJ cQ : ClassId} {b L : Nat} {xs : Nat → Int32} {ad : Nat → Nat} {cells slots : Nat} {Q : State → Prop} {ct : Nat → va_E} (G : gL M D tys A cJ cQ b L xs) {i : Nat} (hi : i + 4 < L) (hce : cells + 4 ≤ 601024) (hsl : slots + 24 ≤ 7293034) (Iv : inv cJ cQ ad ct) (k : ∀ ct', inv cJ cQ ad ct' → gW M D vwCl A 8 (cells + 4) (slots + 24) Q 27 ad 1418 (lvB b ad i) [] ct') : gW M D vwCl A 8 cells slots Q 27 ad 761 (lvB b ad i) [] ct := by
  obtain ⟨C, hT, hn1, hn2, hst, hRM, ht, ht2, hX, hbl, hbA, hL⟩ := G
  obtain ⟨p, g, Mr, Nw, c, wd, S, Dm, Ho, I⟩ := Iv
  obtain ⟨o, ho⟩ := id Ho
  by_cases hb : xs (i + 3) = 0
  · refine g_aload_n C dL_law_761 (k := ?_)
    refine g_aload_n C dL_law_762 (k := ?_)
    refine g_iload C dL_law_763 (k := ?_)
    refine g_iconst C (nI 1) dL_law_765 (k := ?_)
    refine gN_iadd C dL_law_766 ?_
    refine g_sld C hX hbl hbA (by omega) (by omega) dL_law_767 ?_
    refine g_aload_n C dL_law_768 (k := ?_)
    refine g_iload C dL_law_769 (k := ?_)
    refine g_iconst C (nI 2) dL_law_771 (k := ?_)
    refine gN_iadd C dL_law_772 ?_
    refine g_sld C hX hbl hbA (by omega) (by omega) dL_law_773 ?_
    refine g_aload_n C dL_law_774 (k := ?_)
    refine g_iload C dL_law_775 (k := ?_)
    refine g_iconst C (nI 3) dL_law_777 (k := ?_)
    refine gN_iadd C dL_law_778 ?_
    refine g_sld C hX hbl hbA (by omega) (by omega) dL_law_779 ?_
    refine g_if_eq (tgt := 787) C dL_law_780 (by decide) (fun _ => ?_) (fun h => absurd hb h)
    refine g_iconst C (nI 0) dL_law_787 (k := ?_)
    refine g_cCi (n := 4) (av := [.ref (ad 0), .int (xs (i + 1)), .int (xs (i + 2)), .int (nI 0)]) (rest := []) C hT hn1 hn2 (w_turn (by decide) S.1 ht _ _ _ (c_turn hst (by decide) S ht ht2 (invN_nv I) _ _ _) (fun E ct1 h => h.2.elim (fun q => Or.inl q.1) (fun q => Or.inr q.1))) gL_law_L_turn rfl ⟨rfl, rfl⟩ (by rw [hRM]; exact ⟨Nat.le_of_ble_eq_true rfl, Nat.le_of_ble_eq_true rfl⟩) (by rw [hRM]; exact ⟨show cells + 2 ≤ 601024 by omega, show slots + 12 ≤ 7293034 by omega⟩) (Nat.le_of_ble_eq_true rfl) (by decide +kernel) rfl dL_law_788 (fun r5 ct1 h1 => ?_)
    have D1 := pm_turn S Dm Ho I _ _ _ h1
    obtain ⟨⟨th, e20⟩, ec, ew, ⟨f23, e23⟩, ⟨f24, e24⟩, f25, e25⟩ := D1
    refine g_istore C dL_law_791 (k := ?_)
    refine g_aload_n C dL_law_793 (k := ?_)
    refine g_aload_n C dL_law_794 (k := ?_)
    refine g_iload C dL_law_795 (k := ?_)
    refine g_iconst C (nI 1) dL_law_797 (k := ?_)
    refine gN_iadd C dL_law_798 ?_
    refine g_sld C hX hbl hbA (by omega) (by omega) dL_law_799 ?_
    refine g_aload_n C dL_law_800 (k := ?_)
    refine g_iload C dL_law_801 (k := ?_)
    refine g_iconst C (nI 2) dL_law_803 (k := ?_)
    refine gN_iadd C dL_law_804 ?_
    refine g_sld C hX hbl hbA (by omega) (by omega) dL_law_805 ?_
    refine g_aload_n C dL_law_806 (k := ?_)
    refine g_iload C dL_law_807 (k := ?_)
    refine g_iconst C (nI 3) dL_law_809 (k := ?_)
    refine gN_iadd C dL_law_810 ?_
    refine g_sld C hX hbl hbA (by omega) (by omega) dL_law_811 ?_
    refine g_if_eq (tgt := 819) C dL_law_812 (by decide) (fun _ => ?_) (fun h => absurd hb h)
    refine g_iconst C (nI 0) dL_law_819 (k := ?_)
    refine g_cVv (n := 3) (av := [.int (xs (i + 1)), .int (xs (i + 2)), .int (nI 0)]) (rest := []) C 20 (by decide) e20 rfl (m_turn (gl M) (by decide) e20 ec ew ht (pgk_lt I.1) I.1.1.2.1 (invN_c I) (invN_w I) e23 e24 I.1.2.2.2 _ _ _) gL_law_X1_turn rfl ⟨rfl, rfl⟩ (by rw [hRM]; exact ⟨Nat.le_of_ble_eq_true rfl, Nat.le_of_ble_eq_true rfl⟩) (by rw [hRM]; exact ⟨show cells + 2 ≤ 601024 by omega, show slots + 12 ≤ 7293034 by omega⟩) (Nat.le_of_ble_eq_true rfl) (by decide +kernel) rfl dL_law_820 (fun ct2 h2 => ?_)
    obtain ⟨⟨p2, g2, e20b⟩, Iv2⟩ := pu_turn S Dm Ho I _ _ _ h1 h2
    refine g_aload_n C dL_law_823 (k := ?_)
    refine g_cVi (n := 0) (av := []) (rest := []) C 20 (by decide) e20b rfl (m_thrown (gl M) (by decide) e20b) gL_law_X1_thrown rfl ⟨rfl, rfl⟩ (by rw [hRM]; exact ⟨Nat.le_of_ble_eq_true rfl, Nat.le_of_ble_eq_true rfl⟩) (by rw [hRM]; exact ⟨show cells + 2 ≤ 601024 by omega, show slots + 12 ≤ 7293034 by omega⟩) (Nat.le_of_ble_eq_true rfl) (by decide +kernel) rfl dL_law_824 (fun r7 ct7 h7 => ?_)
    refine g_ti r5 h7.1 ?_
    refine g_ct (ct' := ct2) h7.2 ?_
    refine g_iload C dL_law_827 (k := ?_)
    refine g_ic_eq (tgt := 834) C dL_law_829 (by decide) (fun _ => ?_) (fun h => absurd rfl h)
    refine g_goto (tgt := 1418) C dL_law_834 (k := ?_)
    exact g_wd (by omega) (by omega) (g_l2 (k ct2 Iv2) ⟨Or.inr rfl, Or.inr rfl, Or.inr rfl, Or.inr rfl, Or.inr rfl, trivial⟩)
  · refine g_aload_n C dL_law_761 (k := ?_)
    refine g_aload_n C dL_law_762 (k := ?_)
    refine g_iload C dL_law_763 (k := ?_)
    refine g_iconst C (nI 1) dL_law_765 (k := ?_)
    refine gN_iadd C dL_law_766 ?_
    refine g_sld C hX hbl hbA (by omega) (by omega) dL_law_767 ?_
    refine g_aload_n C dL_law_768 (k := ?_)
    refine g_iload C dL_law_769 (k := ?_)
    refine g_iconst C (nI 2) dL_law_771 (k := ?_)
    refine gN_iadd C dL_law_772 ?_
    refine g_sld C hX hbl hbA (by omega) (by omega) dL_law_773 ?_
    refine g_aload_n C dL_law_774 (k := ?_)
    refine g_iload C dL_law_775 (k := ?_)
    refine g_iconst C (nI 3) dL_law_777 (k := ?_)
    refine gN_iadd C dL_law_778 ?_
    refine g_sld C hX hbl hbA (by omega) (by omega) dL_law_779 ?_
    refine g_if_eq (tgt := 787) C dL_law_780 (by decide) (fun h => absurd h hb) (fun _ => ?_)
    refine g_iconst C (nI 1) dL_law_783 (k := ?_)
    refine g_goto (tgt := 788) C dL_law_784 (k := ?_)
    refine g_cCi (n := 4) (av := [.ref (ad 0), .int (xs (i + 1)), .int (xs (i + 2)), .int (nI 1)]) (rest := []) C hT hn1 hn2 (w_turn (by decide) S.1 ht _ _ _ (c_turn hst (by decide) S ht ht2 (invN_nv I) _ _ _) (fun E ct1 h => h.2.elim (fun q => Or.inl q.1) (fun q => Or.inr q.1))) gL_law_L_turn rfl ⟨rfl, rfl⟩ (by rw [hRM]; exact ⟨Nat.le_of_ble_eq_true rfl, Nat.le_of_ble_eq_true rfl⟩) (by rw [hRM]; exact ⟨show cells + 2 ≤ 601024 by omega, show slots + 12 ≤ 7293034 by omega⟩) (Nat.le_of_ble_eq_true rfl) (by decide +kernel) rfl dL_law_788 (fun r5 ct1 h1 => ?_)
    have D1 := pm_turn S Dm Ho I _ _ _ h1
    obtain ⟨⟨th, e20⟩, ec, ew, ⟨f23, e23⟩, ⟨f24, e24⟩, f25, e25⟩ := D1
    refine g_istore C dL_law_791 (k := ?_)
    refine g_aload_n C dL_law_793 (k := ?_)
    refine g_aload_n C dL_law_794 (k := ?_)
    refine g_iload C dL_law_795 (k := ?_)
    refine g_iconst C (nI 1) dL_law_797 (k := ?_)
    refine gN_iadd C dL_law_798 ?_
    refine g_sld C hX hbl hbA (by omega) (by omega) dL_law_799 ?_
    refine g_aload_n C dL_law_800 (k := ?_)
    refine g_iload C dL_law_801 (k := ?_)
    refine g_iconst C (nI 2) dL_law_803 (k := ?_)
    refine gN_iadd C dL_law_804 ?_
    refine g_sld C hX hbl hbA (by omega) (by omega) dL_law_805 ?_
    refine g_aload_n C dL_law_806 (k := ?_)
    refine g_iload C dL_law_807 (k := ?_)
    refine g_iconst C (nI 3) dL_law_809 (k := ?_)
    refine gN_iadd C dL_law_810 ?_
    refine g_sld C hX hbl hbA (by omega) (by omega) dL_law_811 ?_
    refine g_if_eq (tgt := 819) C dL_law_812 (by decide) (fun h => absurd h hb) (fun _ => ?_)
    refine g_iconst C (nI 1) dL_law_815 (k := ?_)
    refine g_goto (tgt := 820) C dL_law_816 (k := ?_)
    refine g_cVv (n := 3) (av := [.int (xs (i + 1)), .int (xs (i + 2)), .int (nI 1)]) (rest := []) C 20 (by decide) e20 rfl (m_turn (gl M) (by decide) e20 ec ew ht (pgk_lt I.1) I.1.1.2.1 (invN_c I) (invN_w I) e23 e24 I.1.2.2.2 _ _ _) gL_law_X1_turn rfl ⟨rfl, rfl⟩ (by rw [hRM]; exact ⟨Nat.le_of_ble_eq_true rfl, Nat.le_of_ble_eq_true rfl⟩) (by rw [hRM]; exact ⟨show cells + 2 ≤ 601024 by omega, show slots + 12 ≤ 7293034 by omega⟩) (Nat.le_of_ble_eq_true rfl) (by decide +kernel) rfl dL_law_820 (fun ct2 h2 => ?_)
    obtain ⟨⟨p2, g2, e20b⟩, Iv2⟩ := pu_turn S Dm Ho I _ _ _ h1 h2
    refine g_aload_n C dL_law_823 (k := ?_)
    refine g_cVi (n := 0) (av := []) (rest := []) C 20 (by decide) e20b rfl (m_thrown (gl M) (by decide) e20b) gL_law_X1_thrown rfl ⟨rfl, rfl⟩ (by rw [hRM]; exact ⟨Nat.le_of_ble_eq_true rfl, Nat.le_of_ble_eq_true rfl⟩) (by rw [hRM]; exact ⟨show cells + 2 ≤ 601024 by omega, show slots + 12 ≤ 7293034 by omega⟩) (Nat.le_of_ble_eq_true rfl) (by decide +kernel) rfl dL_law_824 (fun r7 ct7 h7 => ?_)
    refine g_ti r5 h7.1 ?_
    refine g_ct (ct' := ct2) h7.2 ?_
    refine g_iload C dL_law_827 (k := ?_)
    refine g_ic_eq (tgt := 834) C dL_law_829 (by decide) (fun _ => ?_) (fun h => absurd rfl h)
    refine g_goto (tgt := 1418) C dL_law_834 (k := ?_)
    exact g_wd (by omega) (by omega) (g_l2 (k ct2 Iv2) ⟨Or.inr rfl, Or.inr rfl, Or.inr rfl, Or.inr rfl, Or.inr rfl, trivial⟩)
