set_option maxRecDepth 100000 in
set_option maxHeartbeats 4000000 in
theorem arm_product {M : gM} {D : va_G} {tys : List (ClassId × FieldType)} {A : Nat → Prop} {cJ cQ : ClassId} {b L : Nat} {xs : Nat → Int32} {ad : Nat → Nat} {cells slots : Nat} {Q : State → Prop} {ct : Nat → va_E} (G : gL M D tys A cJ cQ b L xs) {i : Nat} (hi : i + 4 < L) (hce : cells + 4 ≤ 601024) (hsl : slots + 24 ≤ 7293034) (Iv : inv cJ cQ ad ct) (k : ∀ ct', inv cJ cQ ad ct' → gW M D vwCl A 8 (cells + 4) (slots + 24) Q 27 ad 1418 (lvB b ad i) [] ct') : gW M D vwCl A 8 cells slots Q 27 ad 837 (lvB b ad i) [] ct := by
  obtain ⟨C, hT, hn1, hn2, hst, hRM, ht, ht2, hX, hbl, hbA, hL⟩ := G
  obtain ⟨p, g, Mr, Nw, c, wd, S, Dm, Ho, I⟩ := Iv
  obtain ⟨o, ho⟩ := id Ho
  refine g_aload_n C dL_law_837 (k := ?_)
  refine g_aload_n C dL_law_838 (k := ?_)
  refine g_iload C dL_law_839 (k := ?_)
  refine g_iconst C (nI 1) dL_law_841 (k := ?_)
  refine gN_iadd C dL_law_842 ?_
  refine g_sld C hX hbl hbA (by omega) (by omega) dL_law_843 ?_
  refine g_aload_n C dL_law_844 (k := ?_)
  refine g_iload C dL_law_845 (k := ?_)
  refine g_iconst C (nI 2) dL_law_847 (k := ?_)
  refine gN_iadd C dL_law_848 ?_
  refine g_sld C hX hbl hbA (by omega) (by omega) dL_law_849 ?_
  refine g_aload_n C dL_law_850 (k := ?_)
  refine g_iload C dL_law_851 (k := ?_)
  refine g_iconst C (nI 3) dL_law_853 (k := ?_)
  refine gN_iadd C dL_law_854 ?_
  refine g_sld C hX hbl hbA (by omega) (by omega) dL_law_855 ?_
  refine g_aload_n C dL_law_856 (k := ?_)
  refine g_cCi (n := 5) (av := [.ref (ad 0), .int (xs (i + 1)), .int (xs (i + 2)), .int (xs (i + 3)), .ref (ad 26)]) (rest := []) C hT hn1 hn2 (w_product (by decide) S.1 ht _ _ _ (c_product hst (by decide) S ht ht2 (invN_nv I) _ _ _) (fun E ct1 h => h.2.elim (fun q => Or.inl q.1) (fun q => Or.inr q.1)) (fun v ct1 h => by
      obtain ⟨t, i, j, ht, -, -, -, -, -, ⟨-, -, rfl⟩ | ⟨-, -, -, K, lf, rt, -, -, rfl⟩⟩ := h
      · rw [va_up_ne _ _ (by omega)]; exact ho
      · rw [va_up_ne _ _ (by omega), va_up_ne _ _ (by omega), va_up_ne _ _ (by omega)]; exact ho)) gL_law_L_product rfl ⟨rfl, rfl⟩ (by rw [hRM]; exact ⟨Nat.le_of_ble_eq_true rfl, Nat.le_of_ble_eq_true rfl⟩) (by rw [hRM]; exact ⟨show cells + 4 ≤ 601024 by omega, show slots + 24 ≤ 7293034 by omega⟩) (Nat.le_of_ble_eq_true rfl) (by decide +kernel) rfl dL_law_857 (fun r5 ct1 h1 => ?_)
  have D1 := pm_product S Dm Ho I _ _ _ h1
  obtain ⟨⟨th, e20⟩, ec, ew, ⟨f23, e23⟩, ⟨f24, e24⟩, f25, e25⟩ := D1
  refine g_istore C dL_law_860 (k := ?_)
  refine g_aload_n C dL_law_862 (k := ?_)
  refine g_aload_n C dL_law_863 (k := ?_)
  refine g_iload C dL_law_864 (k := ?_)
  refine g_iconst C (nI 1) dL_law_866 (k := ?_)
  refine gN_iadd C dL_law_867 ?_
  refine g_sld C hX hbl hbA (by omega) (by omega) dL_law_868 ?_
  refine g_aload_n C dL_law_869 (k := ?_)
  refine g_iload C dL_law_870 (k := ?_)
  refine g_iconst C (nI 2) dL_law_872 (k := ?_)
  refine gN_iadd C dL_law_873 ?_
  refine g_sld C hX hbl hbA (by omega) (by omega) dL_law_874 ?_
  refine g_aload_n C dL_law_875 (k := ?_)
  refine g_iload C dL_law_876 (k := ?_)
  refine g_iconst C (nI 3) dL_law_878 (k := ?_)
  refine gN_iadd C dL_law_879 ?_
  refine g_sld C hX hbl hbA (by omega) (by omega) dL_law_880 ?_
  refine g_cVi (n := 3) (av := [.int (xs (i + 1)), .int (xs (i + 2)), .int (xs (i + 3))]) (rest := []) C 20 (by decide) e20 rfl (m_product (gl M) (by decide) e20 ec ew ht (pgk_lt I.1) I.1.1.2.1 (invN_c I) (invN_w I) e23 _ _ _) gL_law_X1_product rfl ⟨rfl, rfl⟩ (by rw [hRM]; exact ⟨Nat.le_of_ble_eq_true rfl, Nat.le_of_ble_eq_true rfl⟩) (by rw [hRM]; exact ⟨show cells + 4 ≤ 601024 by omega, show slots + 24 ≤ 7293034 by omega⟩) (Nat.le_of_ble_eq_true rfl) (by decide +kernel) rfl dL_law_881 (fun v6 ct2 h2 => ?_)
  obtain ⟨⟨p2, g2, e20b⟩, hval, Iv2⟩ := pu_product S Dm Ho I _ _ _ h1 h2
  refine g_istore C dL_law_884 (k := ?_)
  refine g_aload_n C dL_law_886 (k := ?_)
  refine g_cVi (n := 0) (av := []) (rest := []) C 20 (by decide) e20b rfl (m_thrown (gl M) (by decide) e20b) gL_law_X1_thrown rfl ⟨rfl, rfl⟩ (by rw [hRM]; exact ⟨Nat.le_of_ble_eq_true rfl, Nat.le_of_ble_eq_true rfl⟩) (by rw [hRM]; exact ⟨show cells + 4 ≤ 601024 by omega, show slots + 24 ≤ 7293034 by omega⟩) (Nat.le_of_ble_eq_true rfl) (by decide +kernel) rfl dL_law_887 (fun r7 ct7 h7 => ?_)
  refine g_ti r5 h7.1 ?_
  refine g_ct (ct' := ct2) h7.2 ?_
  refine g_iload C dL_law_890 (k := ?_)
  refine g_ic_eq (tgt := 897) C dL_law_892 (by decide) (fun _ => ?_) (fun h => absurd rfl h)
  refine g_iload C dL_law_897 (k := ?_)
  refine g_if_ne (tgt := 914) C dL_law_899 (by decide) (fun _ => ?_) (fun h0 => ?_)
  · refine g_goto (tgt := 1418) C dL_law_914 (k := ?_)
    exact g_wd (by omega) (by omega) (g_l2 (k ct2 Iv2) ⟨Or.inr rfl, Or.inr rfl, Or.inr rfl, Or.inr rfl, Or.inr rfl, trivial⟩)
  · obtain ⟨o6, e26, ho6⟩ := hval (h0.trans nI_0.symm)
    refine g_aload_n C dL_law_902 (k := ?_)
    refine g_iconst C (nI 0) dL_law_903 (k := ?_)
    refine g_lald C 26 0 (by decide) e26 ht (by decide) (by decide) dL_law_904 ?_
    refine g_iload C dL_law_905 (k := ?_)
    refine g_i2l C dL_law_907 ?_
    refine g_lc_eq (tgt := 914) C dL_law_908 dL_law_909 (by decide) (fun _ => ?_) (fun h => absurd ho6 h)
    refine g_goto (tgt := 1418) C dL_law_914 (k := ?_)
    exact g_wd (by omega) (by omega) (g_l2 (k ct2 Iv2) ⟨Or.inr rfl, Or.inr rfl, Or.inr rfl, Or.inr rfl, Or.inr rfl, trivial⟩)

set_option maxRecDepth 100000 in
set_option maxHeartbeats 4000000 in
theorem arm_at {M : gM} {D : va_G} {tys : List (ClassId × FieldType)} {A : Nat → Prop} {cJ cQ : ClassId} {b L : Nat} {xs : Nat → Int32} {ad : Nat → Nat} {cells slots : Nat} {Q : State → Prop} {ct : Nat → va_E} (G : gL M D tys A cJ cQ b L xs) {i : Nat} (hi : i + 4 < L) (hce : cells + 4 ≤ 601024) (hsl : slots + 24 ≤ 7293034) (Iv : inv cJ cQ ad ct) (k : ∀ ct', inv cJ cQ ad ct' → gW M D vwCl A 8 (cells + 4) (slots + 24) Q 27 ad 1418 (lvB b ad i) [] ct') : gW M D vwCl A 8 cells slots Q 27 ad 917 (lvB b ad i) [] ct := by
  obtain ⟨C, hT, hn1, hn2, hst, hRM, ht, ht2, hX, hbl, hbA, hL⟩ := G
  obtain ⟨p, g, Mr, Nw, c, wd, S, Dm, Ho, I⟩ := Iv
  obtain ⟨o, ho⟩ := id Ho
  refine g_aload_n C dL_law_917 (k := ?_)
  refine g_aload_n C dL_law_918 (k := ?_)
  refine g_iload C dL_law_919 (k := ?_)
  refine g_iconst C (nI 1) dL_law_921 (k := ?_)
  refine gN_iadd C dL_law_922 ?_
  refine g_sld C hX hbl hbA (by omega) (by omega) dL_law_923 ?_
  refine g_aload_n C dL_law_924 (k := ?_)
  refine g_iload C dL_law_925 (k := ?_)
  refine g_iconst C (nI 2) dL_law_927 (k := ?_)
  refine gN_iadd C dL_law_928 ?_
  refine g_sld C hX hbl hbA (by omega) (by omega) dL_law_929 ?_
  refine g_i2l C dL_law_930 ?_
  refine g_bipush C (nI 32) dL_law_931 (k := ?_)
  refine g_lshl C dL_law_933 ?_
  refine g_aload_n C dL_law_934 (k := ?_)
  refine g_iload C dL_law_935 (k := ?_)
  refine g_iconst C (nI 3) dL_law_937 (k := ?_)
  refine gN_iadd C dL_law_938 ?_
  refine g_sld C hX hbl hbA (by omega) (by omega) dL_law_939 ?_
  refine g_i2l C dL_law_940 ?_
  refine g_ldc2 C (v := lN 4294967295) k69 dL_law_941 ?_
  refine g_land C dL_law_944 ?_
  refine g_lor C dL_law_945 ?_
  refine g_tl (lg2 (xs (i + 2)) (xs (i + 3))) rfl ?_
  refine g_aload_n C dL_law_946 (k := ?_)
  refine g_cCi (n := 4) (av := [.ref (ad 0), .int (xs (i + 1)), .long (lg2 (xs (i + 2)) (xs (i + 3))), .ref (ad 26)]) (rest := []) C hT hn1 hn2 (w_at (by decide) S.1 ht _ _ (c_at hst (by decide) S ht ht2 (invN_nv I) _ _) (fun E ct1 h => h.1) (fun v ct1 h => by rw [h.1]; exact ho)) gL_law_L_at rfl ⟨rfl, rfl⟩ (by rw [hRM]; exact ⟨Nat.le_of_ble_eq_true rfl, Nat.le_of_ble_eq_true rfl⟩) (by rw [hRM]; exact ⟨show cells + 1 ≤ 601024 by omega, show slots + 6 ≤ 7293034 by omega⟩) (Nat.le_of_ble_eq_true rfl) (by decide +kernel) rfl dL_law_947 (fun r5 ct1 h1 => ?_)
  have D1 := pm_at S Dm Ho I _ _ h1
  obtain ⟨⟨th, e20⟩, ec, ew, ⟨f23, e23⟩, ⟨f24, e24⟩, f25, e25⟩ := D1
  refine g_istore C dL_law_950 (k := ?_)
  refine g_aload_n C dL_law_952 (k := ?_)
  refine g_aload_n C dL_law_953 (k := ?_)
  refine g_iload C dL_law_954 (k := ?_)
  refine g_iconst C (nI 1) dL_law_956 (k := ?_)
  refine gN_iadd C dL_law_957 ?_
  refine g_sld C hX hbl hbA (by omega) (by omega) dL_law_958 ?_
  refine g_aload_n C dL_law_959 (k := ?_)
  refine g_iload C dL_law_960 (k := ?_)
  refine g_iconst C (nI 2) dL_law_962 (k := ?_)
  refine gN_iadd C dL_law_963 ?_
  refine g_sld C hX hbl hbA (by omega) (by omega) dL_law_964 ?_
  refine g_i2l C dL_law_965 ?_
  refine g_bipush C (nI 32) dL_law_966 (k := ?_)
  refine g_lshl C dL_law_968 ?_
  refine g_aload_n C dL_law_969 (k := ?_)
  refine g_iload C dL_law_970 (k := ?_)
  refine g_iconst C (nI 3) dL_law_972 (k := ?_)
  refine gN_iadd C dL_law_973 ?_
  refine g_sld C hX hbl hbA (by omega) (by omega) dL_law_974 ?_
  refine g_i2l C dL_law_975 ?_
  refine g_ldc2 C (v := lN 4294967295) k69 dL_law_976 ?_
  refine g_land C dL_law_979 ?_
  refine g_lor C dL_law_980 ?_
  refine g_tl (lg2 (xs (i + 2)) (xs (i + 3))) rfl ?_
  refine g_cVl (n := 2) (av := [.int (xs (i + 1)), .long (lg2 (xs (i + 2)) (xs (i + 3)))]) (rest := []) C 20 (by decide) e20 rfl (m_at (gl M) (by decide) e20 ec ew ht (pgk_lt I.1) I.1.1.2.1 (invN_c I) (invN_w I)  _ _) gL_law_X1_at rfl ⟨rfl, rfl⟩ (by rw [hRM]; exact ⟨Nat.le_of_ble_eq_true rfl, Nat.le_of_ble_eq_true rfl⟩) (by rw [hRM]; exact ⟨show cells + 1 ≤ 601024 by omega, show slots + 6 ≤ 7293034 by omega⟩) (Nat.le_of_ble_eq_true rfl) (by decide +kernel) rfl dL_law_981 (fun v6 ct2 h2 => ?_)
  obtain ⟨⟨p2, g2, e20b⟩, hval, Iv2⟩ := pu_at S Dm Ho I _ _ h1 h2
  refine g_lstore C dL_law_984 (k := ?_)
  refine g_aload_n C dL_law_986 (k := ?_)
  refine g_cVi (n := 0) (av := []) (rest := []) C 20 (by decide) e20b rfl (m_thrown (gl M) (by decide) e20b) gL_law_X1_thrown rfl ⟨rfl, rfl⟩ (by rw [hRM]; exact ⟨Nat.le_of_ble_eq_true rfl, Nat.le_of_ble_eq_true rfl⟩) (by rw [hRM]; exact ⟨show cells + 1 ≤ 601024 by omega, show slots + 6 ≤ 7293034 by omega⟩) (Nat.le_of_ble_eq_true rfl) (by decide +kernel) rfl dL_law_987 (fun r7 ct7 h7 => ?_)
  refine g_ti r5 h7.1 ?_
  refine g_ct (ct' := ct2) h7.2 ?_
  refine g_iload C dL_law_990 (k := ?_)
  refine g_ic_eq (tgt := 997) C dL_law_992 (by decide) (fun _ => ?_) (fun h => absurd rfl h)
  refine g_iload C dL_law_997 (k := ?_)
  refine g_if_ne (tgt := 1013) C dL_law_999 (by decide) (fun _ => ?_) (fun h0 => ?_)
  · refine g_goto (tgt := 1418) C dL_law_1013 (k := ?_)
    exact g_wd (by omega) (by omega) (g_l2 (k ct2 Iv2) ⟨Or.inr rfl, Or.inr rfl, Or.inr rfl, Or.inr rfl, Or.inr rfl, trivial⟩)
  · obtain ⟨o6, e26, ho6⟩ := hval (h0.trans nI_0.symm)
    refine g_aload_n C dL_law_1002 (k := ?_)
    refine g_iconst C (nI 0) dL_law_1003 (k := ?_)
    refine g_lald C 26 0 (by decide) e26 ht (by decide) (by decide) dL_law_1004 ?_
    refine g_lload C dL_law_1005 (k := ?_)
    refine g_lc_eq (tgt := 1013) C dL_law_1007 dL_law_1008 (by decide) (fun _ => ?_) (fun h => absurd ho6 h)
    refine g_goto (tgt := 1418) C dL_law_1013 (k := ?_)
    exact g_wd (by omega) (by omega) (g_l2 (k ct2 Iv2) ⟨Or.inr rfl, Or.inr rfl, Or.inr rfl, Or.inr rfl, Or.inr rfl, trivial⟩)

set_option maxRecDepth 100000 in
set_option maxHeartbeats 4000000 in
theorem arm_wordAt {M : gM} {D : va_G} {tys : List (ClassId × FieldType)} {A : Nat → Prop} {cJ cQ : ClassId} {b L : Nat} {xs : Nat → Int32} {ad : Nat → Nat} {cells slots : Nat} {Q : State → Prop} {ct : Nat → va_E} (G : gL M D tys A cJ cQ b L xs) {i : Nat} (hi : i + 4 < L) (hce : cells + 4 ≤ 601024) (hsl : slots + 24 ≤ 7293034) (Iv : inv cJ cQ ad ct) (k : ∀ ct', inv cJ cQ ad ct' → gW M D vwCl A 8 (cells + 4) (slots + 24) Q 27 ad 1418 (lvB b ad i) [] ct') : gW M D vwCl A 8 cells slots Q 27 ad 1135 (lvB b ad i) [] ct := by
  obtain ⟨C, hT, hn1, hn2, hst, hRM, ht, ht2, hX, hbl, hbA, hL⟩ := G
  obtain ⟨p, g, Mr, Nw, c, wd, S, Dm, Ho, I⟩ := Iv
  obtain ⟨o, ho⟩ := id Ho
  refine g_aload_n C dL_law_1135 (k := ?_)
  refine g_aload_n C dL_law_1136 (k := ?_)
  refine g_iload C dL_law_1137 (k := ?_)
  refine g_iconst C (nI 1) dL_law_1139 (k := ?_)
  refine gN_iadd C dL_law_1140 ?_
  refine g_sld C hX hbl hbA (by omega) (by omega) dL_law_1141 ?_
  refine g_aload_n C dL_law_1142 (k := ?_)
  refine g_iload C dL_law_1143 (k := ?_)
  refine g_iconst C (nI 2) dL_law_1145 (k := ?_)
  refine gN_iadd C dL_law_1146 ?_
  refine g_sld C hX hbl hbA (by omega) (by omega) dL_law_1147 ?_
  refine g_aload_n C dL_law_1148 (k := ?_)
  refine g_cCi (n := 4) (av := [.ref (ad 0), .int (xs (i + 1)), .int (xs (i + 2)), .ref (ad 26)]) (rest := []) C hT hn1 hn2 (w_wordAt (by decide) S.1 ht _ _ (c_wordAt hst (by decide) S ht ht2 (invN_nv I) _ _) (fun E ct1 h => h.1) (fun v ct1 h => by rw [h.1]; exact ho)) gL_law_L_wordAt rfl ⟨rfl, rfl⟩ (by rw [hRM]; exact ⟨Nat.le_of_ble_eq_true rfl, Nat.le_of_ble_eq_true rfl⟩) (by rw [hRM]; exact ⟨show cells + 2 ≤ 601024 by omega, show slots + 12 ≤ 7293034 by omega⟩) (Nat.le_of_ble_eq_true rfl) (by decide +kernel) rfl dL_law_1149 (fun r5 ct1 h1 => ?_)
  have D1 := pm_wordAt S Dm Ho I _ _ h1
  obtain ⟨⟨th, e20⟩, ec, ew, ⟨f23, e23⟩, ⟨f24, e24⟩, f25, e25⟩ := D1
  refine g_istore C dL_law_1152 (k := ?_)
  refine g_aload_n C dL_law_1154 (k := ?_)
  refine g_aload_n C dL_law_1155 (k := ?_)
  refine g_iload C dL_law_1156 (k := ?_)
  refine g_iconst C (nI 1) dL_law_1158 (k := ?_)
  refine gN_iadd C dL_law_1159 ?_
  refine g_sld C hX hbl hbA (by omega) (by omega) dL_law_1160 ?_
  refine g_aload_n C dL_law_1161 (k := ?_)
  refine g_iload C dL_law_1162 (k := ?_)
  refine g_iconst C (nI 2) dL_law_1164 (k := ?_)
  refine gN_iadd C dL_law_1165 ?_
  refine g_sld C hX hbl hbA (by omega) (by omega) dL_law_1166 ?_
  refine g_cVl (n := 2) (av := [.int (xs (i + 1)), .int (xs (i + 2))]) (rest := []) C 20 (by decide) e20 rfl (m_wordAt (gl M) (by decide) e20 ec ew ht (pgk_lt I.1) I.1.1.2.1 (invN_c I) (invN_w I)  _ _) gL_law_X1_wordAt rfl ⟨rfl, rfl⟩ (by rw [hRM]; exact ⟨Nat.le_of_ble_eq_true rfl, Nat.le_of_ble_eq_true rfl⟩) (by rw [hRM]; exact ⟨show cells + 2 ≤ 601024 by omega, show slots + 12 ≤ 7293034 by omega⟩) (Nat.le_of_ble_eq_true rfl) (by decide +kernel) rfl dL_law_1167 (fun v6 ct2 h2 => ?_)
  obtain ⟨⟨p2, g2, e20b⟩, hval, Iv2⟩ := pu_wordAt S Dm Ho I _ _ h1 h2
  refine g_lstore C dL_law_1170 (k := ?_)
  refine g_aload_n C dL_law_1172 (k := ?_)
  refine g_cVi (n := 0) (av := []) (rest := []) C 20 (by decide) e20b rfl (m_thrown (gl M) (by decide) e20b) gL_law_X1_thrown rfl ⟨rfl, rfl⟩ (by rw [hRM]; exact ⟨Nat.le_of_ble_eq_true rfl, Nat.le_of_ble_eq_true rfl⟩) (by rw [hRM]; exact ⟨show cells + 2 ≤ 601024 by omega, show slots + 12 ≤ 7293034 by omega⟩) (Nat.le_of_ble_eq_true rfl) (by decide +kernel) rfl dL_law_1173 (fun r7 ct7 h7 => ?_)
  refine g_ti r5 h7.1 ?_
  refine g_ct (ct' := ct2) h7.2 ?_
  refine g_iload C dL_law_1176 (k := ?_)
  refine g_ic_eq (tgt := 1183) C dL_law_1178 (by decide) (fun _ => ?_) (fun h => absurd rfl h)
  refine g_iload C dL_law_1183 (k := ?_)
  refine g_if_ne (tgt := 1199) C dL_law_1185 (by decide) (fun _ => ?_) (fun h0 => ?_)
  · refine g_goto (tgt := 1418) C dL_law_1199 (k := ?_)
    exact g_wd (by omega) (by omega) (g_l2 (k ct2 Iv2) ⟨Or.inr rfl, Or.inr rfl, Or.inr rfl, Or.inr rfl, Or.inr rfl, trivial⟩)
  · obtain ⟨o6, e26, ho6⟩ := hval (h0.trans nI_0.symm)
    refine g_aload_n C dL_law_1188 (k := ?_)
    refine g_iconst C (nI 0) dL_law_1189 (k := ?_)
    refine g_lald C 26 0 (by decide) e26 ht (by decide) (by decide) dL_law_1190 ?_
    refine g_lload C dL_law_1191 (k := ?_)
    refine g_lc_eq (tgt := 1199) C dL_law_1193 dL_law_1194 (by decide) (fun _ => ?_) (fun h => absurd ho6 h)
    refine g_goto (tgt := 1418) C dL_law_1199 (k := ?_)
    exact g_wd (by omega) (by omega) (g_l2 (k ct2 Iv2) ⟨Or.inr rfl, Or.inr rfl, Or.inr rfl, Or.inr rfl, Or.inr rfl, trivial⟩)
