set_option maxRecDepth 100000 in
set_option maxHeartbeats 4000000 in
theorem arm_size {M : gM} {D : va_G} {tys : List (ClassId × FieldType)} {A : Nat → Prop} {cJ cQ : ClassId} {b L : Nat} {xs : Nat → Int32} {ad : Nat → Nat} {cells slots : Nat} {Q : State → Prop} {ct : Nat → va_E} (G : gL M D tys A cJ cQ b L xs) {i : Nat} (hi : i + 4 < L) (hce : cells + 4 ≤ 601024) (hsl : slots + 24 ≤ 7293034) (Iv : inv cJ cQ ad ct) (k : ∀ ct', inv cJ cQ ad ct' → gW M D vwCl A 8 (cells + 4) (slots + 24) Q 27 ad 1418 (lvB b ad i) [] ct') : gW M D vwCl A 8 cells slots Q 27 ad 1202 (lvB b ad i) [] ct := by
  obtain ⟨C, hT, hn1, hn2, hst, hRM, ht, ht2, hX, hbl, hbA, hL⟩ := G
  obtain ⟨p, g, Mr, Nw, c, wd, S, Dm, Ho, I⟩ := Iv
  obtain ⟨o, ho⟩ := id Ho
  refine g_aload_n C dL_law_1202 (k := ?_)
  refine g_aload_n C dL_law_1203 (k := ?_)
  refine g_iload C dL_law_1204 (k := ?_)
  refine g_iconst C (nI 1) dL_law_1206 (k := ?_)
  refine gN_iadd C dL_law_1207 ?_
  refine g_sld C hX hbl hbA (by omega) (by omega) dL_law_1208 ?_
  refine g_aload_n C dL_law_1209 (k := ?_)
  refine g_cCi (n := 3) (av := [.ref (ad 0), .int (xs (i + 1)), .ref (ad 26)]) (rest := []) C hT hn1 hn2 (w_size (by decide) S.1 ht _ (c_size hst (by decide) S ht ht2 (invN_nv I) _) (fun E ct1 h => h.1) (fun v ct1 h => by rw [h.1]; exact ho)) gL_law_L_size rfl ⟨rfl, rfl⟩ (by rw [hRM]; exact ⟨Nat.le_of_ble_eq_true rfl, Nat.le_of_ble_eq_true rfl⟩) (by rw [hRM]; exact ⟨show cells + 1 ≤ 601024 by omega, show slots + 6 ≤ 7293034 by omega⟩) (Nat.le_of_ble_eq_true rfl) (by decide +kernel) rfl dL_law_1210 (fun r5 ct1 h1 => ?_)
  have D1 := pm_size S Dm Ho I _ h1
  obtain ⟨⟨th, e20⟩, ec, ew, ⟨f23, e23⟩, ⟨f24, e24⟩, f25, e25⟩ := D1
  refine g_istore C dL_law_1213 (k := ?_)
  refine g_aload_n C dL_law_1215 (k := ?_)
  refine g_aload_n C dL_law_1216 (k := ?_)
  refine g_iload C dL_law_1217 (k := ?_)
  refine g_iconst C (nI 1) dL_law_1219 (k := ?_)
  refine gN_iadd C dL_law_1220 ?_
  refine g_sld C hX hbl hbA (by omega) (by omega) dL_law_1221 ?_
  refine g_cVi (n := 1) (av := [.int (xs (i + 1))]) (rest := []) C 20 (by decide) e20 rfl (m_size (gl M) (by decide) e20 ec ew ht (pgk_lt I.1) I.1.1.2.1 (invN_c I) (invN_w I)  _) gL_law_X1_size rfl ⟨rfl, rfl⟩ (by rw [hRM]; exact ⟨Nat.le_of_ble_eq_true rfl, Nat.le_of_ble_eq_true rfl⟩) (by rw [hRM]; exact ⟨show cells + 1 ≤ 601024 by omega, show slots + 6 ≤ 7293034 by omega⟩) (Nat.le_of_ble_eq_true rfl) (by decide +kernel) rfl dL_law_1222 (fun v6 ct2 h2 => ?_)
  obtain ⟨⟨p2, g2, e20b⟩, hval, Iv2⟩ := pu_size S Dm Ho I _ h1 h2
  refine g_istore C dL_law_1225 (k := ?_)
  refine g_aload_n C dL_law_1227 (k := ?_)
  refine g_cVi (n := 0) (av := []) (rest := []) C 20 (by decide) e20b rfl (m_thrown (gl M) (by decide) e20b) gL_law_X1_thrown rfl ⟨rfl, rfl⟩ (by rw [hRM]; exact ⟨Nat.le_of_ble_eq_true rfl, Nat.le_of_ble_eq_true rfl⟩) (by rw [hRM]; exact ⟨show cells + 1 ≤ 601024 by omega, show slots + 6 ≤ 7293034 by omega⟩) (Nat.le_of_ble_eq_true rfl) (by decide +kernel) rfl dL_law_1228 (fun r7 ct7 h7 => ?_)
  refine g_ti r5 h7.1 ?_
  refine g_ct (ct' := ct2) h7.2 ?_
  refine g_iload C dL_law_1231 (k := ?_)
  refine g_ic_eq (tgt := 1238) C dL_law_1233 (by decide) (fun _ => ?_) (fun h => absurd rfl h)
  refine g_iload C dL_law_1238 (k := ?_)
  refine g_if_ne (tgt := 1255) C dL_law_1240 (by decide) (fun _ => ?_) (fun h0 => ?_)
  · refine g_goto (tgt := 1418) C dL_law_1255 (k := ?_)
    exact g_wd (by omega) (by omega) (g_l2 (k ct2 Iv2) ⟨Or.inr rfl, Or.inr rfl, Or.inr rfl, Or.inr rfl, Or.inr rfl, trivial⟩)
  · obtain ⟨o6, e26, ho6⟩ := hval (h0.trans nI_0.symm)
    refine g_aload_n C dL_law_1243 (k := ?_)
    refine g_iconst C (nI 0) dL_law_1244 (k := ?_)
    refine g_lald C 26 0 (by decide) e26 ht (by decide) (by decide) dL_law_1245 ?_
    refine g_iload C dL_law_1246 (k := ?_)
    refine g_i2l C dL_law_1248 ?_
    refine g_lc_eq (tgt := 1255) C dL_law_1249 dL_law_1250 (by decide) (fun _ => ?_) (fun h => absurd ho6 h)
    refine g_goto (tgt := 1418) C dL_law_1255 (k := ?_)
    exact g_wd (by omega) (by omega) (g_l2 (k ct2 Iv2) ⟨Or.inr rfl, Or.inr rfl, Or.inr rfl, Or.inr rfl, Or.inr rfl, trivial⟩)

set_option maxRecDepth 100000 in
set_option maxHeartbeats 4000000 in
theorem arm_multiply {M : gM} {D : va_G} {tys : List (ClassId × FieldType)} {A : Nat → Prop} {cJ cQ : ClassId} {b L : Nat} {xs : Nat → Int32} {ad : Nat → Nat} {cells slots : Nat} {Q : State → Prop} {ct : Nat → va_E} (G : gL M D tys A cJ cQ b L xs) {i : Nat} (hi : i + 4 < L) (hce : cells + 4 ≤ 601024) (hsl : slots + 24 ≤ 7293034) (Iv : inv cJ cQ ad ct) (k : ∀ ct', inv cJ cQ ad ct' → gW M D vwCl A 8 (cells + 4) (slots + 24) Q 27 ad 1418 (lvB b ad i) [] ct') : gW M D vwCl A 8 cells slots Q 27 ad 1258 (lvB b ad i) [] ct := by
  obtain ⟨C, hT, hn1, hn2, hst, hRM, ht, ht2, hX, hbl, hbA, hL⟩ := G
  obtain ⟨p, g, Mr, Nw, c, wd, S, Dm, Ho, I⟩ := Iv
  obtain ⟨o, ho⟩ := id Ho
  refine g_aload_n C dL_law_1258 (k := ?_)
  refine g_aload_n C dL_law_1259 (k := ?_)
  refine g_iload C dL_law_1260 (k := ?_)
  refine g_iconst C (nI 1) dL_law_1262 (k := ?_)
  refine gN_iadd C dL_law_1263 ?_
  refine g_sld C hX hbl hbA (by omega) (by omega) dL_law_1264 ?_
  refine g_aload_n C dL_law_1265 (k := ?_)
  refine g_iload C dL_law_1266 (k := ?_)
  refine g_iconst C (nI 2) dL_law_1268 (k := ?_)
  refine gN_iadd C dL_law_1269 ?_
  refine g_sld C hX hbl hbA (by omega) (by omega) dL_law_1270 ?_
  refine g_aload_n C dL_law_1271 (k := ?_)
  refine g_iload C dL_law_1272 (k := ?_)
  refine g_iconst C (nI 3) dL_law_1274 (k := ?_)
  refine gN_iadd C dL_law_1275 ?_
  refine g_sld C hX hbl hbA (by omega) (by omega) dL_law_1276 ?_
  refine g_aload_n C dL_law_1277 (k := ?_)
  refine g_cCi (n := 5) (av := [.ref (ad 0), .int (xs (i + 1)), .int (xs (i + 2)), .int (xs (i + 3)), .ref (ad 26)]) (rest := []) C hT hn1 hn2 (w_multiply (by decide) S.1 ht _ _ _ (c_multiply hst (by decide) S ht ht2 (invN_nv I) _ _ _) (fun E ct1 h => h.2.elim (fun q => Or.inl q.1) (fun q => Or.inr q.1)) (fun v ct1 h => by
      obtain ⟨t, i, j, ht, -, -, -, -, -, ⟨-, -, rfl⟩ | ⟨-, -, -, -, rfl⟩⟩ := h
      · rw [va_up_ne _ _ (by omega)]; exact ho
      · rw [va_up_ne _ _ (by omega), va_up_ne _ _ (by omega)]; exact ho)) gL_law_L_multiply rfl ⟨rfl, rfl⟩ (by rw [hRM]; exact ⟨Nat.le_of_ble_eq_true rfl, Nat.le_of_ble_eq_true rfl⟩) (by rw [hRM]; exact ⟨show cells + 4 ≤ 601024 by omega, show slots + 24 ≤ 7293034 by omega⟩) (Nat.le_of_ble_eq_true rfl) (by decide +kernel) rfl dL_law_1278 (fun r5 ct1 h1 => ?_)
  have D1 := pm_multiply S Dm Ho I _ _ _ h1
  obtain ⟨⟨th, e20⟩, ec, ew, ⟨f23, e23⟩, ⟨f24, e24⟩, f25, e25⟩ := D1
  refine g_istore C dL_law_1281 (k := ?_)
  refine g_aload_n C dL_law_1283 (k := ?_)
  refine g_aload_n C dL_law_1284 (k := ?_)
  refine g_iload C dL_law_1285 (k := ?_)
  refine g_iconst C (nI 1) dL_law_1287 (k := ?_)
  refine gN_iadd C dL_law_1288 ?_
  refine g_sld C hX hbl hbA (by omega) (by omega) dL_law_1289 ?_
  refine g_aload_n C dL_law_1290 (k := ?_)
  refine g_iload C dL_law_1291 (k := ?_)
  refine g_iconst C (nI 2) dL_law_1293 (k := ?_)
  refine gN_iadd C dL_law_1294 ?_
  refine g_sld C hX hbl hbA (by omega) (by omega) dL_law_1295 ?_
  refine g_aload_n C dL_law_1296 (k := ?_)
  refine g_iload C dL_law_1297 (k := ?_)
  refine g_iconst C (nI 3) dL_law_1299 (k := ?_)
  refine gN_iadd C dL_law_1300 ?_
  refine g_sld C hX hbl hbA (by omega) (by omega) dL_law_1301 ?_
  refine g_cVi (n := 3) (av := [.int (xs (i + 1)), .int (xs (i + 2)), .int (xs (i + 3))]) (rest := []) C 20 (by decide) e20 rfl (m_multiply (gl M) (by decide) e20 ec ew ht (pgk_lt I.1) I.1.1.2.1 (invN_c I) (invN_w I) e25 _ _ _) gL_law_X1_multiply rfl ⟨rfl, rfl⟩ (by rw [hRM]; exact ⟨Nat.le_of_ble_eq_true rfl, Nat.le_of_ble_eq_true rfl⟩) (by rw [hRM]; exact ⟨show cells + 4 ≤ 601024 by omega, show slots + 24 ≤ 7293034 by omega⟩) (Nat.le_of_ble_eq_true rfl) (by decide +kernel) rfl dL_law_1302 (fun v6 ct2 h2 => ?_)
  obtain ⟨⟨p2, g2, e20b⟩, hval, Iv2⟩ := pu_multiply S Dm Ho I _ _ _ h1 h2
  refine g_istore C dL_law_1305 (k := ?_)
  refine g_aload_n C dL_law_1307 (k := ?_)
  refine g_cVi (n := 0) (av := []) (rest := []) C 20 (by decide) e20b rfl (m_thrown (gl M) (by decide) e20b) gL_law_X1_thrown rfl ⟨rfl, rfl⟩ (by rw [hRM]; exact ⟨Nat.le_of_ble_eq_true rfl, Nat.le_of_ble_eq_true rfl⟩) (by rw [hRM]; exact ⟨show cells + 4 ≤ 601024 by omega, show slots + 24 ≤ 7293034 by omega⟩) (Nat.le_of_ble_eq_true rfl) (by decide +kernel) rfl dL_law_1308 (fun r7 ct7 h7 => ?_)
  refine g_ti r5 h7.1 ?_
  refine g_ct (ct' := ct2) h7.2 ?_
  refine g_iload C dL_law_1311 (k := ?_)
  refine g_ic_eq (tgt := 1318) C dL_law_1313 (by decide) (fun _ => ?_) (fun h => absurd rfl h)
  refine g_iload C dL_law_1318 (k := ?_)
  refine g_if_ne (tgt := 1335) C dL_law_1320 (by decide) (fun _ => ?_) (fun h0 => ?_)
  · refine g_goto (tgt := 1418) C dL_law_1335 (k := ?_)
    exact g_wd (by omega) (by omega) (g_l2 (k ct2 Iv2) ⟨Or.inr rfl, Or.inr rfl, Or.inr rfl, Or.inr rfl, Or.inr rfl, trivial⟩)
  · obtain ⟨o6, e26, ho6⟩ := hval (h0.trans nI_0.symm)
    refine g_aload_n C dL_law_1323 (k := ?_)
    refine g_iconst C (nI 0) dL_law_1324 (k := ?_)
    refine g_lald C 26 0 (by decide) e26 ht (by decide) (by decide) dL_law_1325 ?_
    refine g_iload C dL_law_1326 (k := ?_)
    refine g_i2l C dL_law_1328 ?_
    refine g_lc_eq (tgt := 1335) C dL_law_1329 dL_law_1330 (by decide) (fun _ => ?_) (fun h => absurd ho6 h)
    refine g_goto (tgt := 1418) C dL_law_1335 (k := ?_)
    exact g_wd (by omega) (by omega) (g_l2 (k ct2 Iv2) ⟨Or.inr rfl, Or.inr rfl, Or.inr rfl, Or.inr rfl, Or.inr rfl, trivial⟩)

set_option maxRecDepth 100000 in
set_option maxHeartbeats 4000000 in
theorem arm_sum {M : gM} {D : va_G} {tys : List (ClassId × FieldType)} {A : Nat → Prop} {cJ cQ : ClassId} {b L : Nat} {xs : Nat → Int32} {ad : Nat → Nat} {cells slots : Nat} {Q : State → Prop} {ct : Nat → va_E} (G : gL M D tys A cJ cQ b L xs) {i : Nat} (hi : i + 4 < L) (hce : cells + 4 ≤ 601024) (hsl : slots + 24 ≤ 7293034) (Iv : inv cJ cQ ad ct) (k : ∀ ct', inv cJ cQ ad ct' → gW M D vwCl A 8 (cells + 4) (slots + 24) Q 27 ad 1418 (lvB b ad i) [] ct') : gW M D vwCl A 8 cells slots Q 27 ad 1338 (lvB b ad i) [] ct := by
  obtain ⟨C, hT, hn1, hn2, hst, hRM, ht, ht2, hX, hbl, hbA, hL⟩ := G
  obtain ⟨p, g, Mr, Nw, c, wd, S, Dm, Ho, I⟩ := Iv
  obtain ⟨o, ho⟩ := id Ho
  refine g_aload_n C dL_law_1338 (k := ?_)
  refine g_aload_n C dL_law_1339 (k := ?_)
  refine g_iload C dL_law_1340 (k := ?_)
  refine g_iconst C (nI 1) dL_law_1342 (k := ?_)
  refine gN_iadd C dL_law_1343 ?_
  refine g_sld C hX hbl hbA (by omega) (by omega) dL_law_1344 ?_
  refine g_aload_n C dL_law_1345 (k := ?_)
  refine g_iload C dL_law_1346 (k := ?_)
  refine g_iconst C (nI 2) dL_law_1348 (k := ?_)
  refine gN_iadd C dL_law_1349 ?_
  refine g_sld C hX hbl hbA (by omega) (by omega) dL_law_1350 ?_
  refine g_aload_n C dL_law_1351 (k := ?_)
  refine g_iload C dL_law_1352 (k := ?_)
  refine g_iconst C (nI 3) dL_law_1354 (k := ?_)
  refine gN_iadd C dL_law_1355 ?_
  refine g_sld C hX hbl hbA (by omega) (by omega) dL_law_1356 ?_
  refine g_aload_n C dL_law_1357 (k := ?_)
  refine g_cCi (n := 5) (av := [.ref (ad 0), .int (xs (i + 1)), .int (xs (i + 2)), .int (xs (i + 3)), .ref (ad 26)]) (rest := []) C hT hn1 hn2 (w_sum (by decide) S.1 ht _ _ _ (c_sum hst (by decide) S ht ht2 (invN_nv I) _ _ _) (fun E ct1 h => h.elim (fun q => Or.inl q.2.1) (fun q => Or.inr q.1)) (fun v ct1 h => by obtain ⟨t, i, j, ht, -, -, -, -, -, -, -, rfl⟩ := h; rw [va_up_ne _ _ (by omega), va_up_ne _ _ (by omega)]; exact ho)) gL_law_L_sum rfl ⟨rfl, rfl⟩ (by rw [hRM]; exact ⟨Nat.le_of_ble_eq_true rfl, Nat.le_of_ble_eq_true rfl⟩) (by rw [hRM]; exact ⟨show cells + 4 ≤ 601024 by omega, show slots + 24 ≤ 7293034 by omega⟩) (Nat.le_of_ble_eq_true rfl) (by decide +kernel) rfl dL_law_1358 (fun r5 ct1 h1 => ?_)
  have D1 := pm_sum S Dm Ho I _ _ _ h1
  obtain ⟨⟨th, e20⟩, ec, ew, ⟨f23, e23⟩, ⟨f24, e24⟩, f25, e25⟩ := D1
  refine g_istore C dL_law_1361 (k := ?_)
  refine g_aload_n C dL_law_1363 (k := ?_)
  refine g_aload_n C dL_law_1364 (k := ?_)
  refine g_iload C dL_law_1365 (k := ?_)
  refine g_iconst C (nI 1) dL_law_1367 (k := ?_)
  refine gN_iadd C dL_law_1368 ?_
  refine g_sld C hX hbl hbA (by omega) (by omega) dL_law_1369 ?_
  refine g_aload_n C dL_law_1370 (k := ?_)
  refine g_iload C dL_law_1371 (k := ?_)
  refine g_iconst C (nI 2) dL_law_1373 (k := ?_)
  refine gN_iadd C dL_law_1374 ?_
  refine g_sld C hX hbl hbA (by omega) (by omega) dL_law_1375 ?_
  refine g_aload_n C dL_law_1376 (k := ?_)
  refine g_iload C dL_law_1377 (k := ?_)
  refine g_iconst C (nI 3) dL_law_1379 (k := ?_)
  refine gN_iadd C dL_law_1380 ?_
  refine g_sld C hX hbl hbA (by omega) (by omega) dL_law_1381 ?_
  refine g_cVi (n := 3) (av := [.int (xs (i + 1)), .int (xs (i + 2)), .int (xs (i + 3))]) (rest := []) C 20 (by decide) e20 rfl (m_sum (gl M) (by decide) e20 ec ew ht (pgk_lt I.1) I.1.1.2.1 (invN_c I) (invN_w I) e25 _ _ _) gL_law_X1_sum rfl ⟨rfl, rfl⟩ (by rw [hRM]; exact ⟨Nat.le_of_ble_eq_true rfl, Nat.le_of_ble_eq_true rfl⟩) (by rw [hRM]; exact ⟨show cells + 4 ≤ 601024 by omega, show slots + 24 ≤ 7293034 by omega⟩) (Nat.le_of_ble_eq_true rfl) (by decide +kernel) rfl dL_law_1382 (fun v6 ct2 h2 => ?_)
  obtain ⟨⟨p2, g2, e20b⟩, hval, Iv2⟩ := pu_sum S Dm Ho I _ _ _ h1 h2
  refine g_istore C dL_law_1385 (k := ?_)
  refine g_aload_n C dL_law_1387 (k := ?_)
  refine g_cVi (n := 0) (av := []) (rest := []) C 20 (by decide) e20b rfl (m_thrown (gl M) (by decide) e20b) gL_law_X1_thrown rfl ⟨rfl, rfl⟩ (by rw [hRM]; exact ⟨Nat.le_of_ble_eq_true rfl, Nat.le_of_ble_eq_true rfl⟩) (by rw [hRM]; exact ⟨show cells + 4 ≤ 601024 by omega, show slots + 24 ≤ 7293034 by omega⟩) (Nat.le_of_ble_eq_true rfl) (by decide +kernel) rfl dL_law_1388 (fun r7 ct7 h7 => ?_)
  refine g_ti r5 h7.1 ?_
  refine g_ct (ct' := ct2) h7.2 ?_
  refine g_iload C dL_law_1391 (k := ?_)
  refine g_ic_eq (tgt := 1398) C dL_law_1393 (by decide) (fun _ => ?_) (fun h => absurd rfl h)
  refine g_iload C dL_law_1398 (k := ?_)
  refine g_if_ne (tgt := 1415) C dL_law_1400 (by decide) (fun _ => ?_) (fun h0 => ?_)
  · refine g_goto (tgt := 1418) C dL_law_1415 (k := ?_)
    exact g_wd (by omega) (by omega) (g_l2 (k ct2 Iv2) ⟨Or.inr rfl, Or.inr rfl, Or.inr rfl, Or.inr rfl, Or.inr rfl, trivial⟩)
  · obtain ⟨o6, e26, ho6⟩ := hval (h0.trans nI_0.symm)
    refine g_aload_n C dL_law_1403 (k := ?_)
    refine g_iconst C (nI 0) dL_law_1404 (k := ?_)
    refine g_lald C 26 0 (by decide) e26 ht (by decide) (by decide) dL_law_1405 ?_
    refine g_iload C dL_law_1406 (k := ?_)
    refine g_i2l C dL_law_1408 ?_
    refine g_lc_eq (tgt := 1415) C dL_law_1409 dL_law_1410 (by decide) (fun _ => ?_) (fun h => absurd ho6 h)
    refine g_goto (tgt := 1418) C dL_law_1415 (k := ?_)
    exact g_wd (by omega) (by omega) (g_l2 (k ct2 Iv2) ⟨Or.inr rfl, Or.inr rfl, Or.inr rfl, Or.inr rfl, Or.inr rfl, trivial⟩)
