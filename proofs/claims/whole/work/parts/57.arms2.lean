set_option maxRecDepth 100000 in
set_option maxHeartbeats 4000000 in
theorem arm_power {M : gM} {D : va_G} {tys : List (ClassId × FieldType)} {A : Nat → Prop} {cJ cQ : ClassId} {b L : Nat} {xs : Nat → Int32} {ad : Nat → Nat} {cells slots : Nat} {Q : State → Prop} {ct : Nat → va_E} (G : gL M D tys A cJ cQ b L xs) {i : Nat} (hi : i + 4 < L) (hce : cells + 4 ≤ 601024) (hsl : slots + 24 ≤ 7293034) (Iv : inv cJ cQ ad ct) (k : ∀ ct', inv cJ cQ ad ct' → gW M D vwCl A 8 (cells + 4) (slots + 24) Q 27 ad 1418 (lvB b ad i) [] ct') : gW M D vwCl A 8 cells slots Q 27 ad 301 (lvB b ad i) [] ct := by
  obtain ⟨C, hT, hn1, hn2, hst, hRM, ht, ht2, hX, hbl, hbA, hL⟩ := G
  obtain ⟨p, g, Mr, Nw, c, wd, S, Dm, Ho, I⟩ := Iv
  obtain ⟨o, ho⟩ := id Ho
  refine g_aload_n C dL_law_301 (k := ?_)
  refine g_aload_n C dL_law_302 (k := ?_)
  refine g_iload C dL_law_303 (k := ?_)
  refine g_iconst C (nI 1) dL_law_305 (k := ?_)
  refine gN_iadd C dL_law_306 ?_
  refine g_sld C hX hbl hbA (by omega) (by omega) dL_law_307 ?_
  refine g_i2l C dL_law_308 ?_
  refine g_bipush C (nI 32) dL_law_309 (k := ?_)
  refine g_lshl C dL_law_311 ?_
  refine g_aload_n C dL_law_312 (k := ?_)
  refine g_iload C dL_law_313 (k := ?_)
  refine g_iconst C (nI 2) dL_law_315 (k := ?_)
  refine gN_iadd C dL_law_316 ?_
  refine g_sld C hX hbl hbA (by omega) (by omega) dL_law_317 ?_
  refine g_i2l C dL_law_318 ?_
  refine g_ldc2 C (v := lN 4294967295) k69 dL_law_319 ?_
  refine g_land C dL_law_322 ?_
  refine g_lor C dL_law_323 ?_
  refine g_tl (lg2 (xs (i + 1)) (xs (i + 2))) rfl ?_
  refine g_aload_n C dL_law_324 (k := ?_)
  refine g_iload C dL_law_325 (k := ?_)
  refine g_iconst C (nI 3) dL_law_327 (k := ?_)
  refine gN_iadd C dL_law_328 ?_
  refine g_sld C hX hbl hbA (by omega) (by omega) dL_law_329 ?_
  refine g_i2l C dL_law_330 ?_
  refine g_bipush C (nI 32) dL_law_331 (k := ?_)
  refine g_lshl C dL_law_333 ?_
  refine g_aload_n C dL_law_334 (k := ?_)
  refine g_iload C dL_law_335 (k := ?_)
  refine g_iconst C (nI 4) dL_law_337 (k := ?_)
  refine gN_iadd C dL_law_338 ?_
  refine g_sld C hX hbl hbA (by omega) (by omega) dL_law_339 ?_
  refine g_i2l C dL_law_340 ?_
  refine g_ldc2 C (v := lN 4294967295) k69 dL_law_341 ?_
  refine g_land C dL_law_344 ?_
  refine g_lor C dL_law_345 ?_
  refine g_tl (lg2 (xs (i + 3)) (xs (i + 4))) rfl ?_
  refine g_aload_n C dL_law_346 (k := ?_)
  refine g_cCi (n := 4) (av := [.ref (ad 0), .long (lg2 (xs (i + 1)) (xs (i + 2))), .long (lg2 (xs (i + 3)) (xs (i + 4))), .ref (ad 26)]) (rest := []) C hT hn1 hn2 (w_power (by decide) S.1 ht _ _ (c_power hst (by decide) S ht ht2 (invN_nv I) _ _) (fun E ct1 h => h.1) (fun v ct1 h => by rw [h.1]; exact ho)) gL_law_L_power rfl ⟨rfl, rfl⟩ (by rw [hRM]; exact ⟨Nat.le_of_ble_eq_true rfl, Nat.le_of_ble_eq_true rfl⟩) (by rw [hRM]; exact ⟨show cells + 1 ≤ 601024 by omega, show slots + 6 ≤ 7293034 by omega⟩) (Nat.le_of_ble_eq_true rfl) (by decide +kernel) rfl dL_law_347 (fun r5 ct1 h1 => ?_)
  have D1 := pm_power S Dm Ho I _ _ h1
  obtain ⟨⟨th, e20⟩, ec, ew, ⟨f23, e23⟩, ⟨f24, e24⟩, f25, e25⟩ := D1
  refine g_istore C dL_law_350 (k := ?_)
  refine g_aload_n C dL_law_352 (k := ?_)
  refine g_aload_n C dL_law_353 (k := ?_)
  refine g_iload C dL_law_354 (k := ?_)
  refine g_iconst C (nI 1) dL_law_356 (k := ?_)
  refine gN_iadd C dL_law_357 ?_
  refine g_sld C hX hbl hbA (by omega) (by omega) dL_law_358 ?_
  refine g_i2l C dL_law_359 ?_
  refine g_bipush C (nI 32) dL_law_360 (k := ?_)
  refine g_lshl C dL_law_362 ?_
  refine g_aload_n C dL_law_363 (k := ?_)
  refine g_iload C dL_law_364 (k := ?_)
  refine g_iconst C (nI 2) dL_law_366 (k := ?_)
  refine gN_iadd C dL_law_367 ?_
  refine g_sld C hX hbl hbA (by omega) (by omega) dL_law_368 ?_
  refine g_i2l C dL_law_369 ?_
  refine g_ldc2 C (v := lN 4294967295) k69 dL_law_370 ?_
  refine g_land C dL_law_373 ?_
  refine g_lor C dL_law_374 ?_
  refine g_tl (lg2 (xs (i + 1)) (xs (i + 2))) rfl ?_
  refine g_aload_n C dL_law_375 (k := ?_)
  refine g_iload C dL_law_376 (k := ?_)
  refine g_iconst C (nI 3) dL_law_378 (k := ?_)
  refine gN_iadd C dL_law_379 ?_
  refine g_sld C hX hbl hbA (by omega) (by omega) dL_law_380 ?_
  refine g_i2l C dL_law_381 ?_
  refine g_bipush C (nI 32) dL_law_382 (k := ?_)
  refine g_lshl C dL_law_384 ?_
  refine g_aload_n C dL_law_385 (k := ?_)
  refine g_iload C dL_law_386 (k := ?_)
  refine g_iconst C (nI 4) dL_law_388 (k := ?_)
  refine gN_iadd C dL_law_389 ?_
  refine g_sld C hX hbl hbA (by omega) (by omega) dL_law_390 ?_
  refine g_i2l C dL_law_391 ?_
  refine g_ldc2 C (v := lN 4294967295) k69 dL_law_392 ?_
  refine g_land C dL_law_395 ?_
  refine g_lor C dL_law_396 ?_
  refine g_tl (lg2 (xs (i + 3)) (xs (i + 4))) rfl ?_
  refine g_cVl (n := 2) (av := [.long (lg2 (xs (i + 1)) (xs (i + 2))), .long (lg2 (xs (i + 3)) (xs (i + 4)))]) (rest := []) C 20 (by decide) e20 rfl (m_power (gl M) (by decide) e20 ec ew ht (pgk_lt I.1) I.1.1.2.1 (invN_c I) (invN_w I)  _ _) gL_law_X1_power rfl ⟨rfl, rfl⟩ (by rw [hRM]; exact ⟨Nat.le_of_ble_eq_true rfl, Nat.le_of_ble_eq_true rfl⟩) (by rw [hRM]; exact ⟨show cells + 1 ≤ 601024 by omega, show slots + 6 ≤ 7293034 by omega⟩) (Nat.le_of_ble_eq_true rfl) (by decide +kernel) rfl dL_law_397 (fun v6 ct2 h2 => ?_)
  obtain ⟨⟨p2, g2, e20b⟩, hval, Iv2⟩ := pu_power S Dm Ho I _ _ h1 h2
  refine g_lstore C dL_law_400 (k := ?_)
  refine g_aload_n C dL_law_402 (k := ?_)
  refine g_cVi (n := 0) (av := []) (rest := []) C 20 (by decide) e20b rfl (m_thrown (gl M) (by decide) e20b) gL_law_X1_thrown rfl ⟨rfl, rfl⟩ (by rw [hRM]; exact ⟨Nat.le_of_ble_eq_true rfl, Nat.le_of_ble_eq_true rfl⟩) (by rw [hRM]; exact ⟨show cells + 1 ≤ 601024 by omega, show slots + 6 ≤ 7293034 by omega⟩) (Nat.le_of_ble_eq_true rfl) (by decide +kernel) rfl dL_law_403 (fun r7 ct7 h7 => ?_)
  refine g_ti r5 h7.1 ?_
  refine g_ct (ct' := ct2) h7.2 ?_
  refine g_iload C dL_law_406 (k := ?_)
  refine g_ic_eq (tgt := 413) C dL_law_408 (by decide) (fun _ => ?_) (fun h => absurd rfl h)
  refine g_iload C dL_law_413 (k := ?_)
  refine g_if_ne (tgt := 429) C dL_law_415 (by decide) (fun _ => ?_) (fun h0 => ?_)
  · refine g_goto (tgt := 1418) C dL_law_429 (k := ?_)
    exact g_wd (by omega) (by omega) (g_l2 (k ct2 Iv2) ⟨Or.inr rfl, Or.inr rfl, Or.inr rfl, Or.inr rfl, Or.inr rfl, trivial⟩)
  · obtain ⟨o6, e26, ho6⟩ := hval (h0.trans nI_0.symm)
    refine g_aload_n C dL_law_418 (k := ?_)
    refine g_iconst C (nI 0) dL_law_419 (k := ?_)
    refine g_lald C 26 0 (by decide) e26 ht (by decide) (by decide) dL_law_420 ?_
    refine g_lload C dL_law_421 (k := ?_)
    refine g_lc_eq (tgt := 429) C dL_law_423 dL_law_424 (by decide) (fun _ => ?_) (fun h => absurd ho6 h)
    refine g_goto (tgt := 1418) C dL_law_429 (k := ?_)
    exact g_wd (by omega) (by omega) (g_l2 (k ct2 Iv2) ⟨Or.inr rfl, Or.inr rfl, Or.inr rfl, Or.inr rfl, Or.inr rfl, trivial⟩)

set_option maxRecDepth 100000 in
set_option maxHeartbeats 4000000 in
theorem arm_inverse {M : gM} {D : va_G} {tys : List (ClassId × FieldType)} {A : Nat → Prop} {cJ cQ : ClassId} {b L : Nat} {xs : Nat → Int32} {ad : Nat → Nat} {cells slots : Nat} {Q : State → Prop} {ct : Nat → va_E} (G : gL M D tys A cJ cQ b L xs) {i : Nat} (hi : i + 4 < L) (hce : cells + 4 ≤ 601024) (hsl : slots + 24 ≤ 7293034) (Iv : inv cJ cQ ad ct) (k : ∀ ct', inv cJ cQ ad ct' → gW M D vwCl A 8 (cells + 4) (slots + 24) Q 27 ad 1418 (lvB b ad i) [] ct') : gW M D vwCl A 8 cells slots Q 27 ad 432 (lvB b ad i) [] ct := by
  obtain ⟨C, hT, hn1, hn2, hst, hRM, ht, ht2, hX, hbl, hbA, hL⟩ := G
  obtain ⟨p, g, Mr, Nw, c, wd, S, Dm, Ho, I⟩ := Iv
  obtain ⟨o, ho⟩ := id Ho
  refine g_aload_n C dL_law_432 (k := ?_)
  refine g_aload_n C dL_law_433 (k := ?_)
  refine g_iload C dL_law_434 (k := ?_)
  refine g_iconst C (nI 1) dL_law_436 (k := ?_)
  refine gN_iadd C dL_law_437 ?_
  refine g_sld C hX hbl hbA (by omega) (by omega) dL_law_438 ?_
  refine g_i2l C dL_law_439 ?_
  refine g_bipush C (nI 32) dL_law_440 (k := ?_)
  refine g_lshl C dL_law_442 ?_
  refine g_aload_n C dL_law_443 (k := ?_)
  refine g_iload C dL_law_444 (k := ?_)
  refine g_iconst C (nI 2) dL_law_446 (k := ?_)
  refine gN_iadd C dL_law_447 ?_
  refine g_sld C hX hbl hbA (by omega) (by omega) dL_law_448 ?_
  refine g_i2l C dL_law_449 ?_
  refine g_ldc2 C (v := lN 4294967295) k69 dL_law_450 ?_
  refine g_land C dL_law_453 ?_
  refine g_lor C dL_law_454 ?_
  refine g_tl (lg2 (xs (i + 1)) (xs (i + 2))) rfl ?_
  refine g_aload_n C dL_law_455 (k := ?_)
  refine g_cCi (n := 3) (av := [.ref (ad 0), .long (lg2 (xs (i + 1)) (xs (i + 2))), .ref (ad 26)]) (rest := []) C hT hn1 hn2 (w_inverse (by decide) S.1 ht _ (c_inverse hst (by decide) S ht ht2 (invN_nv I) _) (fun E ct1 h => h.1) (fun v ct1 h => by rw [h.1]; exact ho)) gL_law_L_inverse rfl ⟨rfl, rfl⟩ (by rw [hRM]; exact ⟨Nat.le_of_ble_eq_true rfl, Nat.le_of_ble_eq_true rfl⟩) (by rw [hRM]; exact ⟨show cells + 1 ≤ 601024 by omega, show slots + 6 ≤ 7293034 by omega⟩) (Nat.le_of_ble_eq_true rfl) (by decide +kernel) rfl dL_law_456 (fun r5 ct1 h1 => ?_)
  have D1 := pm_inverse S Dm Ho I _ h1
  obtain ⟨⟨th, e20⟩, ec, ew, ⟨f23, e23⟩, ⟨f24, e24⟩, f25, e25⟩ := D1
  refine g_istore C dL_law_459 (k := ?_)
  refine g_aload_n C dL_law_461 (k := ?_)
  refine g_aload_n C dL_law_462 (k := ?_)
  refine g_iload C dL_law_463 (k := ?_)
  refine g_iconst C (nI 1) dL_law_465 (k := ?_)
  refine gN_iadd C dL_law_466 ?_
  refine g_sld C hX hbl hbA (by omega) (by omega) dL_law_467 ?_
  refine g_i2l C dL_law_468 ?_
  refine g_bipush C (nI 32) dL_law_469 (k := ?_)
  refine g_lshl C dL_law_471 ?_
  refine g_aload_n C dL_law_472 (k := ?_)
  refine g_iload C dL_law_473 (k := ?_)
  refine g_iconst C (nI 2) dL_law_475 (k := ?_)
  refine gN_iadd C dL_law_476 ?_
  refine g_sld C hX hbl hbA (by omega) (by omega) dL_law_477 ?_
  refine g_i2l C dL_law_478 ?_
  refine g_ldc2 C (v := lN 4294967295) k69 dL_law_479 ?_
  refine g_land C dL_law_482 ?_
  refine g_lor C dL_law_483 ?_
  refine g_tl (lg2 (xs (i + 1)) (xs (i + 2))) rfl ?_
  refine g_cVl (n := 1) (av := [.long (lg2 (xs (i + 1)) (xs (i + 2)))]) (rest := []) C 20 (by decide) e20 rfl (m_inverse (gl M) (by decide) e20 ec ew ht (pgk_lt I.1) I.1.1.2.1 (invN_c I) (invN_w I)  _) gL_law_X1_inverse rfl ⟨rfl, rfl⟩ (by rw [hRM]; exact ⟨Nat.le_of_ble_eq_true rfl, Nat.le_of_ble_eq_true rfl⟩) (by rw [hRM]; exact ⟨show cells + 1 ≤ 601024 by omega, show slots + 6 ≤ 7293034 by omega⟩) (Nat.le_of_ble_eq_true rfl) (by decide +kernel) rfl dL_law_484 (fun v6 ct2 h2 => ?_)
  obtain ⟨⟨p2, g2, e20b⟩, hval, Iv2⟩ := pu_inverse S Dm Ho I _ h1 h2
  refine g_lstore C dL_law_487 (k := ?_)
  refine g_aload_n C dL_law_489 (k := ?_)
  refine g_cVi (n := 0) (av := []) (rest := []) C 20 (by decide) e20b rfl (m_thrown (gl M) (by decide) e20b) gL_law_X1_thrown rfl ⟨rfl, rfl⟩ (by rw [hRM]; exact ⟨Nat.le_of_ble_eq_true rfl, Nat.le_of_ble_eq_true rfl⟩) (by rw [hRM]; exact ⟨show cells + 1 ≤ 601024 by omega, show slots + 6 ≤ 7293034 by omega⟩) (Nat.le_of_ble_eq_true rfl) (by decide +kernel) rfl dL_law_490 (fun r7 ct7 h7 => ?_)
  refine g_ti r5 h7.1 ?_
  refine g_ct (ct' := ct2) h7.2 ?_
  refine g_iload C dL_law_493 (k := ?_)
  refine g_ic_eq (tgt := 500) C dL_law_495 (by decide) (fun _ => ?_) (fun h => absurd rfl h)
  refine g_iload C dL_law_500 (k := ?_)
  refine g_if_ne (tgt := 516) C dL_law_502 (by decide) (fun _ => ?_) (fun h0 => ?_)
  · refine g_goto (tgt := 1418) C dL_law_516 (k := ?_)
    exact g_wd (by omega) (by omega) (g_l2 (k ct2 Iv2) ⟨Or.inr rfl, Or.inr rfl, Or.inr rfl, Or.inr rfl, Or.inr rfl, trivial⟩)
  · obtain ⟨o6, e26, ho6⟩ := hval (h0.trans nI_0.symm)
    refine g_aload_n C dL_law_505 (k := ?_)
    refine g_iconst C (nI 0) dL_law_506 (k := ?_)
    refine g_lald C 26 0 (by decide) e26 ht (by decide) (by decide) dL_law_507 ?_
    refine g_lload C dL_law_508 (k := ?_)
    refine g_lc_eq (tgt := 516) C dL_law_510 dL_law_511 (by decide) (fun _ => ?_) (fun h => absurd ho6 h)
    refine g_goto (tgt := 1418) C dL_law_516 (k := ?_)
    exact g_wd (by omega) (by omega) (g_l2 (k ct2 Iv2) ⟨Or.inr rfl, Or.inr rfl, Or.inr rfl, Or.inr rfl, Or.inr rfl, trivial⟩)

set_option maxRecDepth 100000 in
set_option maxHeartbeats 4000000 in
theorem arm_get {M : gM} {D : va_G} {tys : List (ClassId × FieldType)} {A : Nat → Prop} {cJ cQ : ClassId} {b L : Nat} {xs : Nat → Int32} {ad : Nat → Nat} {cells slots : Nat} {Q : State → Prop} {ct : Nat → va_E} (G : gL M D tys A cJ cQ b L xs) {i : Nat} (hi : i + 4 < L) (hce : cells + 4 ≤ 601024) (hsl : slots + 24 ≤ 7293034) (Iv : inv cJ cQ ad ct) (k : ∀ ct', inv cJ cQ ad ct' → gW M D vwCl A 8 (cells + 4) (slots + 24) Q 27 ad 1418 (lvB b ad i) [] ct') : gW M D vwCl A 8 cells slots Q 27 ad 638 (lvB b ad i) [] ct := by
  obtain ⟨C, hT, hn1, hn2, hst, hRM, ht, ht2, hX, hbl, hbA, hL⟩ := G
  obtain ⟨p, g, Mr, Nw, c, wd, S, Dm, Ho, I⟩ := Iv
  obtain ⟨o, ho⟩ := id Ho
  refine g_aload_n C dL_law_638 (k := ?_)
  refine g_aload_n C dL_law_639 (k := ?_)
  refine g_iload C dL_law_640 (k := ?_)
  refine g_iconst C (nI 1) dL_law_642 (k := ?_)
  refine gN_iadd C dL_law_643 ?_
  refine g_sld C hX hbl hbA (by omega) (by omega) dL_law_644 ?_
  refine g_aload_n C dL_law_645 (k := ?_)
  refine g_iload C dL_law_646 (k := ?_)
  refine g_iconst C (nI 2) dL_law_648 (k := ?_)
  refine gN_iadd C dL_law_649 ?_
  refine g_sld C hX hbl hbA (by omega) (by omega) dL_law_650 ?_
  refine g_aload_n C dL_law_651 (k := ?_)
  refine g_cCi (n := 4) (av := [.ref (ad 0), .int (xs (i + 1)), .int (xs (i + 2)), .ref (ad 26)]) (rest := []) C hT hn1 hn2 (w_get (by decide) S.1 ht _ _ (c_get hst (by decide) S ht ht2 (invN_nv I) _ _) (fun E ct1 h => h.1) (fun v ct1 h => by rw [h.1]; exact ho)) gL_law_L_get rfl ⟨rfl, rfl⟩ (by rw [hRM]; exact ⟨Nat.le_of_ble_eq_true rfl, Nat.le_of_ble_eq_true rfl⟩) (by rw [hRM]; exact ⟨show cells + 2 ≤ 601024 by omega, show slots + 12 ≤ 7293034 by omega⟩) (Nat.le_of_ble_eq_true rfl) (by decide +kernel) rfl dL_law_652 (fun r5 ct1 h1 => ?_)
  have D1 := pm_get S Dm Ho I _ _ h1
  obtain ⟨⟨th, e20⟩, ec, ew, ⟨f23, e23⟩, ⟨f24, e24⟩, f25, e25⟩ := D1
  refine g_istore C dL_law_655 (k := ?_)
  refine g_aload_n C dL_law_657 (k := ?_)
  refine g_aload_n C dL_law_658 (k := ?_)
  refine g_iload C dL_law_659 (k := ?_)
  refine g_iconst C (nI 1) dL_law_661 (k := ?_)
  refine gN_iadd C dL_law_662 ?_
  refine g_sld C hX hbl hbA (by omega) (by omega) dL_law_663 ?_
  refine g_aload_n C dL_law_664 (k := ?_)
  refine g_iload C dL_law_665 (k := ?_)
  refine g_iconst C (nI 2) dL_law_667 (k := ?_)
  refine gN_iadd C dL_law_668 ?_
  refine g_sld C hX hbl hbA (by omega) (by omega) dL_law_669 ?_
  refine g_cVl (n := 2) (av := [.int (xs (i + 1)), .int (xs (i + 2))]) (rest := []) C 20 (by decide) e20 rfl (m_get (gl M) (by decide) e20 ec ew ht (pgk_lt I.1) I.1.1.2.1 (invN_c I) (invN_w I)  _ _) gL_law_X1_get rfl ⟨rfl, rfl⟩ (by rw [hRM]; exact ⟨Nat.le_of_ble_eq_true rfl, Nat.le_of_ble_eq_true rfl⟩) (by rw [hRM]; exact ⟨show cells + 2 ≤ 601024 by omega, show slots + 12 ≤ 7293034 by omega⟩) (Nat.le_of_ble_eq_true rfl) (by decide +kernel) rfl dL_law_670 (fun v6 ct2 h2 => ?_)
  obtain ⟨⟨p2, g2, e20b⟩, hval, Iv2⟩ := pu_get S Dm Ho I _ _ h1 h2
  refine g_lstore C dL_law_673 (k := ?_)
  refine g_aload_n C dL_law_675 (k := ?_)
  refine g_cVi (n := 0) (av := []) (rest := []) C 20 (by decide) e20b rfl (m_thrown (gl M) (by decide) e20b) gL_law_X1_thrown rfl ⟨rfl, rfl⟩ (by rw [hRM]; exact ⟨Nat.le_of_ble_eq_true rfl, Nat.le_of_ble_eq_true rfl⟩) (by rw [hRM]; exact ⟨show cells + 2 ≤ 601024 by omega, show slots + 12 ≤ 7293034 by omega⟩) (Nat.le_of_ble_eq_true rfl) (by decide +kernel) rfl dL_law_676 (fun r7 ct7 h7 => ?_)
  refine g_ti r5 h7.1 ?_
  refine g_ct (ct' := ct2) h7.2 ?_
  refine g_iload C dL_law_679 (k := ?_)
  refine g_ic_eq (tgt := 686) C dL_law_681 (by decide) (fun _ => ?_) (fun h => absurd rfl h)
  refine g_iload C dL_law_686 (k := ?_)
  refine g_if_ne (tgt := 702) C dL_law_688 (by decide) (fun _ => ?_) (fun h0 => ?_)
  · refine g_goto (tgt := 1418) C dL_law_702 (k := ?_)
    exact g_wd (by omega) (by omega) (g_l2 (k ct2 Iv2) ⟨Or.inr rfl, Or.inr rfl, Or.inr rfl, Or.inr rfl, Or.inr rfl, trivial⟩)
  · obtain ⟨o6, e26, ho6⟩ := hval (h0.trans nI_0.symm)
    refine g_aload_n C dL_law_691 (k := ?_)
    refine g_iconst C (nI 0) dL_law_692 (k := ?_)
    refine g_lald C 26 0 (by decide) e26 ht (by decide) (by decide) dL_law_693 ?_
    refine g_lload C dL_law_694 (k := ?_)
    refine g_lc_eq (tgt := 702) C dL_law_696 dL_law_697 (by decide) (fun _ => ?_) (fun h => absurd ho6 h)
    refine g_goto (tgt := 1418) C dL_law_702 (k := ?_)
    exact g_wd (by omega) (by omega) (g_l2 (k ct2 Iv2) ⟨Or.inr rfl, Or.inr rfl, Or.inr rfl, Or.inr rfl, Or.inr rfl, trivial⟩)

set_option maxRecDepth 100000 in
set_option maxHeartbeats 4000000 in
theorem arm_length {M : gM} {D : va_G} {tys : List (ClassId × FieldType)} {A : Nat → Prop} {cJ cQ : ClassId} {b L : Nat} {xs : Nat → Int32} {ad : Nat → Nat} {cells slots : Nat} {Q : State → Prop} {ct : Nat → va_E} (G : gL M D tys A cJ cQ b L xs) {i : Nat} (hi : i + 4 < L) (hce : cells + 4 ≤ 601024) (hsl : slots + 24 ≤ 7293034) (Iv : inv cJ cQ ad ct) (k : ∀ ct', inv cJ cQ ad ct' → gW M D vwCl A 8 (cells + 4) (slots + 24) Q 27 ad 1418 (lvB b ad i) [] ct') : gW M D vwCl A 8 cells slots Q 27 ad 705 (lvB b ad i) [] ct := by
  obtain ⟨C, hT, hn1, hn2, hst, hRM, ht, ht2, hX, hbl, hbA, hL⟩ := G
  obtain ⟨p, g, Mr, Nw, c, wd, S, Dm, Ho, I⟩ := Iv
  obtain ⟨o, ho⟩ := id Ho
  refine g_aload_n C dL_law_705 (k := ?_)
  refine g_aload_n C dL_law_706 (k := ?_)
  refine g_iload C dL_law_707 (k := ?_)
  refine g_iconst C (nI 1) dL_law_709 (k := ?_)
  refine gN_iadd C dL_law_710 ?_
  refine g_sld C hX hbl hbA (by omega) (by omega) dL_law_711 ?_
  refine g_aload_n C dL_law_712 (k := ?_)
  refine g_cCi (n := 3) (av := [.ref (ad 0), .int (xs (i + 1)), .ref (ad 26)]) (rest := []) C hT hn1 hn2 (w_length (by decide) S.1 ht _ (c_length hst (by decide) S ht ht2 (invN_nv I) _) (fun E ct1 h => h.1) (fun v ct1 h => by rw [h.1]; exact ho)) gL_law_L_length rfl ⟨rfl, rfl⟩ (by rw [hRM]; exact ⟨Nat.le_of_ble_eq_true rfl, Nat.le_of_ble_eq_true rfl⟩) (by rw [hRM]; exact ⟨show cells + 1 ≤ 601024 by omega, show slots + 6 ≤ 7293034 by omega⟩) (Nat.le_of_ble_eq_true rfl) (by decide +kernel) rfl dL_law_713 (fun r5 ct1 h1 => ?_)
  have D1 := pm_length S Dm Ho I _ h1
  obtain ⟨⟨th, e20⟩, ec, ew, ⟨f23, e23⟩, ⟨f24, e24⟩, f25, e25⟩ := D1
  refine g_istore C dL_law_716 (k := ?_)
  refine g_aload_n C dL_law_718 (k := ?_)
  refine g_aload_n C dL_law_719 (k := ?_)
  refine g_iload C dL_law_720 (k := ?_)
  refine g_iconst C (nI 1) dL_law_722 (k := ?_)
  refine gN_iadd C dL_law_723 ?_
  refine g_sld C hX hbl hbA (by omega) (by omega) dL_law_724 ?_
  refine g_cVi (n := 1) (av := [.int (xs (i + 1))]) (rest := []) C 20 (by decide) e20 rfl (m_length (gl M) (by decide) e20 ec ew ht (pgk_lt I.1) I.1.1.2.1 (invN_c I) (invN_w I)  _) gL_law_X1_length rfl ⟨rfl, rfl⟩ (by rw [hRM]; exact ⟨Nat.le_of_ble_eq_true rfl, Nat.le_of_ble_eq_true rfl⟩) (by rw [hRM]; exact ⟨show cells + 1 ≤ 601024 by omega, show slots + 6 ≤ 7293034 by omega⟩) (Nat.le_of_ble_eq_true rfl) (by decide +kernel) rfl dL_law_725 (fun v6 ct2 h2 => ?_)
  obtain ⟨⟨p2, g2, e20b⟩, hval, Iv2⟩ := pu_length S Dm Ho I _ h1 h2
  refine g_istore C dL_law_728 (k := ?_)
  refine g_aload_n C dL_law_730 (k := ?_)
  refine g_cVi (n := 0) (av := []) (rest := []) C 20 (by decide) e20b rfl (m_thrown (gl M) (by decide) e20b) gL_law_X1_thrown rfl ⟨rfl, rfl⟩ (by rw [hRM]; exact ⟨Nat.le_of_ble_eq_true rfl, Nat.le_of_ble_eq_true rfl⟩) (by rw [hRM]; exact ⟨show cells + 1 ≤ 601024 by omega, show slots + 6 ≤ 7293034 by omega⟩) (Nat.le_of_ble_eq_true rfl) (by decide +kernel) rfl dL_law_731 (fun r7 ct7 h7 => ?_)
  refine g_ti r5 h7.1 ?_
  refine g_ct (ct' := ct2) h7.2 ?_
  refine g_iload C dL_law_734 (k := ?_)
  refine g_ic_eq (tgt := 741) C dL_law_736 (by decide) (fun _ => ?_) (fun h => absurd rfl h)
  refine g_iload C dL_law_741 (k := ?_)
  refine g_if_ne (tgt := 758) C dL_law_743 (by decide) (fun _ => ?_) (fun h0 => ?_)
  · refine g_goto (tgt := 1418) C dL_law_758 (k := ?_)
    exact g_wd (by omega) (by omega) (g_l2 (k ct2 Iv2) ⟨Or.inr rfl, Or.inr rfl, Or.inr rfl, Or.inr rfl, Or.inr rfl, trivial⟩)
  · obtain ⟨o6, e26, ho6⟩ := hval (h0.trans nI_0.symm)
    refine g_aload_n C dL_law_746 (k := ?_)
    refine g_iconst C (nI 0) dL_law_747 (k := ?_)
    refine g_lald C 26 0 (by decide) e26 ht (by decide) (by decide) dL_law_748 ?_
    refine g_iload C dL_law_749 (k := ?_)
    refine g_i2l C dL_law_751 ?_
    refine g_lc_eq (tgt := 758) C dL_law_752 dL_law_753 (by decide) (fun _ => ?_) (fun h => absurd ho6 h)
    refine g_goto (tgt := 1418) C dL_law_758 (k := ?_)
    exact g_wd (by omega) (by omega) (g_l2 (k ct2 Iv2) ⟨Or.inr rfl, Or.inr rfl, Or.inr rfl, Or.inr rfl, Or.inr rfl, trivial⟩)
