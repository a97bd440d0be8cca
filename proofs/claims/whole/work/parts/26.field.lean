/-! ===== field ===== -/
/-- as told: 2 .. 2 to the 31 less 1, one less a multiple of 512 -/
abbrev fok (n : Nat) : Prop := 2 ≤ n ∧ n < 2 ^ 31 ∧ (n - 1) % 512 = 0
theorem lrf_lt {p : Nat} {L : List Nat} : ∀ {f g0 g : Nat}, lrf p L f g0 = some g → g0 ≤ g ∧ g < g0 + f
  | 0, _, _, h => by cases h
  | f + 1, g0, g, h => by
    unfold lrf at h
    split at h
    · split at h
      · cases h; omega
      · have := lrf_lt (f := f) (g0 := g0 + 1) h
        omega
    · cases h
/-- rows 0 .. i - 1 are 0 -/
def zrw (cJ : ClassId) (ct : Nat → va_E) (i : Nat) : Nat → va_E := fun k => if 3 ≤ k ∧ k < 3 + i then LN cJ 512 (fun _ => 0) else ct k
theorem zrw_0 (cJ : ClassId) (ct : Nat → va_E) : zrw cJ ct 0 = ct := by
  funext k; unfold zrw; rw [if_neg (by omega)]
theorem zrw_s (cJ : ClassId) (ct : Nat → va_E) (i : Nat) : va_up (zrw cJ ct i) (3 + i) (LN cJ 512 (fun _ => 0)) = zrw cJ ct (i + 1) := by
  funext k
  by_cases h : k = 3 + i
  · subst h; rw [va_up_self]; unfold zrw; rw [if_pos (by omega)]
  · rw [va_up_ne _ _ h]
    unfold zrw
    by_cases h2 : 3 ≤ k ∧ k < 3 + i
    · rw [if_pos h2, if_pos (by omega)]
    · rw [if_neg h2, if_neg (by omega)]
theorem zrw_n (cJ : ClassId) (ct : Nat → va_E) (i : Nat) {k : Nat} (h : k < 3 ∨ 9 ≤ k ∨ 3 + i ≤ k) (hi : i ≤ 6) : zrw cJ ct i k = ct k := by
  unfold zrw; rw [if_neg (by omega)]
abbrev rfi : Room := { frames := 6, cells := 1, slots := 6, locals := 82 }

set_option maxRecDepth 100000 in
set_option maxHeartbeats 4000000 in
theorem c_field {l : Launch} (hl : l.stackTraces = false) {D : va_G} {tys : List (ClassId × FieldType)} {N : Nat} {ad : Nat → Nat} {ct : Nat → va_E} (hN : 20 ≤ N) {cJ cQ : ClassId} {p : Nat} {wn : Nat → Nat} {Mr Nw : Nat → Nat → Nat} (S : stX cJ cQ ad p wn Mr Nw ct) (ht : tys[0]? = some (cJ, .long)) (ht2 : tys[1]? = some (cQ, .array .long)) (hv : nvX p wn Mr Nw) (x : Int64) :
    gTl l yX0_field wsX0_field rfi 1 6 D vwCl tys N ad [.ref (ad 0), .long x] ct (fun r ct1 => ∃ n g fa, fok n ∧ x = lN n ∧ lrf n (facs (n - 1)) (n - 2) 2 = some g ∧ r = lN g ∧ ct1 = zrw cJ (va_up (va_up (va_up ct 16 (LN cJ 9 fa)) 0 (obX n ad)) 1 (LN cJ 512 (fun k => (g ^ ((n - 1) / 512) % n) ^ k % n))) 6) (fun E ct1 => E = xIA ∧ ((ct1 = ct ∧ ¬ ∃ n, fok n ∧ x = lN n) ∨ ∃ n fa, fok n ∧ x = lN n ∧ lrf n (facs (n - 1)) (n - 2) 2 = none ∧ ct1 = va_up ct 16 (LN cJ 9 fa))) := by
  refine gofT_l (cc := cX0_field) (maxL := 6) (by decide) rfl (Nat.le_of_ble_eq_true rfl) ?_
  intro M sz C hlM hRM hr hT hE
  have h0 : 0 < N := by omega
  refine g_lload_n C dX0_field_0 (k := ?_)
  refine g_ldc2 (v := 2) C (by decide +kernel) dX0_field_1 ?_
  refine g_tl (lN 2) rfl ?_
  by_cases h1 : x < lN 2
  · refine g_lc_lt (tgt := 28) C dX0_field_4 dX0_field_5 (by decide) (fun _ => ?_) (fun h => absurd h1 h)
    have hno : ¬ ∃ n, fok n ∧ x = lN n := by
      rintro ⟨n, hn, rfl⟩
      have := (pk_lLT (by omega) (by decide)).mp h1
      omega
    exact g_throwS (E := xIA) (text := "not below 2 to the 31, or 512 does not divide p - 1") C hT (by rw [hlM]; exact hl) hE rfl (by decide +kernel) (by decide +kernel) (by decide +kernel) (by decide +kernel) (by decide +kernel) (by decide +kernel) (by decide +kernel) dX0_field_28 dX0_field_31 dX0_field_32 dX0_field_34 dX0_field_37 (by rw [hRM]; exact (Nat.le_of_ble_eq_true rfl)) (by rw [hRM]; exact (Nat.le_of_ble_eq_true rfl)) (by rw [hRM]; exact (Nat.le_of_ble_eq_true rfl)) (by rw [hRM]; exact (Nat.le_of_ble_eq_true rfl)) (Nat.le_of_ble_eq_true rfl) (Nat.le_of_ble_eq_true rfl) ⟨rfl, Or.inl ⟨rfl, hno⟩⟩
  · refine g_lc_lt (tgt := 28) C dX0_field_4 dX0_field_5 (by decide) (fun h => absurd h h1) (fun _ => ?_)
    have hx0 : ¬ x < 0 := fun h => h1 (Int64.lt_trans h (by decide))
    obtain ⟨n, hn63, rfl⟩ := pk_lOf hx0
    have hn2 : 2 ≤ n := by
      rcases Nat.lt_or_ge n 2 with h | h
      · exact absurd ((pk_lLT hn63 (by decide)).mpr h) h1
      · exact h
    refine g_lload_n C dX0_field_8 (k := ?_)
    refine g_ldc2 (v := 2147483648) C (by decide +kernel) dX0_field_9 ?_
    refine g_tl (lN 2147483648) rfl ?_
    by_cases h2 : 2147483648 ≤ n
    · refine g_lcN_ge (tgt := 28) C hn63 (by decide) dX0_field_12 dX0_field_13 (by decide) (fun _ => ?_) (fun h => absurd h (by omega))
      have hno : ¬ ∃ m, fok m ∧ lN n = lN m := by
        rintro ⟨m, hm, he⟩
        have := (pk_lEQ hn63 (by omega)).mp he
        omega
      exact g_throwS (E := xIA) (text := "not below 2 to the 31, or 512 does not divide p - 1") C hT (by rw [hlM]; exact hl) hE rfl (by decide +kernel) (by decide +kernel) (by decide +kernel) (by decide +kernel) (by decide +kernel) (by decide +kernel) (by decide +kernel) dX0_field_28 dX0_field_31 dX0_field_32 dX0_field_34 dX0_field_37 (by rw [hRM]; exact (Nat.le_of_ble_eq_true rfl)) (by rw [hRM]; exact (Nat.le_of_ble_eq_true rfl)) (by rw [hRM]; exact (Nat.le_of_ble_eq_true rfl)) (by rw [hRM]; exact (Nat.le_of_ble_eq_true rfl)) (Nat.le_of_ble_eq_true rfl) (Nat.le_of_ble_eq_true rfl) ⟨rfl, Or.inl ⟨rfl, hno⟩⟩
    · refine g_lcN_ge (tgt := 28) C hn63 (by decide) dX0_field_12 dX0_field_13 (by decide) (fun h => absurd h (by omega)) (fun _ => ?_)
      refine g_lload_n C dX0_field_16 (k := ?_)
      refine g_lconst C (lN 1) dX0_field_17 (k := ?_)
      refine gN_lsub C (by omega) dX0_field_18 ?_
      refine g_ldc2 (v := 512) C (by decide +kernel) dX0_field_19 ?_
      refine g_tl (lN 512) rfl ?_
      refine gN_lrem C (by omega) (by decide) (by decide) dX0_field_22 ?_
      refine g_lconst C (lN 0) dX0_field_23 (k := ?_)
      have hmm : (n - 1) % 512 < 512 := Nat.mod_lt _ (by decide)
      by_cases h3 : (n - 1) % 512 = 0
      · have hfok : fok n := ⟨hn2, by omega, h3⟩
        have hn513 : 513 ≤ n := by omega
        refine g_lcN_eq (tgt := 38) C (by omega) (by decide) dX0_field_24 dX0_field_25 (by decide) (fun _ => ?_) (fun h => absurd h3 h)
        refine g_aload_n C dX0_field_38 (k := ?_)
        refine g_lload_n C dX0_field_39 (k := ?_)
        obtain ⟨f0, ef⟩ := S.2.2.2.2.2.2.1
        refine g_cVl (n := 1) (av := [.long (lN n)]) C 0 h0 S.1 rfl (by rw [hlM]; exact c_leastRoot l hN S.1 ef ht (by omega) (by omega) (facs_len (by omega) (by omega) h3) (facs_pos (by omega))) gX0_field_X0_leastRoot rfl ⟨rfl, rfl⟩ (by rw [hRM]; exact ⟨Nat.le_of_ble_eq_true rfl, Nat.le_of_ble_eq_true rfl⟩) (by rw [hRM]; exact ⟨Nat.le_of_ble_eq_true rfl, Nat.le_of_ble_eq_true rfl⟩) (Nat.le_of_ble_eq_true rfl) (by decide +kernel) rfl dX0_field_40 ?_
        rintro _ _ ⟨rfl, fa, rfl⟩
        refine g_lstore_n C dX0_field_43 (k := ?_)
        refine g_lload_n C dX0_field_44 (k := ?_)
        refine g_ldc2 (v := -1) C (by decide +kernel) dX0_field_45 ?_
        rcases hlr : lrf n (facs (n - 1)) (n - 2) 2 with _ | g
        · refine g_lc_ne (tgt := 62) C dX0_field_48 dX0_field_49 (by decide) (fun h => absurd rfl h) (fun _ => ?_)
          exact g_throwS (E := xIA) (text := "not a prime") C hT (by rw [hlM]; exact hl) hE rfl (by decide +kernel) (by decide +kernel) (by decide +kernel) (by decide +kernel) (by decide +kernel) (by decide +kernel) (by decide +kernel) dX0_field_52 dX0_field_55 dX0_field_56 dX0_field_58 dX0_field_61 (by rw [hRM]; exact (Nat.le_of_ble_eq_true rfl)) (by rw [hRM]; exact (Nat.le_of_ble_eq_true rfl)) (by rw [hRM]; exact (Nat.le_of_ble_eq_true rfl)) (by rw [hRM]; exact (Nat.le_of_ble_eq_true rfl)) (Nat.le_of_ble_eq_true rfl) (Nat.le_of_ble_eq_true rfl) ⟨rfl, Or.inr ⟨n, fa, hfok, rfl, hlr, rfl⟩⟩
        · have hg := lrf_lt hlr
          have hgne : ¬ lrv (some g) = -1 := fun h => by
            have h9 : (lN g).toInt = (-1 : Int64).toInt := congrArg Int64.toInt h
            rw [k_lI (by omega), show (-1 : Int64).toInt = -1 from rfl] at h9
            omega
          refine g_lc_ne (tgt := 62) C dX0_field_48 dX0_field_49 (by decide) (fun _ => ?_) (fun h => absurd h hgne)
          refine g_l2 (lv' := [(0, some (.ref (ad 0))), (1, some (.long (lN n))), (3, some (.long (lN g)))]) ?_ ⟨Or.inr rfl, Or.inr rfl, Or.inr rfl, trivial⟩
          refine g_aload_n C dX0_field_62 (k := ?_)
          refine g_lload_n C dX0_field_63 (k := ?_)
          refine g_lload_n C dX0_field_64 (k := ?_)
          refine g_cVv (n := 2) (av := [.long (lN n), .long (lN g)]) C 0 h0 (by rw [va_up_ne _ _ (by decide)]; exact S.1) rfl (by rw [hlM]; exact c_usePrime l hN (by rw [va_up_ne _ _ (by decide)]; exact S.1) (by rw [va_up_ne _ _ (by decide)]; exact S.2.1) ht (by omega) (by omega) (by omega)) gX0_field_X0_usePrime rfl ⟨rfl, rfl⟩ (by rw [hRM]; exact ⟨Nat.le_of_ble_eq_true rfl, Nat.le_of_ble_eq_true rfl⟩) (by rw [hRM]; exact ⟨Nat.le_of_ble_eq_true rfl, Nat.le_of_ble_eq_true rfl⟩) (Nat.le_of_ble_eq_true rfl) (by decide +kernel) rfl dX0_field_65 ?_
          rintro _ rfl
          generalize hB : (va_up (va_up (va_up ct 16 (LN cJ 9 fa)) 0 (obX n ad)) 1 (LN cJ 512 (fun k => (g ^ ((n - 1) / 512) % n) ^ k % n))) = B
          have hB2 : B 2 = QA cQ 6 (gRow ad 3) := by rw [← hB]; (repeat rw [va_up_ne _ _ (by decide)]); exact S.2.2.1
          have hB0 : B 0 = obX n ad := by rw [← hB, va_up_ne _ _ (by decide), va_up_self]
          have hBr : ∀ i, i < 6 → B (3 + i) = LN cJ 512 (Mr i) := fun i hi => by rw [← hB]; (repeat rw [va_up_ne _ _ (by omega)]); exact S.2.2.2.1 i hi
          have loop : ∀ (d i : Nat), 6 = i + d → gW M D vwCl (ixA N ad sz) 6 0 0 (vx_MQ (gb M) (va_Ql (fun r ct1 => ∃ n_1 g fa, fok n_1 ∧ lN n = lN n_1 ∧ lrf n_1 (facs (n_1 - 1)) (n_1 - 2) 2 = some g ∧ r = lN g ∧ ct1 = zrw cJ (va_up (va_up (va_up ct 16 (LN cJ 9 fa)) 0 (obX n_1 ad)) 1 (LN cJ 512 (fun k => (g ^ ((n_1 - 1) / 512) % n_1) ^ k % n_1))) 6) (gB D vwCl tys N ad (ixA N ad sz)) (ixA N ad sz)) (gXC D vwCl tys N ad (ixA N ad sz) (fun E ct1 => E = xIA ∧ ((ct1 = ct ∧ ¬ ∃ n_1, fok n_1 ∧ lN n = lN n_1) ∨ ∃ n_1 fa, fok n_1 ∧ lN n = lN n_1 ∧ lrf n_1 (facs (n_1 - 1)) (n_1 - 2) 2 = none ∧ ct1 = va_up ct 16 (LN cJ 9 fa)))) (ga M) (gs M) 1 6 (ixA N ad sz)) N ad 71 [(0, some (.ref (ad 0))), (3, some (.long (lN g))), (5, some (.int (nI i)))] [] (zrw cJ B i) := by
            intro d
            induction d with
            | zero =>
              intro i hd
              have hi : i = 6 := by omega
              subst hi
              refine g_iload C dX0_field_71 (k := ?_)
              refine g_bipush C (nI 6) dX0_field_73 (k := ?_)
              refine g_icN_ge (tgt := 95) C (by decide) (by decide) dX0_field_75 (by decide) (fun _ => ?_) (fun h => absurd h (by decide))
              refine g_lload_n C dX0_field_95 (k := ?_)
              exact gT_lret C hr (Nat.zero_le _) (Nat.zero_le _) ⟨n, g, fa, hfok, rfl, hlr, rfl, by rw [hB]⟩ dX0_field_96
            | succ d ih =>
              intro i hd
              have hi : i < 6 := by omega
              refine g_iload C dX0_field_71 (k := ?_)
              refine g_bipush C (nI 6) dX0_field_73 (k := ?_)
              refine g_icN_ge (tgt := 95) C (by omega) (by decide) dX0_field_75 (by decide) (fun h => absurd h (by omega)) (fun _ => ?_)
              refine g_aload_n C dX0_field_78 (k := ?_)
              refine g_getf (Cn := RX0) (T := TX0) (n := 8) (ref := "WheelProducts") C 0 2 h0 (by rw [zrw_n cJ B i (by omega) (by omega)]; exact hB0) rfl (by decide +kernel) (by decide) (by decide +kernel) (fun _ h => h) rfl dX0_field_79 ?_
              refine g_iload C dX0_field_82 (k := ?_)
              refine g_aald C 2 1 (by omega) (by rw [zrw_n cJ B i (by omega) (by omega)]; exact hB2) ht2 rfl hi (by decide) (if_pos hi) dX0_field_84 ?_
              refine g_lconst C (lN 0) dX0_field_85 (k := ?_)
              refine g_cSv (n := 2) (av := [.ref (ad (3 + i)), .long (lN 0)]) C (by rw [hlM]; exact c_fill l (by omega) (by rw [zrw_n cJ B i (by omega) (by omega)]; exact hBr i hi) ht (by decide)) gX0_field_J7_fill_d0a16 rfl ⟨rfl, rfl⟩ (by rw [hRM]; exact ⟨Nat.le_of_ble_eq_true rfl, Nat.le_of_ble_eq_true rfl⟩) (by rw [hRM]; exact ⟨Nat.le_of_ble_eq_true rfl, Nat.le_of_ble_eq_true rfl⟩) (Nat.le_of_ble_eq_true rfl) (by decide +kernel) rfl dX0_field_86 ?_
              rintro _ rfl
              rw [zrw_s]
              refine gN_inc C dX0_field_89 (k := ?_)
              refine g_goto (tgt := 71) C dX0_field_92 (k := ?_)
              exact g_l2 (ih (i + 1) (by omega)) ⟨Or.inr rfl, Or.inr rfl, Or.inr rfl, trivial⟩
          refine g_iconst C (nI 0) dX0_field_68 (k := ?_)
          refine g_istore C dX0_field_69 (k := ?_)
          rw [← zrw_0 cJ B]
          exact g_l2 (loop 6 0 rfl) ⟨Or.inr rfl, Or.inr rfl, Or.inr rfl, trivial⟩
      · refine g_lcN_eq (tgt := 38) C (by omega) (by decide) dX0_field_24 dX0_field_25 (by decide) (fun h => absurd h h3) (fun _ => ?_)
        have hno : ¬ ∃ m, fok m ∧ lN n = lN m := by
          rintro ⟨m, hm, he⟩
          have := (pk_lEQ hn63 (by omega)).mp he
          subst this
          exact h3 hm.2.2
        exact g_throwS (E := xIA) (text := "not below 2 to the 31, or 512 does not divide p - 1") C hT (by rw [hlM]; exact hl) hE rfl (by decide +kernel) (by decide +kernel) (by decide +kernel) (by decide +kernel) (by decide +kernel) (by decide +kernel) (by decide +kernel) dX0_field_28 dX0_field_31 dX0_field_32 dX0_field_34 dX0_field_37 (by rw [hRM]; exact (Nat.le_of_ble_eq_true rfl)) (by rw [hRM]; exact (Nat.le_of_ble_eq_true rfl)) (by rw [hRM]; exact (Nat.le_of_ble_eq_true rfl)) (by rw [hRM]; exact (Nat.le_of_ble_eq_true rfl)) (Nat.le_of_ble_eq_true rfl) (Nat.le_of_ble_eq_true rfl) ⟨rfl, Or.inl ⟨rfl, hno⟩⟩
