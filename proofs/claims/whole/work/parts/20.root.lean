/-! ===== the factors of a number, as both programs find them ===== -/
def wof (d : Nat) : Nat → Nat → Nat
  | 0, n => n
  | f + 1, n => if n % d = 0 then wof d f (n / d) else n
def ffl : Nat → Nat → Nat → List Nat
  | 0, _, rem => if 1 < rem then [rem] else []
  | f + 1, d, rem => if d * d ≤ rem then (if rem % d = 0 then d :: ffl f (d + 1) (wof d 31 rem) else ffl f (d + 1) rem) else (if 1 < rem then [rem] else [])
def facs (n : Nat) : List Nat := ffl 46341 2 n
theorem wof_le (d : Nat) : ∀ f n, wof d f n ≤ n
  | 0, n => Nat.le_refl n
  | f + 1, n => by
    unfold wof
    split
    · exact Nat.le_trans (wof_le d f _) (Nat.div_le_self n d)
    · exact Nat.le_refl n
def fl (fa : Nat → Nat) (L : List Nat) : Prop := ∀ k, k < L.length → L[k]? = some (fa k)
theorem fl_add {fa : Nat → Nat} {L : List Nat} {d : Nat} (h : fl fa L) : fl (nu fa L.length d) (L ++ [d]) := by
  intro k hk
  rw [List.length_append, List.length_singleton] at hk
  by_cases e : k = L.length
  · subst e
    rw [List.getElem?_append_right (Nat.le_refl _), Nat.sub_self, nu_s]
    rfl
  · rw [List.getElem?_append_left (by omega), nu_n _ _ e]
    exact h k (by omega)
def okR (p : Nat) (L : List Nat) (g : Nat) : Bool := L.all (fun q => decide (g ^ ((p - 1) / q) % p ≠ 1))
def lrf (p : Nat) (L : List Nat) : Nat → Nat → Option Nat
  | 0, _ => none
  | f + 1, g => if g ^ (p - 1) % p = 1 then (if okR p L g = true then some g else lrf p L f (g + 1)) else none
def lrv : Option Nat → Int64
  | some g => lN g
  | none => -1

set_option maxRecDepth 100000 in
set_option maxHeartbeats 4000000 in
theorem c_without (l : Launch) {D : va_G} {tys : List (ClassId × FieldType)} {N : Nat} {ad : Nat → Nat} {ct : Nat → va_E} {cl : List vw_C} {n d : Nat} (hn : n < 2 ^ 63) (hd : 0 < d) (hd2 : d < 2 ^ 63) :
    gMl l yX0_without wsX0_without rz D cl tys N ad [.long (lN n), .long (lN d)] ct (fun r ct1 => r = lN (wof d 31 n) ∧ ct1 = ct) := by
  refine gof_l (cc := cX0_without) (maxL := 7) (by decide) rfl (Nat.le_of_ble_eq_true rfl) ?_
  intro M sz C hlM hRM hr hsz
  have loop : ∀ (f i c : Nat), 31 = i + f → c < 2 ^ 63 → wof d f c = wof d 31 n → gW M D cl (ixA N ad sz) 7 0 0 (MQ (gb M) (va_Ql (fun r ct1 => r = lN (wof d 31 n) ∧ ct1 = ct) (gB D cl tys N ad (ixA N ad sz)) (ixA N ad sz)) (ga M) (gs M) 0 0 (ixA N ad sz)) N ad 6 [(2, some (.long (lN d))), (4, some (.long (lN c))), (6, some (.int (nI i)))] [] ct := by
    intro f
    induction f with
    | zero =>
      intro i c hi hc hv
      refine g_iload C dX0_without_6 (k := ?_)
      refine g_bipush C (nI 31) dX0_without_8 (k := ?_)
      refine g_icN_ge (tgt := 34) C (by omega) (by decide) dX0_without_10 (by decide) (fun _ => ?_) (fun h => absurd h (by omega))
      refine g_lload C dX0_without_34 (k := ?_)
      refine g_lret C hr ⟨?_, rfl⟩ dX0_without_36
      rw [← hv]; rfl
    | succ f ih =>
      intro i c hi hc hv
      have hm : c % d < 2 ^ 63 := Nat.lt_trans (Nat.mod_lt _ hd) hd2
      refine g_iload C dX0_without_6 (k := ?_)
      refine g_bipush C (nI 31) dX0_without_8 (k := ?_)
      refine g_icN_ge (tgt := 34) C (by omega) (by decide) dX0_without_10 (by decide) (fun h => absurd h (by omega)) (fun _ => ?_)
      refine g_lload C dX0_without_13 (k := ?_)
      refine g_lload_n C dX0_without_15 (k := ?_)
      refine gN_lrem C hc hd hd2 dX0_without_16 ?_
      refine g_lconst C (lN 0) dX0_without_17 (k := ?_)
      by_cases hz : c % d = 0
      · refine g_lcN_ne (tgt := 34) C hm (by decide) dX0_without_18 dX0_without_19 (by decide) (fun h => absurd hz h) (fun _ => ?_)
        refine g_lload C dX0_without_22 (k := ?_)
        refine g_lload_n C dX0_without_24 (k := ?_)
        refine gN_ldiv C hc hd hd2 dX0_without_25 ?_
        refine g_lstore C dX0_without_26 (k := ?_)
        refine gN_inc C dX0_without_28 (k := ?_)
        refine g_goto (tgt := 6) C dX0_without_31 (k := ?_)
        refine g_l2 (ih (i + 1) (c / d) (by omega) (Nat.lt_of_le_of_lt (Nat.div_le_self c d) hc) ?_) ⟨Or.inr rfl, Or.inr rfl, Or.inr rfl, trivial⟩
        rw [← hv, wof, if_pos hz]
      · refine g_lcN_ne (tgt := 34) C hm (by decide) dX0_without_18 dX0_without_19 (by decide) (fun _ => ?_) (fun h => absurd h hz)
        refine g_lload C dX0_without_34 (k := ?_)
        refine g_lret C hr ⟨?_, rfl⟩ dX0_without_36
        rw [← hv, wof, if_neg hz]
  refine g_lload_n C dX0_without_0 (k := ?_)
  refine g_lstore C dX0_without_1 (k := ?_)
  refine g_iconst C (nI 0) dX0_without_3 (k := ?_)
  refine g_istore C dX0_without_4 (k := ?_)
  exact g_l2 (loop 31 0 n rfl hn rfl) ⟨Or.inr rfl, Or.inr rfl, Or.inr rfl, trivial⟩
abbrev rf1 : Room := { frames := 1, cells := 0, slots := 0, locals := 26 }
set_option maxRecDepth 100000 in
set_option maxHeartbeats 4000000 in
theorem c_findFactors (l : Launch) {D : va_G} {tys : List (ClassId × FieldType)} {N : Nat} {ad : Nat → Nat} {ct : Nat → va_E} (hN : 20 ≤ N) {cJ : ClassId} {p n : Nat} {f0 : Nat → Nat} (e0 : ct 0 = obX p ad) (ef : ct 16 = LN cJ 9 f0) (ht : tys[0]? = some (cJ, .long)) (hn : n < 2 ^ 31) (hlen : (facs n).length ≤ 9) :
    gMi l yX0_findFactors wsX0_findFactors rf1 D vwCl tys N ad [.ref (ad 0), .long (lN n)] ct (fun r ct1 => r = nI (facs n).length ∧ ∃ fa, fl fa (facs n) ∧ ct1 = va_up ct 16 (LN cJ 9 fa)) := by
  refine gof_i (cc := cX0_findFactors) (maxL := 8) (by decide) rfl (Nat.le_of_ble_eq_true rfl) ?_
  intro M sz C hlM hRM hr hsz
  have h0 : 0 < N := by omega
  have h16 : 16 < N := by omega
  have hfin : ∀ (L : List Nat) (fa : Nat → Nat) (c d : Nat), c < 2 ^ 31 → d < 2 ^ 31 → fl fa L → L ++ (if 1 < c then [c] else []) = facs n → gW M D vwCl (ixA N ad sz) 8 0 0 (MQ (gb M) (va_Qi (fun r ct1 => r = nI (facs n).length ∧ ∃ fa, fl fa (facs n) ∧ ct1 = va_up ct 16 (LN cJ 9 fa)) (gB D vwCl tys N ad (ixA N ad sz)) (ixA N ad sz)) (ga M) (gs M) 0 0 (ixA N ad sz)) N ad 66 [(0, some (.ref (ad 0))), (3, some (.int (nI L.length))), (4, some (.long (lN c))), (6, some (.long (lN d)))] [] (va_up ct 16 (LN cJ 9 fa)) := by
    intro L fa c d hc hd2 hfa hL
    have hll : (facs n).length ≤ 9 := hlen
    refine g_lload C dX0_findFactors_66 (k := ?_)
    refine g_lconst C (lN 1) dX0_findFactors_68 (k := ?_)
    by_cases h1 : 1 < c
    · rw [if_pos h1] at hL
      rw [← hL, List.length_append, List.length_singleton] at hll
      refine g_lcN_le (tgt := 90) C (by omega) (by decide) dX0_findFactors_69 dX0_findFactors_70 (by decide) (fun h => absurd h (by omega)) (fun _ => ?_)
      refine g_iload_n C dX0_findFactors_73 (k := ?_)
      refine g_bipush C (nI 9) dX0_findFactors_74 (k := ?_)
      refine g_icN_ge (tgt := 90) C (by omega) (by decide) dX0_findFactors_76 (by decide) (fun h => absurd h (by omega)) (fun _ => ?_)
      refine g_aload_n C dX0_findFactors_79 (k := ?_)
      refine g_getf (Cn := RX0) (T := TX0) (n := 8) (ref := "WheelProducts") C 0 4 h0 (by (repeat rw [va_up_ne _ _ (by omega)]); exact e0) rfl (by decide +kernel) (by decide) (by decide +kernel) (fun _ h => h) rfl dX0_findFactors_80 ?_
      refine g_iload_n C dX0_findFactors_83 (k := ?_)
      refine g_lload C dX0_findFactors_84 (k := ?_)
      refine gN_last C 16 h16 (va_up_self _ _ _) ht (by omega) (by decide) dX0_findFactors_86 ?_
      rw [bx_uu]
      refine gN_inc C dX0_findFactors_87 (k := ?_)
      refine g_iload_n C dX0_findFactors_90 (k := ?_)
      refine g_iret C hr ⟨?_, _, ?_, rfl⟩ dX0_findFactors_91
      · rw [← hL, List.length_append]; rfl
      · rw [← hL]; exact fl_add hfa
    · rw [if_neg h1, List.append_nil] at hL
      refine g_lcN_le (tgt := 90) C (by omega) (by decide) dX0_findFactors_69 dX0_findFactors_70 (by decide) (fun _ => ?_) (fun h => absurd h (by omega))
      refine g_iload_n C dX0_findFactors_90 (k := ?_)
      exact g_iret C hr ⟨by rw [hL], fa, by rw [← hL]; exact hfa, rfl⟩ dX0_findFactors_91
  have loop : ∀ (f d c : Nat) (L : List Nat) (fa : Nat → Nat), d + f = 46343 → 2 ≤ d → c < 2 ^ 31 → fl fa L → L ++ ffl f d c = facs n → gW M D vwCl (ixA N ad sz) 8 0 0 (MQ (gb M) (va_Qi (fun r ct1 => r = nI (facs n).length ∧ ∃ fa, fl fa (facs n) ∧ ct1 = va_up ct 16 (LN cJ 9 fa)) (gB D vwCl tys N ad (ixA N ad sz)) (ixA N ad sz)) (ga M) (gs M) 0 0 (ixA N ad sz)) N ad 10 [(0, some (.ref (ad 0))), (3, some (.int (nI L.length))), (4, some (.long (lN c))), (6, some (.long (lN d)))] [] (va_up ct 16 (LN cJ 9 fa)) := by
    intro f
    induction f with
    | zero =>
      intro d c L fa hdf hd2 hc hfa hL
      have hdd : 46343 * 46343 ≤ d * d := Nat.mul_le_mul (by omega) (by omega)
      have hdu : d * d ≤ 46343 * 46343 := Nat.mul_le_mul (by omega) (by omega)
      refine g_lload C dX0_findFactors_10 (k := ?_)
      refine g_lload C dX0_findFactors_12 (k := ?_)
      refine gN_lmul C dX0_findFactors_14 ?_
      refine g_lload C dX0_findFactors_15 (k := ?_)
      refine g_lcN_gt (tgt := 66) C (by omega) (by omega) dX0_findFactors_17 dX0_findFactors_18 (by decide) (fun _ => ?_) (fun h => absurd h (by omega))
      exact hfin L fa c d hc (by omega) hfa hL
    | succ f ih =>
      intro d c L fa hdf hd2 hc hfa hL
      have hdu : d * d ≤ 46343 * 46343 := Nat.mul_le_mul (by omega) (by omega)
      refine g_lload C dX0_findFactors_10 (k := ?_)
      refine g_lload C dX0_findFactors_12 (k := ?_)
      refine gN_lmul C dX0_findFactors_14 ?_
      refine g_lload C dX0_findFactors_15 (k := ?_)
      by_cases hdc : d * d ≤ c
      · rw [ffl, if_pos hdc] at hL
        have hm : c % d < 2 ^ 63 := Nat.lt_trans (Nat.mod_lt c (show 0 < d by omega)) (by omega)
        refine g_lcN_gt (tgt := 66) C (by omega) (by omega) dX0_findFactors_17 dX0_findFactors_18 (by decide) (fun h => absurd h (by omega)) (fun _ => ?_)
        refine g_lload C dX0_findFactors_21 (k := ?_)
        refine g_lload C dX0_findFactors_23 (k := ?_)
        refine gN_lrem C (by omega) (by omega) (by omega) dX0_findFactors_25 ?_
        refine g_lconst C (lN 0) dX0_findFactors_26 (k := ?_)
        by_cases hz : c % d = 0
        · rw [if_pos hz] at hL
          have hll : (facs n).length ≤ 9 := hlen
          rw [← hL, List.length_append, List.length_cons] at hll
          refine g_lcN_ne (tgt := 57) C hm (by decide) dX0_findFactors_27 dX0_findFactors_28 (by decide) (fun h => absurd hz h) (fun _ => ?_)
          refine g_iload_n C dX0_findFactors_31 (k := ?_)
          refine g_bipush C (nI 9) dX0_findFactors_32 (k := ?_)
          refine g_icN_ge (tgt := 57) C (by omega) (by decide) dX0_findFactors_34 (by decide) (fun h => absurd h (by omega)) (fun _ => ?_)
          refine g_aload_n C dX0_findFactors_37 (k := ?_)
          refine g_getf (Cn := RX0) (T := TX0) (n := 8) (ref := "WheelProducts") C 0 4 h0 (by (repeat rw [va_up_ne _ _ (by omega)]); exact e0) rfl (by decide +kernel) (by decide) (by decide +kernel) (fun _ h => h) rfl dX0_findFactors_38 ?_
          refine g_iload_n C dX0_findFactors_41 (k := ?_)
          refine g_lload C dX0_findFactors_42 (k := ?_)
          refine gN_last C 16 h16 (va_up_self _ _ _) ht (by omega) (by decide) dX0_findFactors_44 ?_
          rw [bx_uu]
          refine gN_inc C dX0_findFactors_45 (k := ?_)
          refine g_lload C dX0_findFactors_48 (k := ?_)
          refine g_lload C dX0_findFactors_50 (k := ?_)
          refine g_cSl (n := 2) (av := [.long (lN c), .long (lN d)]) C (by rw [hlM]; exact c_without l (by omega) (by omega) (by omega)) gX0_findFactors_X0_without rfl ⟨rfl, rfl⟩ (by rw [hRM]; exact ⟨Nat.le_of_ble_eq_true rfl, Nat.le_of_ble_eq_true rfl⟩) (by rw [hRM]; exact ⟨Nat.le_of_ble_eq_true rfl, Nat.le_of_ble_eq_true rfl⟩) (Nat.le_of_ble_eq_true rfl) (by decide +kernel) rfl dX0_findFactors_52 ?_
          rintro v ct1 ⟨rfl, rfl⟩
          refine g_lstore C dX0_findFactors_55 (k := ?_)
          refine g_lload C dX0_findFactors_57 (k := ?_)
          refine g_lconst C (lN 1) dX0_findFactors_59 (k := ?_)
          refine gN_ladd C dX0_findFactors_60 ?_
          refine g_lstore C dX0_findFactors_61 (k := ?_)
          refine g_goto (tgt := 10) C dX0_findFactors_63 (k := ?_)
          refine g_l2 (ih (d + 1) (wof d 31 c) (L ++ [d]) _ (by omega) (by omega) (Nat.lt_of_le_of_lt (wof_le d 31 c) hc) (fl_add hfa) ?_) ⟨Or.inr rfl, Or.inr ?_, Or.inr rfl, Or.inr rfl, trivial⟩
          · rw [List.append_assoc]; exact hL
          · rw [List.length_append]; rfl
        · rw [if_neg hz] at hL
          refine g_lcN_ne (tgt := 57) C hm (by decide) dX0_findFactors_27 dX0_findFactors_28 (by decide) (fun _ => ?_) (fun h => absurd h hz)
          refine g_lload C dX0_findFactors_57 (k := ?_)
          refine g_lconst C (lN 1) dX0_findFactors_59 (k := ?_)
          refine gN_ladd C dX0_findFactors_60 ?_
          refine g_lstore C dX0_findFactors_61 (k := ?_)
          refine g_goto (tgt := 10) C dX0_findFactors_63 (k := ?_)
          exact g_l2 (ih (d + 1) c L fa (by omega) (by omega) hc hfa hL) ⟨Or.inr rfl, Or.inr rfl, Or.inr rfl, Or.inr rfl, trivial⟩
      · rw [ffl, if_neg hdc] at hL
        refine g_lcN_gt (tgt := 66) C (by omega) (by omega) dX0_findFactors_17 dX0_findFactors_18 (by decide) (fun _ => ?_) (fun h => absurd h (by omega))
        exact hfin L fa c d hc (by omega) hfa hL
  refine g_iconst C (nI 0) dX0_findFactors_0 (k := ?_)
  refine g_istore_n C dX0_findFactors_1 (k := ?_)
  refine g_lload_n C dX0_findFactors_2 (k := ?_)
  refine g_lstore C dX0_findFactors_3 (k := ?_)
  refine g_ldc2 (v := 2) C (by decide +kernel) dX0_findFactors_5 ?_
  refine g_tl (lN 2) rfl ?_
  refine g_lstore C dX0_findFactors_8 (k := ?_)
  refine g_ct (ct' := va_up ct 16 (LN cJ 9 f0)) (up_id ef).symm ?_
  exact g_l2 (loop 46341 2 n [] f0 rfl (by decide) hn (fun k hk => absurd hk (Nat.not_lt_zero k)) rfl) ⟨Or.inr rfl, Or.inr rfl, Or.inr rfl, Or.inr rfl, trivial⟩
abbrev rc1 : Room := { frames := 1, cells := 0, slots := 0, locals := 31 }
set_option maxRecDepth 100000 in
set_option maxHeartbeats 4000000 in
theorem c_comesToOne (l : Launch) {D : va_G} {tys : List (ClassId × FieldType)} {N : Nat} {ad : Nat → Nat} {ct : Nat → va_E} (hN : 20 ≤ N) {cJ : ClassId} {p0 p g : Nat} {L : List Nat} {fa : Nat → Nat} (e0 : ct 0 = obX p0 ad) (ef : ct 16 = LN cJ 9 fa) (ht : tys[0]? = some (cJ, .long)) (hp : 1 < p) (hp2 : p < 2 ^ 31) (hg : g < p) (hfa : fl fa L) (hlen : L.length ≤ 9) (hL : ∀ q ∈ L, 0 < q ∧ q < 2 ^ 31) :
    gMi l yX0_comesToOneOnlyAtTheEnd wsX0_comesToOneOnlyAtTheEnd rc1 D vwCl tys N ad [.ref (ad 0), .long (lN g), .long (lN p), .int (nI L.length)] ct (fun r ct1 => r = nI (if okR p L g = true then 1 else 0) ∧ ct1 = ct) := by
  refine gof_z (cc := cX0_comesToOneOnlyAtTheEnd) (maxL := 7) (by decide) rfl (Nat.le_of_ble_eq_true rfl) ?_
  intro M sz C hlM hRM hr hsz
  have h0 : 0 < N := by omega
  have h16 : 16 < N := by omega
  have loop : ∀ (d i : Nat), L.length = i + d → okR p (L.drop i) g = okR p L g → gW M D vwCl (ixA N ad sz) 7 0 0 (MQ (gb M) (va_Qi (fun r ct1 => r = nI (if okR p L g = true then 1 else 0) ∧ ct1 = ct) (gB D vwCl tys N ad (ixA N ad sz)) (ixA N ad sz)) (ga M) (gs M) 0 0 (ixA N ad sz)) N ad 3 [(0, some (.ref (ad 0))), (1, some (.long (lN g))), (3, some (.long (lN p))), (5, some (.int (nI L.length))), (6, some (.int (nI i)))] [] ct := by
    intro d
    induction d with
    | zero =>
      intro i hi hv
      refine g_iload C dX0_comesToOneOnlyAtTheEnd_3 (k := ?_)
      refine g_iload C dX0_comesToOneOnlyAtTheEnd_5 (k := ?_)
      refine g_icN_ge (tgt := 39) C (by omega) (by omega) dX0_comesToOneOnlyAtTheEnd_7 (by decide) (fun _ => ?_) (fun h => absurd h (by omega))
      refine g_iconst C (nI 1) dX0_comesToOneOnlyAtTheEnd_39 (k := ?_)
      refine g_zret C hr (by decide) ⟨?_, rfl⟩ dX0_comesToOneOnlyAtTheEnd_40
      rw [← hv, List.drop_eq_nil_of_le (by omega)]
      rfl
    | succ d ih =>
      intro i hi hv
      have hil : i < L.length := by omega
      have hfi := hfa i hil
      obtain ⟨hq0, hq2⟩ := hL (fa i) (List.mem_of_getElem? hfi)
      have hdr : L.drop i = fa i :: L.drop (i + 1) := by
        rw [List.drop_eq_getElem_cons hil]
        congr 1
        rw [List.getElem?_eq_getElem hil] at hfi
        exact Option.some.inj hfi
      refine g_iload C dX0_comesToOneOnlyAtTheEnd_3 (k := ?_)
      refine g_iload C dX0_comesToOneOnlyAtTheEnd_5 (k := ?_)
      refine g_icN_ge (tgt := 39) C (by omega) (by omega) dX0_comesToOneOnlyAtTheEnd_7 (by decide) (fun h => absurd h (by omega)) (fun _ => ?_)
      refine g_lload_n C dX0_comesToOneOnlyAtTheEnd_10 (k := ?_)
      refine g_lload_n C dX0_comesToOneOnlyAtTheEnd_11 (k := ?_)
      refine g_lconst C (lN 1) dX0_comesToOneOnlyAtTheEnd_12 (k := ?_)
      refine gN_lsub C (by omega) dX0_comesToOneOnlyAtTheEnd_13 ?_
      refine g_aload_n C dX0_comesToOneOnlyAtTheEnd_14 (k := ?_)
      refine g_getf (Cn := RX0) (T := TX0) (n := 8) (ref := "WheelProducts") C 0 4 h0 e0 rfl (by decide +kernel) (by decide) (by decide +kernel) (fun _ h => h) rfl dX0_comesToOneOnlyAtTheEnd_15 ?_
      refine g_iload C dX0_comesToOneOnlyAtTheEnd_18 (k := ?_)
      refine gN_lald C 16 h16 ef ht (by omega) (by decide) dX0_comesToOneOnlyAtTheEnd_20 ?_
      refine gN_ldiv C (by omega) hq0 (by omega) dX0_comesToOneOnlyAtTheEnd_21 ?_
      refine g_lload_n C dX0_comesToOneOnlyAtTheEnd_22 (k := ?_)
      have hdl : (p - 1) / fa i ≤ p - 1 := Nat.div_le_self _ _
      refine g_cSl (n := 3) (av := [.long (lN g), .long (lN ((p - 1) / fa i)), .long (lN p)]) C (by rw [hlM]; exact c_powerModulo l hg (by omega) hp hp2) gX0_comesToOneOnlyAtTheEnd_X0_powerModulo rfl ⟨rfl, rfl⟩ (by rw [hRM]; exact ⟨Nat.le_of_ble_eq_true rfl, Nat.le_of_ble_eq_true rfl⟩) (by rw [hRM]; exact ⟨Nat.le_of_ble_eq_true rfl, Nat.le_of_ble_eq_true rfl⟩) (Nat.le_of_ble_eq_true rfl) (by decide +kernel) rfl dX0_comesToOneOnlyAtTheEnd_23 ?_
      rintro _ _ ⟨rfl, rfl⟩
      have hml : g ^ ((p - 1) / fa i) % p < p := Nat.mod_lt _ (by omega)
      refine g_lconst C (lN 1) dX0_comesToOneOnlyAtTheEnd_26 (k := ?_)
      by_cases h1 : g ^ ((p - 1) / fa i) % p = 1
      · refine g_lcN_ne (tgt := 33) C (by omega) (by decide) dX0_comesToOneOnlyAtTheEnd_27 dX0_comesToOneOnlyAtTheEnd_28 (by decide) (fun h => absurd h1 h) (fun _ => ?_)
        refine g_iconst C (nI 0) dX0_comesToOneOnlyAtTheEnd_31 (k := ?_)
        refine g_zret C hr (by decide) ⟨?_, rfl⟩ dX0_comesToOneOnlyAtTheEnd_32
        rw [← hv, hdr]
        have : okR p (fa i :: L.drop (i + 1)) g = false := by
          unfold okR
          rw [List.all_cons]
          simp [h1]
        rw [this]
        rfl
      · refine g_lcN_ne (tgt := 33) C (by omega) (by decide) dX0_comesToOneOnlyAtTheEnd_27 dX0_comesToOneOnlyAtTheEnd_28 (by decide) (fun _ => ?_) (fun h => absurd h h1)
        refine gN_inc C dX0_comesToOneOnlyAtTheEnd_33 (k := ?_)
        refine g_goto (tgt := 3) C dX0_comesToOneOnlyAtTheEnd_36 (k := ?_)
        refine g_l2 (ih (i + 1) (by omega) ?_) ⟨Or.inr rfl, Or.inr rfl, Or.inr rfl, Or.inr rfl, Or.inr rfl, trivial⟩
        rw [← hv, hdr]
        unfold okR
        rw [List.all_cons]
        simp [h1]
  refine g_iconst C (nI 0) dX0_comesToOneOnlyAtTheEnd_0 (k := ?_)
  refine g_istore C dX0_comesToOneOnlyAtTheEnd_1 (k := ?_)
  exact g_l2 (loop L.length 0 (by omega) rfl) ⟨Or.inr rfl, Or.inr rfl, Or.inr rfl, Or.inr rfl, Or.inr rfl, trivial⟩
abbrev rl2 : Room := { frames := 2, cells := 0, slots := 0, locals := 57 }
set_option maxRecDepth 100000 in
set_option maxHeartbeats 4000000 in
theorem c_leastRoot (l : Launch) {D : va_G} {tys : List (ClassId × FieldType)} {N : Nat} {ad : Nat → Nat} {ct : Nat → va_E} (hN : 20 ≤ N) {cJ : ClassId} {p0 p : Nat} {f0 : Nat → Nat} (e0 : ct 0 = obX p0 ad) (ef : ct 16 = LN cJ 9 f0) (ht : tys[0]? = some (cJ, .long)) (hp : 2 < p) (hp2 : p < 2 ^ 31) (hlen : (facs (p - 1)).length ≤ 9) (hL : ∀ q ∈ facs (p - 1), 0 < q ∧ q < 2 ^ 31) :
    gMl l yX0_leastRoot wsX0_leastRoot rl2 D vwCl tys N ad [.ref (ad 0), .long (lN p)] ct (fun r ct1 => r = lrv (lrf p (facs (p - 1)) (p - 2) 2) ∧ ∃ fa, ct1 = va_up ct 16 (LN cJ 9 fa)) := by
  refine gof_l (cc := cX0_leastRoot) (maxL := 6) (by decide) rfl (Nat.le_of_ble_eq_true rfl) ?_
  intro M sz C hlM hRM hr hsz
  have h0 : 0 < N := by omega
  refine g_aload_n C dX0_leastRoot_0 (k := ?_)
  refine g_lload_n C dX0_leastRoot_1 (k := ?_)
  refine g_lconst C (lN 1) dX0_leastRoot_2 (k := ?_)
  refine gN_lsub C (by omega) dX0_leastRoot_3 ?_
  refine g_cVi (n := 1) (av := [.long (lN (p - 1))]) C 0 h0 e0 rfl (by rw [hlM]; exact c_findFactors l hN e0 ef ht (by omega) hlen) gX0_leastRoot_X0_findFactors rfl ⟨rfl, rfl⟩ (by rw [hRM]; exact ⟨Nat.le_of_ble_eq_true rfl, Nat.le_of_ble_eq_true rfl⟩) (by rw [hRM]; exact ⟨Nat.le_of_ble_eq_true rfl, Nat.le_of_ble_eq_true rfl⟩) (Nat.le_of_ble_eq_true rfl) (by decide +kernel) rfl dX0_leastRoot_4 ?_
  rintro _ _ ⟨rfl, fa, hfa, rfl⟩
  have loop : ∀ (f g : Nat), g + f = p → 2 ≤ g → lrf p (facs (p - 1)) f g = lrf p (facs (p - 1)) (p - 2) 2 → gW M D vwCl (ixA N ad sz) 6 0 0 (MQ (gb M) (va_Ql (fun r ct1 => r = lrv (lrf p (facs (p - 1)) (p - 2) 2) ∧ ∃ fa, ct1 = va_up ct 16 (LN cJ 9 fa)) (gB D vwCl tys N ad (ixA N ad sz)) (ixA N ad sz)) (ga M) (gs M) 0 0 (ixA N ad sz)) N ad 13 [(0, some (.ref (ad 0))), (1, some (.long (lN p))), (3, some (.int (nI (facs (p - 1)).length))), (4, some (.long (lN g)))] [] (va_up ct 16 (LN cJ 9 fa)) := by
    intro f
    induction f with
    | zero =>
      intro g hg h2 hv
      refine g_lload C dX0_leastRoot_13 (k := ?_)
      refine g_lload_n C dX0_leastRoot_15 (k := ?_)
      refine g_lcN_ge (tgt := 61) C (by omega) (by omega) dX0_leastRoot_16 dX0_leastRoot_17 (by decide) (fun _ => ?_) (fun h => absurd h (by omega))
      refine g_ldc2 (v := -1) C (by decide +kernel) dX0_leastRoot_61 ?_
      exact g_lret C hr ⟨by rw [← hv]; rfl, fa, rfl⟩ dX0_leastRoot_64
    | succ f ih =>
      intro g hg h2 hv
      refine g_lload C dX0_leastRoot_13 (k := ?_)
      refine g_lload_n C dX0_leastRoot_15 (k := ?_)
      refine g_lcN_ge (tgt := 61) C (by omega) (by omega) dX0_leastRoot_16 dX0_leastRoot_17 (by decide) (fun h => absurd h (by omega)) (fun _ => ?_)
      refine g_lload C dX0_leastRoot_20 (k := ?_)
      refine g_lload_n C dX0_leastRoot_22 (k := ?_)
      refine g_lconst C (lN 1) dX0_leastRoot_23 (k := ?_)
      refine gN_lsub C (by omega) dX0_leastRoot_24 ?_
      refine g_lload_n C dX0_leastRoot_25 (k := ?_)
      refine g_cSl (n := 3) (av := [.long (lN g), .long (lN (p - 1)), .long (lN p)]) C (by rw [hlM]; exact c_powerModulo l (by omega) (by omega) (by omega) hp2) gX0_leastRoot_X0_powerModulo rfl ⟨rfl, rfl⟩ (by rw [hRM]; exact ⟨Nat.le_of_ble_eq_true rfl, Nat.le_of_ble_eq_true rfl⟩) (by rw [hRM]; exact ⟨Nat.le_of_ble_eq_true rfl, Nat.le_of_ble_eq_true rfl⟩) (Nat.le_of_ble_eq_true rfl) (by decide +kernel) rfl dX0_leastRoot_26 ?_
      rintro _ _ ⟨rfl, rfl⟩
      have hml : g ^ (p - 1) % p < p := Nat.mod_lt _ (by omega)
      refine g_lconst C (lN 1) dX0_leastRoot_29 (k := ?_)
      by_cases h1 : g ^ (p - 1) % p = 1
      · rw [lrf, if_pos h1] at hv
        refine g_lcN_eq (tgt := 38) C (by omega) (by decide) dX0_leastRoot_30 dX0_leastRoot_31 (by decide) (fun _ => ?_) (fun h => absurd h1 h)
        refine g_aload_n C dX0_leastRoot_38 (k := ?_)
        refine g_lload C dX0_leastRoot_39 (k := ?_)
        refine g_lload_n C dX0_leastRoot_41 (k := ?_)
        refine g_iload_n C dX0_leastRoot_42 (k := ?_)
        refine g_cVi (n := 3) (av := [.long (lN g), .long (lN p), .int (nI (facs (p - 1)).length)]) C 0 h0 (by (repeat rw [va_up_ne _ _ (by omega)]); exact e0) rfl (by rw [hlM]; exact c_comesToOne l hN (by (repeat rw [va_up_ne _ _ (by omega)]); exact e0) (va_up_self _ _ _) ht (by omega) hp2 (by omega) hfa hlen hL) gX0_leastRoot_X0_comesToOneOnlyAtTheEnd rfl ⟨rfl, rfl⟩ (by rw [hRM]; exact ⟨Nat.le_of_ble_eq_true rfl, Nat.le_of_ble_eq_true rfl⟩) (by rw [hRM]; exact ⟨Nat.le_of_ble_eq_true rfl, Nat.le_of_ble_eq_true rfl⟩) (Nat.le_of_ble_eq_true rfl) (by decide +kernel) rfl dX0_leastRoot_43 ?_
        rintro _ _ ⟨rfl, rfl⟩
        by_cases h3 : okR p (facs (p - 1)) g = true
        · rw [if_pos h3] at hv ⊢
          refine g_ifN_eq (tgt := 52) C (by decide) dX0_leastRoot_46 (by decide) (fun h => absurd h (by decide)) (fun _ => ?_)
          refine g_lload C dX0_leastRoot_49 (k := ?_)
          exact g_lret C hr ⟨by rw [← hv]; rfl, fa, rfl⟩ dX0_leastRoot_51
        · rw [if_neg h3] at hv ⊢
          refine g_ifN_eq (tgt := 52) C (by decide) dX0_leastRoot_46 (by decide) (fun _ => ?_) (fun h => absurd rfl h)
          refine g_lload C dX0_leastRoot_52 (k := ?_)
          refine g_lconst C (lN 1) dX0_leastRoot_54 (k := ?_)
          refine gN_ladd C dX0_leastRoot_55 ?_
          refine g_lstore C dX0_leastRoot_56 (k := ?_)
          refine g_goto (tgt := 13) C dX0_leastRoot_58 (k := ?_)
          exact g_l2 (ih (g + 1) (by omega) (by omega) hv) ⟨Or.inr rfl, Or.inr rfl, Or.inr rfl, Or.inr rfl, trivial⟩
      · rw [lrf, if_neg h1] at hv
        refine g_lcN_eq (tgt := 38) C (by omega) (by decide) dX0_leastRoot_30 dX0_leastRoot_31 (by decide) (fun h => absurd h h1) (fun _ => ?_)
        refine g_ldc2 (v := -1) C (by decide +kernel) dX0_leastRoot_34 ?_
        exact g_lret C hr ⟨by rw [← hv]; rfl, fa, rfl⟩ dX0_leastRoot_37
  refine g_istore_n C dX0_leastRoot_7 (k := ?_)
  refine g_ldc2 (v := 2) C (by decide +kernel) dX0_leastRoot_8 ?_
  refine g_tl (lN 2) rfl ?_
  refine g_lstore C dX0_leastRoot_11 (k := ?_)
  exact g_l2 (loop (p - 2) 2 (by omega) (by decide) rfl) ⟨Or.inr rfl, Or.inr rfl, Or.inr rfl, Or.inr rfl, trivial⟩
abbrev ru1 : Room := { frames := 1, cells := 0, slots := 0, locals := 31 }
set_option maxRecDepth 100000 in
set_option maxHeartbeats 4000000 in
theorem c_usePrime (l : Launch) {D : va_G} {tys : List (ClassId × FieldType)} {N : Nat} {ad : Nat → Nat} {ct : Nat → va_E} (hN : 20 ≤ N) {cJ : ClassId} {p0 p g : Nat} {w0 : Nat → Nat} (e0 : ct 0 = obX p0 ad) (ew : ct 1 = LN cJ 512 w0) (ht : tys[0]? = some (cJ, .long)) (hp : 1 < p) (hp2 : p < 2 ^ 31) (hg : g < p) :
    gMv l yX0_usePrime wsX0_usePrime ru1 D vwCl tys N ad [.ref (ad 0), .long (lN p), .long (lN g)] ct (fun ct1 => ct1 = va_up (va_up ct 0 (obX p ad)) 1 (LN cJ 512 (fun k => (g ^ ((p - 1) / 512) % p) ^ k % p))) := by
  refine gof_v (cc := cX0_usePrime) (maxL := 10) (by decide) rfl (Nat.le_of_ble_eq_true rfl) ?_
  intro M sz C hlM hRM hr hsz
  have h0 : 0 < N := by omega
  have h1 : 1 < N := by omega
  refine g_aload_n C dX0_usePrime_0 (k := ?_)
  refine g_lload_n C dX0_usePrime_1 (k := ?_)
  refine g_putf (Cn := RX0) (T := TX0) (n := 8) (ref := "WheelProducts") (ty := .long) C 0 0 h0 e0 rfl (by decide +kernel) tyX0 tyX0_ok nmX0 (by decide) (by decide +kernel) (fun _ h => h) rfl (by decide +kernel) rfl rfl (Nat.le_of_ble_eq_true rfl) dX0_usePrime_2 ?_
  refine g_ct (ct' := va_up ct 0 (obX p ad)) rfl ?_
  refine g_lload_n C dX0_usePrime_5 (k := ?_)
  refine g_lload_n C dX0_usePrime_6 (k := ?_)
  refine g_lconst C (lN 1) dX0_usePrime_7 (k := ?_)
  refine gN_lsub C (by omega) dX0_usePrime_8 ?_
  refine g_ldc2 (v := 512) C (by decide +kernel) dX0_usePrime_9 ?_
  refine g_tl (lN 512) rfl ?_
  refine gN_ldiv C (by omega) (by decide) (by decide) dX0_usePrime_12 ?_
  refine g_lload_n C dX0_usePrime_13 (k := ?_)
  have hdl : (p - 1) / 512 ≤ p - 1 := Nat.div_le_self _ _
  refine g_cSl (n := 3) (av := [.long (lN g), .long (lN ((p - 1) / 512)), .long (lN p)]) C (by rw [hlM]; exact c_powerModulo l hg (by omega) hp hp2) gX0_usePrime_X0_powerModulo rfl ⟨rfl, rfl⟩ (by rw [hRM]; exact ⟨Nat.le_of_ble_eq_true rfl, Nat.le_of_ble_eq_true rfl⟩) (by rw [hRM]; exact ⟨Nat.le_of_ble_eq_true rfl, Nat.le_of_ble_eq_true rfl⟩) (Nat.le_of_ble_eq_true rfl) (by decide +kernel) rfl dX0_usePrime_14 ?_
  rintro _ _ ⟨rfl, rfl⟩
  generalize hst : g ^ ((p - 1) / 512) % p = st
  have hsl : st < p := by rw [← hst]; exact Nat.mod_lt _ (by omega)
  have loop : ∀ (d i : Nat), 512 = i + d → gW M D vwCl (ixA N ad sz) 10 0 0 (MQ (gb M) (va_Qv (fun ct1 => ct1 = va_up (va_up ct 0 (obX p ad)) 1 (LN cJ 512 (fun k => st ^ k % p))) (gB D vwCl tys N ad (ixA N ad sz)) (ixA N ad sz)) (ga M) (gs M) 0 0 (ixA N ad sz)) N ad 25 [(0, some (.ref (ad 0))), (1, some (.long (lN p))), (5, some (.long (lN st))), (7, some (.long (lN (st ^ i % p)))), (9, some (.int (nI i)))] [] (va_up (va_up ct 0 (obX p ad)) 1 (LN cJ 512 (fun k => if k < i then st ^ k % p else w0 k))) := by
    intro d
    induction d with
    | zero =>
      intro i hd
      have hi : i = 512 := by omega
      subst hi
      refine g_iload C dX0_usePrime_25 (k := ?_)
      refine g_sipush C (nI 512) dX0_usePrime_27 (k := ?_)
      refine g_icN_ge (tgt := 57) C (by decide) (by decide) dX0_usePrime_30 (by decide) (fun _ => ?_) (fun h => absurd h (by decide))
      refine g_ext 1 (va_up_self _ _ _) (g := fun k => lN (st ^ k % p)) (fun k hk => by show lN (if k < 512 then st ^ k % p else w0 k) = _; rw [if_pos hk]) ?_
      refine g_vret C hr ?_ dX0_usePrime_57
      rw [bx_uu]
    | succ d ih =>
      intro i hd
      have hml : st ^ i % p < p := Nat.mod_lt _ (by omega)
      have hmul : st ^ i % p * st < 2 ^ 62 := Nat.lt_of_lt_of_le (Nat.mul_lt_mul'' (Nat.lt_trans hml hp2) (Nat.lt_trans hsl hp2)) (by decide)
      refine g_iload C dX0_usePrime_25 (k := ?_)
      refine g_sipush C (nI 512) dX0_usePrime_27 (k := ?_)
      refine g_icN_ge (tgt := 57) C (by omega) (by decide) dX0_usePrime_30 (by decide) (fun h => absurd h (by omega)) (fun _ => ?_)
      refine g_aload_n C dX0_usePrime_33 (k := ?_)
      refine g_getf (Cn := RX0) (T := TX0) (n := 8) (ref := "WheelProducts") C 0 1 h0 (by rw [va_up_ne _ _ (by decide), va_up_self]) rfl (by decide +kernel) (by decide) (by decide +kernel) (fun _ h => h) rfl dX0_usePrime_34 ?_
      refine g_iload C dX0_usePrime_37 (k := ?_)
      refine g_lload C dX0_usePrime_39 (k := ?_)
      refine gN_last C 1 h1 (va_up_self _ _ _) ht (by omega) (by decide) dX0_usePrime_41 ?_
      rw [bx_uu]
      refine g_lload C dX0_usePrime_42 (k := ?_)
      refine g_lload C dX0_usePrime_44 (k := ?_)
      refine gN_lmul C dX0_usePrime_46 ?_
      refine g_lload_n C dX0_usePrime_47 (k := ?_)
      refine gN_lrem C (by omega) (by omega) (by omega) dX0_usePrime_48 ?_
      rw [show st ^ i % p * st % p = st ^ (i + 1) % p by rw [Nat.pow_succ, Nat.mod_mul_mod]]
      refine g_lstore C dX0_usePrime_49 (k := ?_)
      refine gN_inc C dX0_usePrime_51 (k := ?_)
      refine g_goto (tgt := 25) C dX0_usePrime_54 (k := ?_)
      have e : nu (fun k => if k < i then st ^ k % p else w0 k) i (st ^ i % p) = fun k => if k < i + 1 then st ^ k % p else w0 k := by
        funext k
        unfold nu
        by_cases h1 : k = i
        · subst h1; rw [if_pos rfl, if_pos (by omega)]
        · rw [if_neg h1]
          show (if k < i then st ^ k % p else w0 k) = _
          by_cases h2 : k < i
          · rw [if_pos h2, if_pos (by omega)]
          · rw [if_neg h2, if_neg (by omega)]
      rw [e]
      exact g_l2 (ih (i + 1) (by omega)) ⟨Or.inr rfl, Or.inr rfl, Or.inr rfl, Or.inr rfl, Or.inr rfl, trivial⟩
  refine g_lstore C dX0_usePrime_17 (k := ?_)
  refine g_lconst C (lN 1) dX0_usePrime_19 (k := ?_)
  refine g_lstore C dX0_usePrime_20 (k := ?_)
  refine g_iconst C (nI 0) dX0_usePrime_22 (k := ?_)
  refine g_istore C dX0_usePrime_23 (k := ?_)
  refine g_ct (ct' := va_up (va_up ct 0 (obX p ad)) 1 (LN cJ 512 (fun k => if k < 0 then st ^ k % p else w0 k))) ?_ ?_
  · have : (fun k => if k < 0 then st ^ k % p else w0 k) = w0 := funext fun k => if_neg (by omega)
    rw [this]
    exact (up_id (q := 1) (by rw [va_up_ne _ _ (by decide)]; exact ew)).symm
  · refine g_l2 (loop 512 0 (by omega)) ⟨Or.inr rfl, Or.inr rfl, Or.inr rfl, Or.inr ?_, Or.inr rfl, trivial⟩
    rw [Nat.pow_zero, Nat.mod_eq_of_lt hp]; rfl
