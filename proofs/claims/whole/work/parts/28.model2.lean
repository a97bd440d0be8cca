theorem okR_nil (p g : Nat) : okR p [] g = true := rfl
theorem okR_cons (p g q : Nat) (L : List Nat) : okR p (q :: L) g = (decide (g ^ ((p - 1) / q) % p ≠ 1) && okR p L g) := by unfold okR; rw [List.all_cons]
abbrev rir : Room := { frames := 1, cells := 0, slots := 0, locals := 31 }
set_option maxRecDepth 100000 in
set_option maxHeartbeats 4000000 in
theorem m_isRoot (l : Launch) {D : va_G} {tys : List (ClassId × FieldType)} {N : Nat} {ad : Nat → Nat} {ct : Nat → va_E} {cl : List vw_C} {g p : Nat} (hg : g < 2 ^ 31) (hp : 2 < p) (hp2 : p < 2 ^ 31) :
    gMi l yX1_isRoot wsX1_isRoot rir D cl tys N ad [.long (lN g), .long (lN p)] ct (fun r ct1 => r = nI (if okR p (facs (p - 1)) g = true then 1 else 0) ∧ ct1 = ct) := by
  refine gof_z (cc := cX1_isRoot) (maxL := 9) (by decide) rfl (Nat.le_of_ble_eq_true rfl) ?_
  intro M sz C hlM hRM hr hsz
  have hfin : ∀ (c b d : Nat), 1 ≤ c → c < 2 ^ 31 → (b = 0 ∨ b = 1) → okR p (facs (p - 1)) g = (decide (b = 1) && okR p (if 1 < c then [c] else []) g) → gW M D cl (ixA N ad sz) 9 0 0 (MQ (gb M) (va_Qi (fun r ct1 => r = nI (if okR p (facs (p - 1)) g = true then 1 else 0) ∧ ct1 = ct) (gB D cl tys N ad (ixA N ad sz)) (ixA N ad sz)) (ga M) (gs M) 0 0 (ixA N ad sz)) N ad 91 [(0, some (.long (lN g))), (2, some (.long (lN p))), (4, some (.long (lN c))), (6, some (.int (nI b))), (7, some (.long (lN d)))] [] ct := by
    intro c b d hc hc2 hb hv
    refine g_iload C dX1_isRoot_91 (k := ?_)
    rcases hb with rfl | rfl
    · refine g_ifN_eq (tgt := 123) C (by decide) dX1_isRoot_93 (by decide) (fun _ => ?_) (fun h => absurd rfl h)
      refine g_iconst C (nI 0) dX1_isRoot_123 (k := ?_)
      refine g_zret C hr (by decide) ⟨?_, rfl⟩ dX1_isRoot_124
      rw [show okR p (facs (p - 1)) g = false from hv]; rfl
    · refine g_ifN_eq (tgt := 123) C (by decide) dX1_isRoot_93 (by decide) (fun h => absurd h (by decide)) (fun _ => ?_)
      refine g_lload C dX1_isRoot_96 (k := ?_)
      refine g_lconst C (lN 1) dX1_isRoot_98 (k := ?_)
      by_cases hc1 : c = 1
      · subst hc1
        refine g_lcN_eq (tgt := 119) C (by decide) (by decide) dX1_isRoot_99 dX1_isRoot_100 (by decide) (fun _ => ?_) (fun h => absurd rfl h)
        refine g_iconst C (nI 1) dX1_isRoot_119 (k := ?_)
        refine g_goto (tgt := 124) C dX1_isRoot_120 (k := ?_)
        refine g_zret C hr (by decide) ⟨?_, rfl⟩ dX1_isRoot_124
        rw [show okR p (facs (p - 1)) g = true from hv]; rfl
      · refine g_lcN_eq (tgt := 119) C (by omega) (by decide) dX1_isRoot_99 dX1_isRoot_100 (by decide) (fun h => absurd h hc1) (fun _ => ?_)
        rw [if_pos (by omega), okR_cons, okR_nil] at hv
        have hdl : (p - 1) / c ≤ p - 1 := Nat.div_le_self _ _
        refine g_lload_n C dX1_isRoot_103 (k := ?_)
        refine g_lload_n C dX1_isRoot_104 (k := ?_)
        refine g_lconst C (lN 1) dX1_isRoot_105 (k := ?_)
        refine gN_lsub C (by omega) dX1_isRoot_106 ?_
        refine g_lload C dX1_isRoot_107 (k := ?_)
        refine gN_ldiv C (by omega) (by omega) (by omega) dX1_isRoot_109 ?_
        refine g_lload_n C dX1_isRoot_110 (k := ?_)
        refine g_cSl (n := 3) (av := [.long (lN g), .long (lN ((p - 1) / c)), .long (lN p)]) C (by rw [hlM]; exact m_raise l (by omega) (by omega) (by omega) hp2) gX1_isRoot_X1_raise rfl ⟨rfl, rfl⟩ (by rw [hRM]; exact ⟨Nat.le_of_ble_eq_true rfl, Nat.le_of_ble_eq_true rfl⟩) (by rw [hRM]; exact ⟨Nat.le_of_ble_eq_true rfl, Nat.le_of_ble_eq_true rfl⟩) (Nat.le_of_ble_eq_true rfl) (by decide +kernel) rfl dX1_isRoot_111 ?_
        rintro _ ct ⟨rfl, rfl⟩
        have hml : g ^ ((p - 1) / c) % p < p := Nat.mod_lt _ (by omega)
        refine g_lconst C (lN 1) dX1_isRoot_114 (k := ?_)
        by_cases h1 : g ^ ((p - 1) / c) % p = 1
        · refine g_lcN_eq (tgt := 123) C (by omega) (by decide) dX1_isRoot_115 dX1_isRoot_116 (by decide) (fun _ => ?_) (fun h => absurd h1 h)
          refine g_iconst C (nI 0) dX1_isRoot_123 (k := ?_)
          refine g_zret C hr (by decide) ⟨?_, rfl⟩ dX1_isRoot_124
          rw [hv]; simp [h1]
        · refine g_lcN_eq (tgt := 123) C (by omega) (by decide) dX1_isRoot_115 dX1_isRoot_116 (by decide) (fun h => absurd h h1) (fun _ => ?_)
          refine g_iconst C (nI 1) dX1_isRoot_119 (k := ?_)
          refine g_goto (tgt := 124) C dX1_isRoot_120 (k := ?_)
          refine g_zret C hr (by decide) ⟨?_, rfl⟩ dX1_isRoot_124
          rw [hv]; simp [h1]
  have loop : ∀ (f d c b : Nat), d + f = 46343 → 2 ≤ d → 1 ≤ c → c < 2 ^ 31 → (b = 0 ∨ b = 1) → okR p (facs (p - 1)) g = (decide (b = 1) && okR p (ffl f d c) g) → gW M D cl (ixA N ad sz) 9 0 0 (MQ (gb M) (va_Qi (fun r ct1 => r = nI (if okR p (facs (p - 1)) g = true then 1 else 0) ∧ ct1 = ct) (gB D cl tys N ad (ixA N ad sz)) (ixA N ad sz)) (ga M) (gs M) 0 0 (ixA N ad sz)) N ad 13 [(0, some (.long (lN g))), (2, some (.long (lN p))), (4, some (.long (lN c))), (6, some (.int (nI b))), (7, some (.long (lN d)))] [] ct := by
    intro f
    induction f with
    | zero =>
      intro d c b hd hd2 hc hc2 hb hv
      have hdd : 46343 * 46343 ≤ d * d := Nat.mul_le_mul (by omega) (by omega)
      have hdu : d * d ≤ 46343 * 46343 := Nat.mul_le_mul (by omega) (by omega)
      refine g_lload C dX1_isRoot_13 (k := ?_)
      refine g_lload C dX1_isRoot_15 (k := ?_)
      refine gN_lmul C dX1_isRoot_17 ?_
      refine g_lload C dX1_isRoot_18 (k := ?_)
      refine g_lcN_gt (tgt := 91) C (by omega) (by omega) dX1_isRoot_20 dX1_isRoot_21 (by decide) (fun _ => ?_) (fun h => absurd h (by omega))
      exact hfin c b d hc hc2 hb hv
    | succ f ih =>
      intro d c b hd hd2 hc hc2 hb hv
      have hdu : d * d ≤ 46343 * 46343 := Nat.mul_le_mul (by omega) (by omega)
      refine g_lload C dX1_isRoot_13 (k := ?_)
      refine g_lload C dX1_isRoot_15 (k := ?_)
      refine gN_lmul C dX1_isRoot_17 ?_
      refine g_lload C dX1_isRoot_18 (k := ?_)
      by_cases hdc : d * d ≤ c
      · refine g_lcN_gt (tgt := 91) C (by omega) (by omega) dX1_isRoot_20 dX1_isRoot_21 (by decide) (fun h => absurd h (by omega)) (fun _ => ?_)
        refine g_iload C dX1_isRoot_24 (k := ?_)
        rcases hb with rfl | rfl
        · refine g_ifN_eq (tgt := 91) C (by decide) dX1_isRoot_26 (by decide) (fun _ => ?_) (fun h => absurd rfl h)
          exact hfin c 0 d hc hc2 (Or.inl rfl) hv
        · refine g_ifN_eq (tgt := 91) C (by decide) dX1_isRoot_26 (by decide) (fun h => absurd h (by decide)) (fun _ => ?_)
          rw [ffl, if_pos hdc] at hv
          have hm : c % d < 2 ^ 63 := Nat.lt_trans (Nat.mod_lt c (show 0 < d by omega)) (by omega)
          refine g_lload C dX1_isRoot_29 (k := ?_)
          refine g_lload C dX1_isRoot_31 (k := ?_)
          refine gN_lrem C (by omega) (by omega) (by omega) dX1_isRoot_33 ?_
          refine g_lconst C (lN 0) dX1_isRoot_34 (k := ?_)
          by_cases hz : c % d = 0
          · rw [if_pos hz, okR_cons] at hv
            have hdl : (p - 1) / d ≤ p - 1 := Nat.div_le_self _ _
            have strip : ∀ (k c1 b1 : Nat), 1 ≤ c1 → c1 < 2 ^ 31 → c1 < d ^ k → wof d k c1 = wof d 31 c → (b1 = 0 ∨ b1 = 1) → okR p (facs (p - 1)) g = (decide (b1 = 1) && okR p (ffl f (d + 1) (wof d 31 c)) g) → gW M D cl (ixA N ad sz) 9 0 0 (MQ (gb M) (va_Qi (fun r ct1 => r = nI (if okR p (facs (p - 1)) g = true then 1 else 0) ∧ ct1 = ct) (gB D cl tys N ad (ixA N ad sz)) (ixA N ad sz)) (ga M) (gs M) 0 0 (ixA N ad sz)) N ad 62 [(0, some (.long (lN g))), (2, some (.long (lN p))), (4, some (.long (lN c1))), (6, some (.int (nI b1))), (7, some (.long (lN d)))] [] ct := by
              intro k
              induction k with
              | zero => intro c1 b1 h1 _ h2 _ _ _; rw [Nat.pow_zero] at h2; omega
              | succ k ihk =>
                intro c1 b1 h1 h12 h2 h3 hb1 hv1
                have hm1 : c1 % d < 2 ^ 63 := Nat.lt_trans (Nat.mod_lt c1 (show 0 < d by omega)) (by omega)
                refine g_lload C dX1_isRoot_62 (k := ?_)
                refine g_lload C dX1_isRoot_64 (k := ?_)
                refine gN_lrem C (by omega) (by omega) (by omega) dX1_isRoot_66 ?_
                refine g_lconst C (lN 0) dX1_isRoot_67 (k := ?_)
                by_cases hz1 : c1 % d = 0
                · refine g_lcN_ne (tgt := 82) C hm1 (by decide) dX1_isRoot_68 dX1_isRoot_69 (by decide) (fun h => absurd hz1 h) (fun _ => ?_)
                  have e9 := Nat.div_add_mod c1 d
                  rw [hz1, Nat.add_zero] at e9
                  have hq1 : 1 ≤ c1 / d := by
                    rcases Nat.eq_zero_or_pos (c1 / d) with h9 | h9
                    · rw [h9, Nat.mul_zero] at e9; omega
                    · exact h9
                  have hq2 : c1 / d ≤ c1 := Nat.div_le_self _ _
                  refine g_lload C dX1_isRoot_72 (k := ?_)
                  refine g_lload C dX1_isRoot_74 (k := ?_)
                  refine gN_ldiv C (by omega) (by omega) (by omega) dX1_isRoot_76 ?_
                  refine g_lstore C dX1_isRoot_77 (k := ?_)
                  refine g_goto (tgt := 62) C dX1_isRoot_79 (k := ?_)
                  refine g_l2 (ihk (c1 / d) b1 hq1 (by omega) ?_ ?_ hb1 hv1) ⟨Or.inr rfl, Or.inr rfl, Or.inr rfl, Or.inr rfl, Or.inr rfl, trivial⟩
                  · rw [Nat.pow_succ] at h2
                    rw [Nat.div_lt_iff_lt_mul (by omega)]; exact h2
                  · rw [← h3, wof, if_pos hz1]
                · refine g_lcN_ne (tgt := 82) C hm1 (by decide) dX1_isRoot_68 dX1_isRoot_69 (by decide) (fun _ => ?_) (fun h => absurd h hz1)
                  rw [wof, if_neg hz1] at h3
                  refine g_lload C dX1_isRoot_82 (k := ?_)
                  refine g_lconst C (lN 1) dX1_isRoot_84 (k := ?_)
                  refine gN_ladd C dX1_isRoot_85 ?_
                  refine g_lstore C dX1_isRoot_86 (k := ?_)
                  refine g_goto (tgt := 13) C dX1_isRoot_88 (k := ?_)
                  refine g_l2 (ih (d + 1) c1 b1 (by omega) (by omega) h1 h12 hb1 (by rw [h3]; exact hv1)) ⟨Or.inr rfl, Or.inr rfl, Or.inr rfl, Or.inr rfl, Or.inr rfl, trivial⟩
            have hpw : c < d ^ 31 := Nat.lt_of_lt_of_le hc2 (Nat.pow_le_pow_left hd2 31)
            refine g_lcN_ne (tgt := 82) C hm (by decide) dX1_isRoot_35 dX1_isRoot_36 (by decide) (fun h => absurd hz h) (fun _ => ?_)
            refine g_lload_n C dX1_isRoot_39 (k := ?_)
            refine g_lload_n C dX1_isRoot_40 (k := ?_)
            refine g_lconst C (lN 1) dX1_isRoot_41 (k := ?_)
            refine gN_lsub C (by omega) dX1_isRoot_42 ?_
            refine g_lload C dX1_isRoot_43 (k := ?_)
            refine gN_ldiv C (by omega) (by omega) (by omega) dX1_isRoot_45 ?_
            refine g_lload_n C dX1_isRoot_46 (k := ?_)
            refine g_cSl (n := 3) (av := [.long (lN g), .long (lN ((p - 1) / d)), .long (lN p)]) C (by rw [hlM]; exact m_raise l (by omega) (by omega) (by omega) hp2) gX1_isRoot_X1_raise rfl ⟨rfl, rfl⟩ (by rw [hRM]; exact ⟨Nat.le_of_ble_eq_true rfl, Nat.le_of_ble_eq_true rfl⟩) (by rw [hRM]; exact ⟨Nat.le_of_ble_eq_true rfl, Nat.le_of_ble_eq_true rfl⟩) (Nat.le_of_ble_eq_true rfl) (by decide +kernel) rfl dX1_isRoot_47 ?_
            rintro _ ct ⟨rfl, rfl⟩
            have hml : g ^ ((p - 1) / d) % p < p := Nat.mod_lt _ (by omega)
            refine g_lconst C (lN 1) dX1_isRoot_50 (k := ?_)
            by_cases h1 : g ^ ((p - 1) / d) % p = 1
            · refine g_lcN_eq (tgt := 59) C (by omega) (by decide) dX1_isRoot_51 dX1_isRoot_52 (by decide) (fun _ => ?_) (fun h => absurd h1 h)
              refine g_iconst C (nI 0) dX1_isRoot_59 (k := ?_)
              refine g_istore C dX1_isRoot_60 (k := ?_)
              exact g_l2 (strip 31 c 0 hc hc2 hpw rfl (Or.inl rfl) (by rw [hv]; simp [h1])) ⟨Or.inr rfl, Or.inr rfl, Or.inr rfl, Or.inr rfl, Or.inr rfl, trivial⟩
            · refine g_lcN_eq (tgt := 59) C (by omega) (by decide) dX1_isRoot_51 dX1_isRoot_52 (by decide) (fun h => absurd h h1) (fun _ => ?_)
              refine g_iconst C (nI 1) dX1_isRoot_55 (k := ?_)
              refine g_goto (tgt := 60) C dX1_isRoot_56 (k := ?_)
              refine g_istore C dX1_isRoot_60 (k := ?_)
              exact g_l2 (strip 31 c 1 hc hc2 hpw rfl (Or.inr rfl) (by rw [hv]; simp [h1])) ⟨Or.inr rfl, Or.inr rfl, Or.inr rfl, Or.inr rfl, Or.inr rfl, trivial⟩
          · rw [if_neg hz] at hv
            refine g_lcN_ne (tgt := 82) C hm (by decide) dX1_isRoot_35 dX1_isRoot_36 (by decide) (fun _ => ?_) (fun h => absurd h hz)
            refine g_lload C dX1_isRoot_82 (k := ?_)
            refine g_lconst C (lN 1) dX1_isRoot_84 (k := ?_)
            refine gN_ladd C dX1_isRoot_85 ?_
            refine g_lstore C dX1_isRoot_86 (k := ?_)
            refine g_goto (tgt := 13) C dX1_isRoot_88 (k := ?_)
            exact g_l2 (ih (d + 1) c 1 (by omega) (by omega) hc hc2 (Or.inr rfl) hv) ⟨Or.inr rfl, Or.inr rfl, Or.inr rfl, Or.inr rfl, Or.inr rfl, trivial⟩
      · rw [ffl, if_neg hdc] at hv
        refine g_lcN_gt (tgt := 91) C (by omega) (by omega) dX1_isRoot_20 dX1_isRoot_21 (by decide) (fun _ => ?_) (fun h => absurd h (by omega))
        exact hfin c b d hc hc2 hb hv
  refine g_lload_n C dX1_isRoot_0 (k := ?_)
  refine g_lconst C (lN 1) dX1_isRoot_1 (k := ?_)
  refine gN_lsub C (by omega) dX1_isRoot_2 ?_
  refine g_lstore C dX1_isRoot_3 (k := ?_)
  refine g_iconst C (nI 1) dX1_isRoot_5 (k := ?_)
  refine g_istore C dX1_isRoot_6 (k := ?_)
  refine g_ldc2 (v := 2) C (by decide +kernel) dX1_isRoot_8 ?_
  refine g_tl (lN 2) rfl ?_
  refine g_lstore C dX1_isRoot_11 (k := ?_)
  exact g_l2 (loop 46341 2 (p - 1) 1 rfl (by decide) (by omega) (by omega) (Or.inr rfl) rfl) ⟨Or.inr rfl, Or.inr rfl, Or.inr rfl, Or.inr rfl, Or.inr rfl, trivial⟩
/-- the least number from 1 on that passes -/
def lsR (p g : Nat) : Prop := 1 ≤ g ∧ okR p (facs (p - 1)) g = true ∧ ∀ h, 1 ≤ h → h < g → okR p (facs (p - 1)) h = false
abbrev rro : Room := { frames := 2, cells := 0, slots := 0, locals := 60 }
set_option maxRecDepth 100000 in
set_option maxHeartbeats 4000000 in
theorem m_rootOf (l : Launch) {D : va_G} {tys : List (ClassId × FieldType)} {N : Nat} {ad : Nat → Nat} {ct : Nat → va_E} {cl : List vw_C} {p g0 : Nat} (hp : 2 < p) (hp2 : p < 2 ^ 31) (hg : lsR p g0) (hg2 : g0 < 2 ^ 31) :
    gMl l yX1_rootOf wsX1_rootOf rro D cl tys N ad [.long (lN p)] ct (fun r ct1 => r = lN g0 ∧ ct1 = ct) := by
  refine gof_l (cc := cX1_rootOf) (maxL := 4) (by decide) rfl (Nat.le_of_ble_eq_true rfl) ?_
  intro M sz C hlM hRM hr hsz
  have loop : ∀ (f g : Nat), g + f = g0 → 1 ≤ g → gW M D cl (ixA N ad sz) 4 0 0 (MQ (gb M) (va_Ql (fun r ct1 => r = lN g0 ∧ ct1 = ct) (gB D cl tys N ad (ixA N ad sz)) (ixA N ad sz)) (ga M) (gs M) 0 0 (ixA N ad sz)) N ad 2 [(0, some (.long (lN p))), (2, some (.long (lN g)))] [] ct := by
    intro f
    induction f with
    | zero =>
      intro g hgf h1
      have hgg : g = g0 := by omega
      subst hgg
      refine g_lload_n C dX1_rootOf_2 (k := ?_)
      refine g_lload_n C dX1_rootOf_3 (k := ?_)
      refine g_cSi (n := 2) (av := [.long (lN g), .long (lN p)]) C (by rw [hlM]; exact m_isRoot l hg2 hp hp2) gX1_rootOf_X1_isRoot rfl ⟨rfl, rfl⟩ (by rw [hRM]; exact ⟨Nat.le_of_ble_eq_true rfl, Nat.le_of_ble_eq_true rfl⟩) (by rw [hRM]; exact ⟨Nat.le_of_ble_eq_true rfl, Nat.le_of_ble_eq_true rfl⟩) (Nat.le_of_ble_eq_true rfl) (by decide +kernel) rfl dX1_rootOf_4 ?_
      rintro _ _ ⟨rfl, rfl⟩
      rw [if_pos hg.2.1]
      refine g_ifN_ne (tgt := 17) C (by decide) dX1_rootOf_7 (by decide) (fun _ => ?_) (fun h => absurd h (by decide))
      refine g_lload_n C dX1_rootOf_17 (k := ?_)
      exact g_lret C hr ⟨rfl, rfl⟩ dX1_rootOf_18
    | succ f ih =>
      intro g hgf h1
      refine g_lload_n C dX1_rootOf_2 (k := ?_)
      refine g_lload_n C dX1_rootOf_3 (k := ?_)
      refine g_cSi (n := 2) (av := [.long (lN g), .long (lN p)]) C (by rw [hlM]; exact m_isRoot l (by omega) hp hp2) gX1_rootOf_X1_isRoot rfl ⟨rfl, rfl⟩ (by rw [hRM]; exact ⟨Nat.le_of_ble_eq_true rfl, Nat.le_of_ble_eq_true rfl⟩) (by rw [hRM]; exact ⟨Nat.le_of_ble_eq_true rfl, Nat.le_of_ble_eq_true rfl⟩) (Nat.le_of_ble_eq_true rfl) (by decide +kernel) rfl dX1_rootOf_4 ?_
      rintro _ ct ⟨rfl, rfl⟩
      rw [hg.2.2 g h1 (by omega), if_neg (by decide)]
      refine g_ifN_ne (tgt := 17) C (by decide) dX1_rootOf_7 (by decide) (fun h => absurd rfl h) (fun _ => ?_)
      refine g_lload_n C dX1_rootOf_10 (k := ?_)
      refine g_lconst C (lN 1) dX1_rootOf_11 (k := ?_)
      refine gN_ladd C dX1_rootOf_12 ?_
      refine g_lstore_n C dX1_rootOf_13 (k := ?_)
      refine g_goto (tgt := 2) C dX1_rootOf_14 (k := ?_)
      exact g_l2 (ih (g + 1) (by omega) (by omega)) ⟨Or.inr rfl, Or.inr rfl, trivial⟩
  refine g_lconst C (lN 1) dX1_rootOf_0 (k := ?_)
  refine g_lstore_n C dX1_rootOf_1 (k := ?_)
  exact g_l2 (loop (g0 - 1) 1 (by have := hg.1; omega) (by decide)) ⟨Or.inr rfl, Or.inr rfl, trivial⟩
set_option maxRecDepth 100000 in
set_option maxHeartbeats 4000000 in
theorem m_clearSums (l : Launch) {D : va_G} {tys : List (ClassId × FieldType)} {N : Nat} {ad : Nat → Nat} {ct : Nat → va_E} (hN : 26 ≤ N) {cJ : ClassId} {th : Int32} {p g : Nat} {z : Nat → Nat} (e20 : ct 20 = obM th p g ad) (ez : ct 25 = LN cJ 241 z) (ht : tys[0]? = some (cJ, .long)) :
    gMv l yX1_clearSums wsX1_clearSums rz D vwCl tys N ad [.ref (ad 20)] ct (fun ct1 => ct1 = va_up ct 25 (LN cJ 241 (fun _ => 0))) := by
  refine gof_v (cc := cX1_clearSums) (maxL := 2) (by decide) rfl (Nat.le_of_ble_eq_true rfl) ?_
  intro M sz C hlM hRM hr hsz
  have h20 : 20 < N := by omega
  have h25 : 25 < N := by omega
  have loop : ∀ (d i : Nat), 241 = i + d → gW M D vwCl (ixA N ad sz) 2 0 0 (MQ (gb M) (va_Qv (fun ct1 => ct1 = va_up ct 25 (LN cJ 241 (fun _ => 0))) (gB D vwCl tys N ad (ixA N ad sz)) (ixA N ad sz)) (ga M) (gs M) 0 0 (ixA N ad sz)) N ad 2 [(0, some (.ref (ad 20))), (1, some (.int (nI i)))] [] (va_up ct 25 (LN cJ 241 (fun k => if k < i then 0 else z k))) := by
    intro d
    induction d with
    | zero =>
      intro i hd
      have hi : i = 241 := by omega
      subst hi
      refine g_iload_n C dX1_clearSums_2 (k := ?_)
      refine g_sipush C (nI 240) dX1_clearSums_3 (k := ?_)
      refine g_icN_gt (tgt := 22) C (by decide) (by decide) dX1_clearSums_6 (by decide) (fun _ => ?_) (fun h => absurd h (by decide))
      refine g_ext 25 (va_up_self _ _ _) (g := fun k => lN ((fun _ => 0) k)) (fun k hk => by show lN (if k < 241 then 0 else z k) = _; rw [if_pos hk]) ?_
      refine g_vret C hr ?_ dX1_clearSums_22
      rw [bx_uu]
    | succ d ih =>
      intro i hd
      refine g_iload_n C dX1_clearSums_2 (k := ?_)
      refine g_sipush C (nI 240) dX1_clearSums_3 (k := ?_)
      refine g_icN_gt (tgt := 22) C (by omega) (by decide) dX1_clearSums_6 (by decide) (fun h => absurd h (by omega)) (fun _ => ?_)
      refine g_aload_n C dX1_clearSums_9 (k := ?_)
      refine g_getf (Cn := RX1) (T := TX1) (n := 8) (ref := "WheelProductsModel") C 20 7 h20 (by (repeat rw [va_up_ne _ _ (by omega)]); exact e20) rfl (by decide +kernel) (by decide) (by decide +kernel) (fun _ h => h) rfl dX1_clearSums_10 ?_
      refine g_iload_n C dX1_clearSums_13 (k := ?_)
      refine g_lconst C (lN 0) dX1_clearSums_14 (k := ?_)
      refine gN_last C 25 h25 (va_up_self _ _ _) ht (by omega) (by decide) dX1_clearSums_15 ?_
      refine gN_inc C dX1_clearSums_16 (k := ?_)
      refine g_goto (tgt := 2) C dX1_clearSums_19 (k := ?_)
      have e : nu (fun k => if k < i then 0 else z k) i 0 = fun k => if k < i + 1 then 0 else z k := by
        funext k
        unfold nu
        by_cases h1 : k = i
        · rw [if_pos h1, if_pos (by omega)]
        · rw [if_neg h1]
          show (if k < i then 0 else z k) = _
          by_cases h2 : k < i
          · rw [if_pos h2, if_pos (by omega)]
          · rw [if_neg h2, if_neg (by omega)]
      rw [bx_uu, e]
      exact g_l2 (ih (i + 1) (by omega)) ⟨Or.inr rfl, Or.inr rfl, trivial⟩
  refine g_iconst C (nI 0) dX1_clearSums_0 (k := ?_)
  refine g_istore_n C dX1_clearSums_1 (k := ?_)
  refine g_ct (ct' := va_up ct 25 (LN cJ 241 (fun k => if k < 0 then 0 else z k))) ?_ ?_
  · have : (fun k => if k < 0 then 0 else z k) = z := funext fun k => if_neg (by omega)
    rw [this, up_id ez]
  · exact g_l2 (loop 241 0 (by omega)) ⟨Or.inr rfl, Or.inr rfl, trivial⟩
/-- a flat row: of rows of W numbers, the first n of row t are s -/
def fr (W t n : Nat) (s v : Nat → Nat) : Nat → Nat := fun x => if W * t ≤ x ∧ x < W * t + n then s (x - W * t) else v x
theorem fr_0 (W t : Nat) (s v : Nat → Nat) : fr W t 0 s v = v := by
  funext x; unfold fr; rw [if_neg (by omega)]
theorem fr_s (W t n : Nat) (s v : Nat → Nat) : nu (fr W t n s v) (W * t + n) (s n) = fr W t (n + 1) s v := by
  funext x
  unfold nu fr
  by_cases h : x = W * t + n
  · rw [if_pos h, if_pos (by omega), show x - W * t = n by omega]
  · rw [if_neg h]
    by_cases h2 : W * t ≤ x ∧ x < W * t + n
    · rw [if_pos h2, if_pos (by omega)]
    · rw [if_neg h2, if_neg (by omega)]
theorem fr_at (W t n : Nat) (s v : Nat → Nat) {k : Nat} (h : k < n) : fr W t n s v (W * t + k) = s k := by
  unfold fr; rw [if_pos (by omega), Nat.add_sub_cancel_left]
abbrev rtk : Room := { frames := 1, cells := 0, slots := 0, locals := 22 }
set_option maxRecDepth 100000 in
set_option maxHeartbeats 4000000 in
theorem m_take (l : Launch) {D : va_G} {tys : List (ClassId × FieldType)} {N : Nat} {ad : Nat → Nat} {ct : Nat → va_E} (hN : 26 ≤ N) {cJ : ClassId} {th : Int32} {p g t : Nat} {s wd : Nat → Nat} (e20 : ct 20 = obM th p g ad) (ew : ct 22 = LN cJ 1440 wd) (es : ct 25 = LN cJ 241 s) (ht : tys[0]? = some (cJ, .long)) (ht6 : t < 6) (hw : ∀ k, k < 1440 → wd k < 2 ^ 63) (hs : ∀ k, k < 240 → s k < 2 ^ 63) :
    gMi l yX1_take wsX1_take rtk D vwCl tys N ad [.ref (ad 20), .int (nI t)] ct (fun r ct1 => r = nI (up1 s 240) ∧ ct1 = va_up ct 22 (LN cJ 1440 (fr 240 t 240 s wd))) := by
  refine gof_i (cc := cX1_take) (maxL := 3) (by decide) rfl (Nat.le_of_ble_eq_true rfl) ?_
  intro M sz C hlM hRM hr hsz
  have h20 : 20 < N := by omega
  have h22 : 22 < N := by omega
  have h25 : 25 < N := by omega
  have loop : ∀ (d i : Nat), 240 = i + d → gW M D vwCl (ixA N ad sz) 3 0 0 (MQ (gb M) (va_Qi (fun r ct1 => r = nI (up1 s 240) ∧ ct1 = va_up ct 22 (LN cJ 1440 (fr 240 t 240 s wd))) (gB D vwCl tys N ad (ixA N ad sz)) (ixA N ad sz)) (ga M) (gs M) 0 0 (ixA N ad sz)) N ad 2 [(0, some (.ref (ad 20))), (1, some (.int (nI t))), (2, some (.int (nI i)))] [] (va_up ct 22 (LN cJ 1440 (fr 240 t i s wd))) := by
    intro d
    induction d with
    | zero =>
      intro i hd
      have hi : i = 240 := by omega
      subst hi
      refine g_iload_n C dX1_take_2 (k := ?_)
      refine g_sipush C (nI 240) dX1_take_3 (k := ?_)
      refine g_icN_ge (tgt := 33) C (by decide) (by decide) dX1_take_6 (by decide) (fun _ => ?_) (fun h => absurd h (by decide))
      refine g_aload_n C dX1_take_33 (k := ?_)
      refine g_iload_n C dX1_take_34 (k := ?_)
      have hfrl : ∀ k, k < 1440 → fr 240 t 240 s wd k < 2 ^ 63 := fun k hk => by
        unfold fr
        split
        · exact hs _ (by omega)
        · exact hw k hk
      refine g_cVi (n := 1) (av := [.int (nI t)]) C 20 h20 (by (repeat rw [va_up_ne _ _ (by omega)]); exact e20) rfl (by rw [hlM]; exact m_sizeOf l hN (by (repeat rw [va_up_ne _ _ (by omega)]); exact e20) (va_up_self _ _ _) ht ht6 hfrl) gX1_take_X1_sizeOf rfl ⟨rfl, rfl⟩ (by rw [hRM]; exact ⟨Nat.le_of_ble_eq_true rfl, Nat.le_of_ble_eq_true rfl⟩) (by rw [hRM]; exact ⟨Nat.le_of_ble_eq_true rfl, Nat.le_of_ble_eq_true rfl⟩) (Nat.le_of_ble_eq_true rfl) (by decide +kernel) rfl dX1_take_35 ?_
      rintro _ _ ⟨rfl, rfl⟩
      refine g_iret C hr ⟨?_, rfl⟩ dX1_take_38
      rw [up1_congr (fun k hk => fr_at 240 t 240 s wd hk)]
    | succ d ih =>
      intro i hd
      refine g_iload_n C dX1_take_2 (k := ?_)
      refine g_sipush C (nI 240) dX1_take_3 (k := ?_)
      refine g_icN_ge (tgt := 33) C (by omega) (by decide) dX1_take_6 (by decide) (fun h => absurd h (by omega)) (fun _ => ?_)
      refine g_aload_n C dX1_take_9 (k := ?_)
      refine g_getf (Cn := RX1) (T := TX1) (n := 8) (ref := "WheelProductsModel") C 20 4 h20 (by (repeat rw [va_up_ne _ _ (by omega)]); exact e20) rfl (by decide +kernel) (by decide) (by decide +kernel) (fun _ h => h) rfl dX1_take_10 ?_
      refine g_sipush C (nI 240) dX1_take_13 (k := ?_)
      refine g_iload_n C dX1_take_16 (k := ?_)
      refine gN_imul C dX1_take_17 ?_
      refine g_iload_n C dX1_take_18 (k := ?_)
      refine gN_iadd C dX1_take_19 ?_
      refine g_aload_n C dX1_take_20 (k := ?_)
      refine g_getf (Cn := RX1) (T := TX1) (n := 8) (ref := "WheelProductsModel") C 20 7 h20 (by (repeat rw [va_up_ne _ _ (by omega)]); exact e20) rfl (by decide +kernel) (by decide) (by decide +kernel) (fun _ h => h) rfl dX1_take_21 ?_
      refine g_iload_n C dX1_take_24 (k := ?_)
      refine gN_lald C 25 h25 (by (repeat rw [va_up_ne _ _ (by omega)]); exact es) ht (by omega) (by decide) dX1_take_25 ?_
      refine gN_last C 22 h22 (va_up_self _ _ _) ht (by omega) (by decide) dX1_take_26 ?_
      rw [bx_uu, fr_s]
      refine gN_inc C dX1_take_27 (k := ?_)
      refine g_goto (tgt := 2) C dX1_take_30 (k := ?_)
      exact g_l2 (ih (i + 1) (by omega)) ⟨Or.inr rfl, Or.inr rfl, Or.inr rfl, trivial⟩
  refine g_iconst C (nI 0) dX1_take_0 (k := ?_)
  refine g_istore_n C dX1_take_1 (k := ?_)
  refine g_ct (ct' := va_up ct 22 (LN cJ 1440 (fr 240 t 0 s wd))) (by rw [fr_0, up_id ew]) ?_
  exact g_l2 (loop 240 0 (by omega)) ⟨Or.inr rfl, Or.inr rfl, Or.inr rfl, trivial⟩
