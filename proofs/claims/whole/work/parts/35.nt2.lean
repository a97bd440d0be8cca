/-! ===== the factors: what is found ===== -/
/-- no divisor from 2 on below d -/
def nsd (d n : Nat) : Prop := ∀ c, 2 ≤ c → c < d → ¬ c ∣ n
theorem wof_eq {d : Nat} : ∀ f n, ∃ k, n = d ^ k * wof d f n
  | 0, n => ⟨0, by rw [Nat.pow_zero, Nat.one_mul]; rfl⟩
  | f + 1, n => by
    unfold wof
    by_cases hz : n % d = 0
    · rw [if_pos hz]
      obtain ⟨k, hk⟩ := wof_eq (d := d) f (n / d)
      refine ⟨k + 1, ?_⟩
      have e := Nat.div_add_mod n d
      rw [hz, Nat.add_zero] at e
      rw [Nat.pow_succ, Nat.mul_comm (d ^ k) d, Nat.mul_assoc, ← hk, e]
    · rw [if_neg hz]
      exact ⟨0, by rw [Nat.pow_zero, Nat.one_mul]⟩
theorem nsd_dvd {d n m : Nat} (h : nsd d n) (hm : m ∣ n) : nsd d m := fun c h1 h2 h3 => h c h1 h2 (Nat.dvd_trans h3 hm)
theorem nsd_succ {d n : Nat} (h : nsd d n) (hd : ¬ d ∣ n) : nsd (d + 1) n := fun c h1 h2 h3 => by
  by_cases e : c = d
  · subst e; exact hd h3
  · exact h c h1 (by omega) h3
/-- d divides n, n has no lesser divisor: what is left behind d is without common divisors with it -/
theorem nsd_cop {d n : Nat} (hd : 2 ≤ d) (h : nsd d n) (h1 : d ∣ n) {m : Nat} (hm : m ∣ n) (h2 : ¬ d ∣ m) : Nat.gcd d m = 1 := by
  rcases Nat.lt_or_ge (Nat.gcd d m) 2 with h3 | h3
  · have : 0 < Nat.gcd d m := Nat.gcd_pos_of_pos_left _ (by omega)
    omega
  · exfalso
    have h4 : Nat.gcd d m ≤ d := Nat.le_of_dvd (by omega) (Nat.gcd_dvd_left d m)
    by_cases e : Nat.gcd d m = d
    · exact h2 (by rw [← e]; exact Nat.gcd_dvd_right d m)
    · exact h _ h3 (by omega) (Nat.dvd_trans (Nat.gcd_dvd_right d m) hm)
theorem ffl_all : ∀ (f d rem : Nat), d + f = 46343 → 2 ≤ d → 0 < rem → rem < 2 ^ 31 → nsd d rem → ∀ q, 2 ≤ q → nsd q q → q ∣ rem → q ∈ ffl f d rem := by
  intro f
  have hend : ∀ (d rem : Nat), 2 ≤ d → 0 < rem → rem < d * d → nsd d rem → ∀ q, 2 ≤ q → q ∣ rem → q ∈ (if 1 < rem then [rem] else ([] : List Nat)) := by
    intro d rem hd h0 hdd hn q hq hqr
    have hql := Nat.le_of_dvd h0 hqr
    rw [if_pos (by omega), List.mem_singleton]
    obtain ⟨s, hs⟩ := hqr
    have hqd : d ≤ q := Nat.not_lt.mp fun h => hn q hq h ⟨s, hs⟩
    rcases Nat.lt_or_ge s 2 with h1 | h1
    · rcases (show s = 0 ∨ s = 1 by omega) with rfl | rfl
      · rw [Nat.mul_zero] at hs; omega
      · rw [hs, Nat.mul_one]
    · have hsd : d ≤ s := Nat.not_lt.mp fun h => hn s h1 h ⟨q, by rw [hs, Nat.mul_comm]⟩
      have := Nat.mul_le_mul hqd hsd
      omega
  induction f with
  | zero =>
    intro d rem hd h2 h0 hr hn q hq _ hqr
    have hdd : 46343 * 46343 ≤ d * d := Nat.mul_le_mul (by omega) (by omega)
    exact hend d rem h2 h0 (by omega) hn q hq hqr
  | succ f ih =>
    intro d rem hd h2 h0 hr hn q hq hqq hqr
    unfold ffl
    by_cases hdd : d * d ≤ rem
    · rw [if_pos hdd]
      by_cases hz : rem % d = 0
      · rw [if_pos hz]
        have hdr := Nat.dvd_of_mod_eq_zero hz
        by_cases e : q = d
        · rw [e]; exact List.mem_cons_self
        · have hwd := wof_dvd d 31 rem
          have hwn : ¬ d ∣ wof d 31 rem := fun h => wof_not h2 31 rem h0 (Nat.lt_of_lt_of_le hr (Nat.pow_le_pow_left h2 31)) (Nat.mod_eq_zero_of_dvd h)
          obtain ⟨k, hk⟩ := wof_eq (d := d) 31 rem
          have hdq : ¬ d ∣ q := fun h => by
            have := Nat.le_of_dvd (by omega) h
            exact hqq d h2 (by omega) h
          have hc : Nat.gcd d q = 1 := nsd_cop h2 hn hdr hqr hdq
          have hc2 : Nat.Coprime q (d ^ k) := Nat.Coprime.pow_right k (Nat.Coprime.symm hc)
          refine List.mem_cons_of_mem _ (ih (d + 1) _ (by omega) (by omega) (wof_pos d 31 h0) (Nat.lt_of_le_of_lt (wof_le d 31 rem) hr) (nsd_succ (nsd_dvd hn hwd) hwn) q hq hqq ?_)
          exact Nat.Coprime.dvd_of_dvd_mul_left hc2 (by rw [← hk]; exact hqr)
      · rw [if_neg hz]
        exact ih (d + 1) rem (by omega) (by omega) h0 hr (nsd_succ hn (fun h => hz (Nat.mod_eq_zero_of_dvd h))) q hq hqq hqr
    · rw [if_neg hdd]
      exact hend d rem h2 h0 (by omega) hn q hq hqr
theorem least_div : ∀ n, 2 ≤ n → ∃ q, 2 ≤ q ∧ nsd q q ∧ q ∣ n := by
  intro n
  induction n using Nat.strongRecOn with
  | ind n ih =>
    intro h
    by_cases hn : nsd n n
    · exact ⟨n, h, hn, Nat.dvd_refl n⟩
    · have : ∃ c, 2 ≤ c ∧ c < n ∧ c ∣ n := Classical.byContradiction fun q => hn fun c h1 h2 h3 => q ⟨c, h1, h2, h3⟩
      obtain ⟨c, h1, h2, h3⟩ := this
      obtain ⟨q, hq1, hq2, hq3⟩ := ih c h2 h1
      exact ⟨q, hq1, hq2, Nat.dvd_trans hq3 h3⟩
theorem facs_all {n : Nat} (h0 : 0 < n) (hn : n < 2 ^ 31) {q : Nat} (hq : 2 ≤ q) (hqq : nsd q q) (hqn : q ∣ n) : q ∈ facs n :=
  ffl_all 46341 2 n rfl (by decide) h0 hn (fun c h1 h2 _ => by omega) q hq hqq hqn
theorem okR_iff {p : Nat} {L : List Nat} {g : Nat} : okR p L g = true ↔ ∀ q ∈ L, g ^ ((p - 1) / q) % p ≠ 1 := by
  unfold okR
  rw [List.all_eq_true]
  simp
/-! ===== a number that passes both tests tells a prime ===== -/
theorem lucas {p g : Nat} (hp : 2 < p) (hp2 : p < 2 ^ 31) (h1 : g ^ (p - 1) % p = 1) (h2 : okR p (facs (p - 1)) g = true) : prm p := by
  have hne : NeZero p := ⟨by omega⟩
  have hg1 : zp p g ^ (p - 1) = 1 := by rw [← zp_pow]; exact (zp_eq1 (by omega)).mpr h1
  -- different powers
  have hdiff : ∀ i j, i < j → j < p - 1 → zp p g ^ i ≠ zp p g ^ j := by
    intro i j hij hj h
    have e1 : zp p g ^ (j - i) = 1 := by
      have a1 : zp p g ^ (p - 1) = zp p g ^ i * zp p g ^ (p - 1 - i) := by rw [← Lean.Grind.Semiring.pow_add]; congr 1; omega
      have a2 : zp p g ^ j = zp p g ^ i * zp p g ^ (j - i) := by rw [← Lean.Grind.Semiring.pow_add]; congr 1; omega
      rw [hg1] at a1
      grind
    have e2 := pow_gcd (j - i) (p - 1) e1 hg1
    have hed := Nat.gcd_dvd_right (j - i) (p - 1)
    have hel : Nat.gcd (j - i) (p - 1) ≤ j - i := Nat.le_of_dvd (by omega) (Nat.gcd_dvd_left _ _)
    generalize Nat.gcd (j - i) (p - 1) = e at e2 hed hel
    obtain ⟨s, hs⟩ := hed
    have hs2 : 2 ≤ s := by
      rcases Nat.lt_or_ge s 2 with h9 | h9
      · rcases (show s = 0 ∨ s = 1 by omega) with rfl | rfl
        · rw [Nat.mul_zero] at hs; omega
        · rw [Nat.mul_one] at hs; omega
      · exact h9
    obtain ⟨q, hq1, hq2, u, hu⟩ := least_div s hs2
    have hqn : q ∣ p - 1 := ⟨e * u, by rw [hs, hu, Nat.mul_left_comm]⟩
    have hq := okR_iff.mp h2 q (facs_all (by omega) (by omega) hq1 hq2 hqn)
    apply hq
    have hdiv : (p - 1) / q = e * u := by
      rw [hs, hu, Nat.mul_left_comm]
      exact Nat.mul_div_cancel_left _ (by omega)
    rw [hdiv]
    refine (zp_eq1 (by omega)).mp ?_
    rw [zp_pow, rpow_mul, e2, Lean.Grind.Semiring.one_pow]
  apply Classical.byContradiction
  intro hn
  obtain ⟨r, hr1, hr2, hr3⟩ := not_prm (by omega) hn
  -- every number 1 .. p - 1 is a power
  have hv : ∀ i, i < p - 1 → (zp p g ^ i).val ≠ 0 := fun i hi h => by
    have h9 : zp p g ^ i = 0 := Fin.ext h
    have a1 : zp p g ^ (p - 1) = zp p g ^ i * zp p g ^ (p - 1 - i) := by rw [← Lean.Grind.Semiring.pow_add]; congr 1; omega
    rw [hg1, h9] at a1
    have h8 : zp p 1 = 0 := by
      show (1 : Fin p) = 0
      rw [a1]; grind
    have := Nat.le_of_dvd (by decide) (zp_eq0.mp h8)
    omega
  obtain ⟨i, hi, e⟩ := ph_onto (n := p - 1) (f := fun i => (zp p g ^ i).val - 1) (fun i hi => by
    have := (zp p g ^ i).isLt
    have := hv i hi
    show (zp p g ^ i).val - 1 < p - 1
    omega) (fun i j hij hj h => hdiff i j hij hj (Fin.ext (by
      have := hv i (by omega)
      have := hv j hj
      have h' : (zp p g ^ i).val - 1 = (zp p g ^ j).val - 1 := h
      omega))) (y := r - 1) (by omega)
  have hvi := hv i hi
  have e' : (zp p g ^ i).val - 1 = r - 1 := e
  have hri : zp p r = zp p g ^ i := by
    apply Fin.ext
    rw [zp_val, Nat.mod_eq_of_lt hr2]
    omega
  have a1 : zp p r * zp p (g ^ (p - 1 - i)) = 1 := by
    rw [hri, zp_pow, ← Lean.Grind.Semiring.pow_add, show i + (p - 1 - i) = p - 1 by omega, hg1]
  rw [← zp_mul, zp_eq1 (by omega)] at a1
  obtain ⟨t, ht⟩ := hr3
  have h9 := Nat.div_add_mod (r * g ^ (p - 1 - i)) p
  rw [a1] at h9
  have h10 : r ∣ 1 := by
    have d1 : r ∣ r * g ^ (p - 1 - i) := Nat.dvd_mul_right _ _
    rw [← h9] at d1
    exact (Nat.dvd_add_right (Nat.dvd_trans ⟨t, ht⟩ (Nat.dvd_mul_right p _))).mp d1
  have := Nat.le_of_dvd (by decide) h10
  omega
/-! ===== a prime has a root ===== -/
theorem root_step {p : Nat} [NeZero p] (hp : prm p) {A q k rem : Nat} (hA : 0 < A) (hq : 2 ≤ q) (hk : 1 ≤ k) (hN : p - 1 = A * (q ^ k * rem)) (hr : 0 < rem) (hc : Nat.gcd A q = 1) {S : List Nat} {h : Fin p} (h1 : h ^ A = 1) (hS : ∀ r ∈ S, r ∣ A ∧ 0 < r ∧ h ^ (A / r) ≠ 1) :
    ∃ h' : Fin p, h' ^ (A * q ^ k) = 1 ∧ ∀ r, (r ∈ S ∨ r = q) → r ∣ A * q ^ k ∧ 0 < r ∧ h' ^ (A * q ^ k / r) ≠ 1 := by
  have hqk : q ^ k = q * q ^ (k - 1) := by rw [← Nat.pow_succ', show (k - 1).succ = k by omega]
  have hq0 : 0 < q ^ (k - 1) := Nat.pow_pos (by omega)
  have hAr : 0 < A * (q ^ (k - 1) * rem) := Nat.mul_pos hA (Nat.mul_pos hq0 hr)
  have hNq : p - 1 = q * (A * (q ^ (k - 1) * rem)) := by
    rw [hN, hqk, Nat.mul_assoc, Nat.mul_left_comm A q]
  obtain ⟨x, hx0, hx⟩ := some_not1 hp hAr (by
    rw [hNq]
    have : 2 * (A * (q ^ (k - 1) * rem)) ≤ q * (A * (q ^ (k - 1) * rem)) := Nat.mul_le_mul_right _ hq
    omega)
  have hf := fermat hp hx0
  -- y: q to the k is its least power that is 1
  have hy1 : (x ^ (A * rem)) ^ (q ^ k) = 1 := by
    rw [← rpow_mul, show A * rem * q ^ k = p - 1 by rw [hN, Nat.mul_assoc, Nat.mul_comm rem]]
    exact hf
  have hy2 : (x ^ (A * rem)) ^ (q ^ (k - 1)) ≠ 1 := by
    rw [← rpow_mul, show A * rem * q ^ (k - 1) = A * (q ^ (k - 1) * rem) by rw [Nat.mul_assoc, Nat.mul_comm rem]]
    exact hx
  generalize x ^ (A * rem) = y at hy1 hy2
  refine ⟨h * y, ?_, ?_⟩
  · rw [Lean.Grind.CommSemiring.mul_pow, rpow_mul h, h1, Lean.Grind.Semiring.one_pow, Nat.mul_comm A, rpow_mul y, hy1, Lean.Grind.Semiring.one_pow]
    grind
  · rintro r (hrS | rfl)
    · obtain ⟨hrA, hr0, hrn⟩ := hS r hrS
      refine ⟨Nat.dvd_trans hrA (Nat.dvd_mul_right A _), hr0, ?_⟩
      obtain ⟨u, hu⟩ := hrA
      have hdiv : A * q ^ k / r = u * q ^ k := by
        rw [hu, Nat.mul_assoc]
        exact Nat.mul_div_cancel_left _ hr0
      have hAd : A / r = u := by rw [hu]; exact Nat.mul_div_cancel_left _ hr0
      rw [hAd] at hrn
      rw [hdiv]
      intro he
      rw [Lean.Grind.CommSemiring.mul_pow, Nat.mul_comm u, rpow_mul y, hy1, Lean.Grind.Semiring.one_pow, Nat.mul_comm, rpow_mul h] at he
      have he2 : (h ^ u) ^ (q ^ k) = 1 := by grind
      have he3 : (h ^ u) ^ r = 1 := by rw [← rpow_mul, Nat.mul_comm, ← hu]; exact h1
      refine hrn (pow_cop he3 he2 ?_)
      refine Nat.Coprime.pow_right k ?_
      exact Nat.Coprime.coprime_dvd_left ⟨u, hu⟩ hc
    · refine ⟨⟨A * r ^ (k - 1), by rw [hqk, Nat.mul_left_comm]⟩, by omega, ?_⟩
      have hdiv : A * r ^ k / r = A * r ^ (k - 1) := by
        rw [hqk, Nat.mul_left_comm]
        exact Nat.mul_div_cancel_left _ (by omega)
      rw [hdiv]
      intro he
      rw [Lean.Grind.CommSemiring.mul_pow, rpow_mul h, h1, Lean.Grind.Semiring.one_pow, Nat.mul_comm A, rpow_mul y] at he
      have he2 : (y ^ (r ^ (k - 1))) ^ A = 1 := by grind
      have he3 : (y ^ (r ^ (k - 1))) ^ r = 1 := by rw [← rpow_mul, Nat.mul_comm, ← hqk]; exact hy1
      exact hy2 (pow_cop he2 he3 hc)
theorem wof_k1 {d f n : Nat} (h0 : 0 < n) (hz : n % d = 0) (hw : ¬ d ∣ wof d f n) : ∃ k, 1 ≤ k ∧ n = d ^ k * wof d f n := by
  obtain ⟨k, hk⟩ := wof_eq (d := d) f n
  refine ⟨k, ?_, hk⟩
  rcases Nat.eq_zero_or_pos k with h | h
  · rw [h, Nat.pow_zero, Nat.one_mul] at hk
    rw [← hk] at hw
    exact absurd (Nat.dvd_of_mod_eq_zero hz) hw
  · exact h
theorem root_loop {p : Nat} [NeZero p] (hp : prm p) (hp2 : p < 2 ^ 31) (hp3 : 2 < p) : ∀ (f d rem A : Nat) (S : List Nat) (h : Fin p), d + f = 46343 → 2 ≤ d → 0 < rem → nsd d rem → p - 1 = A * rem → Nat.gcd A rem = 1 → h ^ A = 1 → (∀ r ∈ S, r ∣ A ∧ 0 < r ∧ h ^ (A / r) ≠ 1) →
    ∃ g : Fin p, g ^ (p - 1) = 1 ∧ ∀ r, (r ∈ S ∨ r ∈ ffl f d rem) → g ^ ((p - 1) / r) ≠ 1 := by
  intro f
  have hend : ∀ (rem A : Nat) (S : List Nat) (h : Fin p), 0 < rem → p - 1 = A * rem → Nat.gcd A rem = 1 → h ^ A = 1 → (∀ r ∈ S, r ∣ A ∧ 0 < r ∧ h ^ (A / r) ≠ 1) → ∃ g : Fin p, g ^ (p - 1) = 1 ∧ ∀ r, (r ∈ S ∨ r ∈ (if 1 < rem then [rem] else ([] : List Nat))) → g ^ ((p - 1) / r) ≠ 1 := by
    intro rem A S h h0 hN hc h1 hS
    have hA : 0 < A := by
      rcases Nat.eq_zero_or_pos A with e | e
      · rw [e, Nat.zero_mul] at hN; omega
      · exact e
    by_cases hr : 1 < rem
    · obtain ⟨h', hh1, hh⟩ := root_step hp (A := A) (q := rem) (k := 1) (rem := 1) hA hr (by decide) (by rw [Nat.pow_one, Nat.mul_one]; exact hN) (by decide) hc h1 hS
      rw [if_pos hr]
      refine ⟨h', by rw [Nat.pow_one, ← hN] at hh1; exact hh1, fun r hrr => ?_⟩
      have := (hh r (by rcases hrr with h9 | h9; exact Or.inl h9; exact Or.inr (List.mem_singleton.mp h9))).2.2
      rw [Nat.pow_one, ← hN] at this
      exact this
    · rw [if_neg hr]
      have hr1 : rem = 1 := by omega
      refine ⟨h, by rw [hN, hr1, Nat.mul_one]; exact h1, fun r hrr => ?_⟩
      rcases hrr with h9 | h9
      · have := (hS r h9).2.2
        rw [hN, hr1, Nat.mul_one]
        exact this
      · cases h9
  induction f with
  | zero => intro d rem A S h _ _ h0 _ hN hc h1 hS; exact hend rem A S h h0 hN hc h1 hS
  | succ f ih =>
    intro d rem A S h hd h2 h0 hn hN hc h1 hS
    unfold ffl
    by_cases hdd : d * d ≤ rem
    · rw [if_pos hdd]
      by_cases hz : rem % d = 0
      · rw [if_pos hz]
        have hA : 0 < A := by
          rcases Nat.eq_zero_or_pos A with e | e
          · rw [e, Nat.zero_mul] at hN; omega
          · exact e
        have hrl : rem < 2 ^ 31 := by
          have : 1 * rem ≤ A * rem := Nat.mul_le_mul_right rem hA
          omega
        have hdr := Nat.dvd_of_mod_eq_zero hz
        have hwd := wof_dvd d 31 rem
        have hwn : ¬ d ∣ wof d 31 rem := fun h => wof_not h2 31 rem h0 (Nat.lt_of_lt_of_le hrl (Nat.pow_le_pow_left h2 31)) (Nat.mod_eq_zero_of_dvd h)
        obtain ⟨k, hk1, hk⟩ := wof_k1 h0 hz hwn
        have hwp := wof_pos d 31 h0
        have hcd : Nat.gcd A d = 1 := Nat.Coprime.coprime_dvd_right hdr hc
        obtain ⟨h', hh1, hh⟩ := root_step hp (A := A) (q := d) (k := k) (rem := wof d 31 rem) hA h2 hk1 (by rw [← hk]; exact hN) hwp hcd h1 hS
        have hcw : Nat.gcd d (wof d 31 rem) = 1 := nsd_cop h2 hn hdr hwd hwn
        obtain ⟨g, hg0, hg⟩ := ih (d + 1) (wof d 31 rem) (A * d ^ k) (d :: S) h' (by omega) (by omega) hwp (nsd_succ (nsd_dvd hn hwd) hwn) (by rw [Nat.mul_assoc, ← hk]; exact hN) (Nat.Coprime.mul_left (Nat.Coprime.coprime_dvd_right hwd hc) (Nat.Coprime.pow_left k hcw)) hh1 (fun r hr => hh r (by rcases List.mem_cons.mp hr with h9 | h9; exact Or.inr h9; exact Or.inl h9))
        refine ⟨g, hg0, fun r hr => hg r ?_⟩
        rcases hr with h9 | h9
        · exact Or.inl (List.mem_cons_of_mem _ h9)
        · rcases List.mem_cons.mp h9 with h8 | h8
          · exact Or.inl (by rw [h8]; exact List.mem_cons_self)
          · exact Or.inr h8
      · rw [if_neg hz]
        exact ih (d + 1) rem A S h (by omega) (by omega) h0 (nsd_succ hn (fun h => hz (Nat.mod_eq_zero_of_dvd h))) hN hc h1 hS
    · rw [if_neg hdd]
      exact hend rem A S h h0 hN hc h1 hS
theorem root_ex {p : Nat} (hp : prm p) (hp2 : p < 2 ^ 31) (hp3 : 2 < p) : ∃ g, 0 < g ∧ g < p ∧ okR p (facs (p - 1)) g = true := by
  have hne : NeZero p := ⟨by omega⟩
  obtain ⟨g, hg0, hg⟩ := root_loop hp hp2 hp3 46341 2 (p - 1) 1 [] 1 rfl (by decide) (by omega) (fun c h1 h2 _ => by omega) (by rw [Nat.one_mul]) (Nat.gcd_one_left _) (Lean.Grind.Semiring.one_pow 1) (fun r h => by cases h)
  have hgp : 0 < g.val := by
    rcases Nat.eq_zero_or_pos g.val with e | e
    · exfalso
      have e1 : g = 0 := Fin.ext e
      have e2 : g ^ (p - 1) = g * g ^ (p - 2) := by rw [show p - 1 = (p - 2) + 1 by omega, Lean.Grind.Semiring.pow_succ]; grind
      rw [hg0, e1] at e2
      have e3 : zp p 1 = 0 := by
        show (1 : Fin p) = 0
        grind
      have := Nat.le_of_dvd (by decide) (zp_eq0.mp e3)
      omega
    · exact e
  refine ⟨g.val, hgp, g.isLt, okR_iff.mpr (fun q hq h => ?_)⟩
  refine hg q (Or.inr hq) ?_
  rw [← zp_of g, ← zp_pow]
  exact (zp_eq1 (by omega)).mpr h
/-! ===== both searches ===== -/
theorem lrf_some {p : Nat} {L : List Nat} : ∀ {f g0 g : Nat}, lrf p L f g0 = some g → g ^ (p - 1) % p = 1 ∧ okR p L g = true ∧ ∀ h, g0 ≤ h → h < g → okR p L h = false
  | 0, _, _, h => by cases h
  | f + 1, g0, g, h => by
    unfold lrf at h
    split at h
    · split at h
      · cases h
        exact ⟨by assumption, by assumption, fun h h1 h2 => by omega⟩
      · obtain ⟨h1, h2, h3⟩ := lrf_some (f := f) (g0 := g0 + 1) h
        refine ⟨h1, h2, fun x hx1 hx2 => ?_⟩
        by_cases e : x = g0
        · rw [e]
          rename_i hh
          cases hb : okR p L g0
          · rfl
          · exact absurd hb hh
        · exact h3 x (by omega) hx2
    · cases h
theorem lrf_find {p : Nat} {L : List Nat} : ∀ (f g0 : Nat), (∀ g, g0 ≤ g → g < g0 + f → g ^ (p - 1) % p = 1) → (∃ g, g0 ≤ g ∧ g < g0 + f ∧ okR p L g = true) → ∃ g, lrf p L f g0 = some g
  | 0, g0, _, ⟨g, h1, h2, _⟩ => by omega
  | f + 1, g0, hf, ⟨g, h1, h2, h3⟩ => by
    unfold lrf
    rw [if_pos (hf g0 (Nat.le_refl _) (by omega))]
    by_cases ho : okR p L g0 = true
    · rw [if_pos ho]; exact ⟨g0, rfl⟩
    · rw [if_neg ho]
      refine lrf_find f (g0 + 1) (fun x hx1 hx2 => hf x (by omega) (by omega)) ⟨g, ?_, by omega, h3⟩
      by_cases e : g = g0
      · rw [e] at h3; exact absurd h3 ho
      · omega
theorem okR_1 {p : Nat} (h3 : 2 < p) (hp2 : p < 2 ^ 31) (h2 : (p - 1) % 2 = 0) : okR p (facs (p - 1)) 1 = false := by
  cases h : okR p (facs (p - 1)) 1
  · rfl
  · exfalso
    have h1 := okR_iff.mp h 2 (facs_all (by omega) (by omega) (Nat.le_refl 2) (fun c h1 h2 _ => by omega) (Nat.dvd_of_mod_eq_zero h2))
    rw [Nat.one_pow, Nat.mod_eq_of_lt (by omega)] at h1
    exact h1 rfl
/-- of a prime as told: both find the same root -/
theorem root_prm {p : Nat} (hf : fok p) (hp : prm p) : ∃ g, lrf p (facs (p - 1)) (p - 2) 2 = some g ∧ lsR p g ∧ 2 ≤ g ∧ g < p := by
  have hp3 : 2 < p := by have := hf.1; have := hf.2.2; omega
  have hne : NeZero p := ⟨by omega⟩
  have h1no := okR_1 hp3 hf.2.1 (by have := hf.2.2; omega)
  obtain ⟨g, hg0, hg1, hg2⟩ := root_ex hp hf.2.1 hp3
  have hferm : ∀ x, 2 ≤ x → x < 2 + (p - 2) → x ^ (p - 1) % p = 1 := fun x hx1 hx2 => by
    refine (zp_eq1 (by omega)).mp ?_
    rw [zp_pow]
    refine fermat hp (fun h => ?_)
    have := Nat.le_of_dvd (by omega) (zp_eq0.mp h)
    omega
  have hg3 : 2 ≤ g := by
    rcases Nat.lt_or_ge g 2 with h | h
    · exfalso
      have e : g = 1 := by omega
      rw [e, h1no] at hg2
      cases hg2
    · exact h
  obtain ⟨g1, h1⟩ := lrf_find (p := p) (L := facs (p - 1)) (p - 2) 2 hferm ⟨g, hg3, by omega, hg2⟩
  obtain ⟨h2, h3, h4⟩ := lrf_some h1
  have h5 := lrf_lt h1
  refine ⟨g1, h1, ⟨by omega, h3, fun x hx1 hx2 => ?_⟩, by omega, by omega⟩
  by_cases e : x = 1
  · rw [e]; exact h1no
  · exact h4 x (by omega) hx2
/-- of a number that is none: nothing is found -/
theorem root_no {p : Nat} (hf : fok p) (hp : ¬ prm p) : lrf p (facs (p - 1)) (p - 2) 2 = none := by
  have hp3 : 2 < p := by have := hf.1; have := hf.2.2; omega
  cases h : lrf p (facs (p - 1)) (p - 2) 2 with
  | none => rfl
  | some g =>
    obtain ⟨h1, h2, -⟩ := lrf_some h
    exact absurd (lucas hp3 hf.2.1 h1 h2) hp
