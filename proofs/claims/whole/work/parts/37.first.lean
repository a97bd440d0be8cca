/-! ===== the first prime ===== -/
def pmf : Nat → Nat → Nat → Nat → Nat
  | 0, _, _, m => 1 % m
  | f + 1, x, e, m => if e = 0 then 1 % m else if e % 2 = 0 then pmf f (x * x % m) (e / 2) m else x * pmf f (x * x % m) (e / 2) m % m
theorem pmf_eq {m : Nat} : ∀ (f x e : Nat), e < 2 ^ f → pmf f x e m = x ^ e % m
  | 0, x, e, h => by
    have : e = 0 := by rw [Nat.pow_zero] at h; omega
    subst this
    rfl
  | f + 1, x, e, h => by
    have h2 : e / 2 < 2 ^ f := by rw [Nat.pow_succ] at h; omega
    rw [pmf]
    by_cases h0 : e = 0
    · rw [if_pos h0, h0, Nat.pow_zero]
    · rw [if_neg h0, pmf_eq f _ _ h2]
      by_cases h1 : e % 2 = 0
      · rw [if_pos h1, ← Nat.pow_mod, ← Nat.pow_two, ← Nat.pow_mul]
        congr 2
        omega
      · rw [if_neg h1, ← Nat.pow_mod, ← Nat.pow_two, ← Nat.pow_mul, Nat.mul_mod, Nat.mod_mod, ← Nat.mul_mod, ← Nat.pow_succ']
        congr 2
        omega
theorem p0_facs : facs (998244353 - 1) = [2, 7, 17] := by decide +kernel
theorem p0_pow {x e r : Nat} (he : e < 2 ^ 31) (h : pmf 31 x e 998244353 = r) : x ^ e % 998244353 = r := by rw [← h]; exact (pmf_eq 31 x e he).symm
theorem p0_ok3 : okR 998244353 (facs (998244353 - 1)) 3 = true := by
  rw [p0_facs, okR_iff]
  intro q hq
  have hq' : q = 2 ∨ q = 7 ∨ q = 17 := by simpa using hq
  rcases hq' with rfl | rfl | rfl
  · rw [p0_pow (by decide) rfl]; decide +kernel
  · rw [p0_pow (by decide) rfl]; decide +kernel
  · rw [p0_pow (by decide) rfl]; decide +kernel
theorem p0_ok2 : okR 998244353 (facs (998244353 - 1)) 2 = false := by
  cases h : okR 998244353 (facs (998244353 - 1)) 2
  · rfl
  · rw [p0_facs, okR_iff] at h
    exact absurd (p0_pow (by decide) (by decide +kernel)) (h 2 (by decide))
theorem p0_fok : fok 998244353 := ⟨by decide, by decide, by decide⟩
theorem p0_prm : prm 998244353 := lucas (by decide) (by decide) (p0_pow (by decide) (by decide +kernel)) p0_ok3
theorem p0_pgk : pgk 998244353 3 := ⟨p0_fok, p0_prm, ⟨by decide, p0_ok3, fun h h1 h2 => by
  rcases (show h = 1 ∨ h = 2 by omega) with rfl | rfl
  · exact okR_1 (by decide) (by decide) (by decide)
  · exact p0_ok2⟩, by decide⟩
/-- what both find of a number -/
theorem find_prm {n : Nat} (hf : fok n) (hp : prm n) : ∃ g, lrf n (facs (n - 1)) (n - 2) 2 = some g ∧ pgk n g := by
  obtain ⟨g, h1, h2, -, h3⟩ := root_prm hf hp
  exact ⟨g, h1, hf, hp, h2, h3⟩
theorem find_some {n g : Nat} (hf : fok n) (h : lrf n (facs (n - 1)) (n - 2) 2 = some g) : pgk n g := by
  by_cases hp : prm n
  · obtain ⟨g1, h1, h2⟩ := find_prm hf hp
    rw [h] at h1
    cases h1
    exact h2
  · rw [root_no hf hp] at h
    cases h
theorem find_none {n : Nat} (hf : fok n) (h : lrf n (facs (n - 1)) (n - 2) 2 = none) : ¬ prm n := fun hp => by
  obtain ⟨g1, h1, h2⟩ := find_prm hf hp
  rw [h] at h1
  cases h1
theorem all_root (n : Nat) (hf : fok n) (hp : prm n) : ∃ g1, lsR n g1 ∧ g1 < 2 ^ 31 := by
  obtain ⟨g, -, h⟩ := find_prm hf hp
  exact ⟨g, h.2.2.1, Nat.lt_trans h.2.2.2 hf.2.1⟩
