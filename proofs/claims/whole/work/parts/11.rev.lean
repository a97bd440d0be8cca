/-! ===== numbers whose bits stand in opposite order ===== -/
def rv : Nat → Nat → Nat
  | 0, _ => 0
  | K + 1, b => rv K (b / 2) + 2 ^ K * (b % 2)
theorem rv_lt : ∀ (K b : Nat), rv K b < 2 ^ K
  | 0, _ => Nat.one_pos
  | K + 1, b => by
    have h := rv_lt K (b / 2)
    have h2 : b % 2 < 2 := Nat.mod_lt _ (by decide)
    rw [rv, Nat.pow_succ]
    rcases (show b % 2 = 0 ∨ b % 2 = 1 by omega) with e | e <;> rw [e] <;> omega
theorem rv_zero : ∀ K : Nat, rv K 0 = 0
  | 0 => rfl
  | K + 1 => by rw [rv]; simp [rv_zero K]
theorem rv_top : ∀ (K b c : Nat), b < 2 ^ K → rv (K + 1) (b + 2 ^ K * c) = 2 * rv K b + c % 2
  | 0, b, c, hb => by
    have : b = 0 := by have : b < 1 := hb; omega
    subst this
    simp [rv]
  | K + 1, b, c, hb => by
    rw [Nat.pow_succ] at hb
    have e1 : (b + 2 ^ (K + 1) * c) / 2 = b / 2 + 2 ^ K * c := by
      rw [Nat.pow_succ, show b + 2 ^ K * 2 * c = b + 2 * (2 ^ K * c) by rw [Nat.mul_comm (2 ^ K) 2, Nat.mul_assoc], Nat.add_mul_div_left _ _ (by decide)]
    have e2 : (b + 2 ^ (K + 1) * c) % 2 = b % 2 := by
      rw [Nat.pow_succ, show b + 2 ^ K * 2 * c = b + 2 * (2 ^ K * c) by rw [Nat.mul_comm (2 ^ K) 2, Nat.mul_assoc], Nat.add_mul_mod_self_left]
    have ih := rv_top K (b / 2) c (by omega)
    rw [rv, e1, e2, ih, rv]
    rw [Nat.pow_succ]
    generalize rv K (b / 2) = z
    generalize 2 ^ K = w
    rcases (show b % 2 = 0 ∨ b % 2 = 1 by omega) with e | e <;> rw [e] <;> omega
theorem rv_rv : ∀ (K b : Nat), b < 2 ^ K → rv K (rv K b) = b
  | 0, b, hb => by have : b < 1 := hb; simp [rv]; omega
  | K + 1, b, hb => by
    rw [Nat.pow_succ] at hb
    rw [show rv (K + 1) b = rv K (b / 2) + 2 ^ K * (b % 2) from rfl, rv_top K _ _ (rv_lt K _), rv_rv K (b / 2) (by omega)]
    omega
theorem rv_even (K b : Nat) : rv (K + 1) (2 * b) = rv K b := by
  rw [rv, show 2 * b / 2 = b by omega, show 2 * b % 2 = 0 by omega]; simp
theorem rv_odd (K b : Nat) : rv (K + 1) (2 * b + 1) = rv K b + 2 ^ K := by
  rw [rv, show (2 * b + 1) / 2 = b by omega, show (2 * b + 1) % 2 = 1 by omega]; simp
/-- one more, with the carry going downwards -/
def nm : Nat → Nat → Nat
  | 0, x => x
  | K + 1, x => if 2 ^ K ≤ x then nm K (x - 2 ^ K) else x + 2 ^ K
theorem nm_rv : ∀ (K b : Nat), b + 1 < 2 ^ K → nm K (rv K b) = rv K (b + 1)
  | 0, b, h => by have : b + 1 < 1 := h; omega
  | K + 1, b, h => by
    rw [Nat.pow_succ] at h
    rw [nm, show rv (K + 1) b = rv K (b / 2) + 2 ^ K * (b % 2) from rfl]
    have hl := rv_lt K (b / 2)
    rcases (show b % 2 = 0 ∨ b % 2 = 1 by omega) with e | e
    · rw [e, Nat.mul_zero, Nat.add_zero, if_neg (by omega)]
      rw [show b + 1 = 2 * (b / 2) + 1 by omega, rv_odd]
    · rw [e, Nat.mul_one, if_pos (by omega), Nat.add_sub_cancel]
      rw [show b + 1 = 2 * (b / 2 + 1) by omega, rv_even]
      exact nm_rv K (b / 2) (by omega)
/-- the row with its first k numbers and their mirrors in their places -/
def ob {α : Type} (K : Nat) (x : Nat → α) (k : Nat) : Nat → α := fun i => if i < 2 ^ K ∧ (i < k ∨ rv K i < k) then x (rv K i) else x i
theorem ob_end {α : Type} (K : Nat) (x : Nat → α) {i : Nat} (hi : i < 2 ^ K) : ob K x (2 ^ K) i = x (rv K i) := by
  unfold ob; rw [if_pos ⟨hi, Or.inl hi⟩]
theorem ob_one {α : Type} (K : Nat) (x : Nat → α) : ob K x 1 = x := by
  funext i
  unfold ob
  by_cases h : i < 2 ^ K ∧ (i < 1 ∨ rv K i < 1)
  · rw [if_pos h]
    have : i = 0 := by
      rcases h.2 with h1 | h1
      · omega
      · have h2 : rv K i = 0 := by omega
        have h3 := rv_rv K i h.1
        rw [h2, rv_zero] at h3
        exact h3.symm
    rw [this, rv_zero]
  · rw [if_neg h]
/-- a mirror that stands behind: the two change places -/
theorem ob_swap {α : Type} (K : Nat) (x : Nat → α) {k : Nat} (hk : k < 2 ^ K) (h : k < rv K k) (i : Nat) :
    (if i = k then ob K x k (rv K k) else if i = rv K k then ob K x k k else ob K x k i) = ob K x (k + 1) i := by
  have hr := rv_rv K k hk
  have hl := rv_lt K k
  by_cases h1 : i = k
  · subst h1
    rw [if_pos rfl]
    unfold ob
    rw [hr, if_neg (by omega), if_pos ⟨hk, Or.inl (Nat.lt_succ_self i)⟩]
  · rw [if_neg h1]
    by_cases h2 : i = rv K k
    · subst h2
      rw [if_pos rfl]
      unfold ob
      rw [hr, if_neg (by omega), if_pos ⟨hl, Or.inr (Nat.lt_succ_self k)⟩]
    · rw [if_neg h2]
      unfold ob
      by_cases h3 : i < 2 ^ K
      · have h4 : rv K i ≠ k := fun q => h2 (by rw [← q, rv_rv K i h3])
        by_cases h5 : i < k ∨ rv K i < k
        · rw [if_pos ⟨h3, h5⟩, if_pos ⟨h3, by omega⟩]
        · rw [if_neg (fun q => h5 q.2), if_neg (by omega)]
      · rw [if_neg (by omega), if_neg (by omega)]
/-- a mirror that stands before, or the number itself: nothing changes -/
theorem ob_keep {α : Type} (K : Nat) (x : Nat → α) {k : Nat} (hk : k < 2 ^ K) (h : rv K k ≤ k) : ob K x (k + 1) = ob K x k := by
  funext i
  have hr := rv_rv K k hk
  unfold ob
  by_cases h3 : i < 2 ^ K
  · by_cases h1 : i = k
    · subst h1
      by_cases h6 : rv K i < i
      · rw [if_pos ⟨h3, by omega⟩, if_pos ⟨h3, by omega⟩]
      · have : rv K i = i := by omega
        rw [if_pos ⟨h3, by omega⟩, this]
        split <;> rfl
    · by_cases h2 : rv K i = k
      · have h7 : i = rv K k := by rw [← h2, rv_rv K i h3]
        rw [if_pos ⟨h3, by omega⟩, if_pos ⟨h3, by omega⟩]
      · by_cases h5 : i < k ∨ rv K i < k
        · rw [if_pos ⟨h3, by omega⟩, if_pos ⟨h3, h5⟩]
        · rw [if_neg (by omega), if_neg (fun q => h5 q.2)]
  · rw [if_neg (by omega), if_neg (by omega)]
