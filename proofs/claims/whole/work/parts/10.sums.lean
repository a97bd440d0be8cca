/-! ===== sums over a commutative ring ===== -/
theorem rpow_mul {R : Type} [Lean.Grind.CommRing R] (a : R) (m n : Nat) : a ^ (m * n) = (a ^ m) ^ n := by
  induction n with
  | zero => rw [Nat.mul_zero, Lean.Grind.Semiring.pow_zero, Lean.Grind.Semiring.pow_zero]
  | succ n ih => rw [Nat.mul_succ, Lean.Grind.Semiring.pow_add, ih, Lean.Grind.Semiring.pow_succ]
def sm {R : Type} [Lean.Grind.CommRing R] (f : Nat → R) : Nat → R
  | 0 => 0
  | n + 1 => sm f n + f n
theorem sm_congr {R : Type} [Lean.Grind.CommRing R] {f g : Nat → R} : ∀ {n : Nat}, (∀ i, i < n → f i = g i) → sm f n = sm g n
  | 0, _ => rfl
  | n + 1, h => by
    simp only [sm]
    rw [sm_congr (n := n) (fun i hi => h i (Nat.lt_succ_of_lt hi)), h n (Nat.lt_succ_self n)]
theorem sm_zero {R : Type} [Lean.Grind.CommRing R] : ∀ n : Nat, sm (fun _ => (0 : R)) n = 0
  | 0 => rfl
  | n + 1 => by
    simp only [sm]
    rw [sm_zero n]
    grind
theorem sm_add {R : Type} [Lean.Grind.CommRing R] (f g : Nat → R) : ∀ n : Nat, sm (fun i => f i + g i) n = sm f n + sm g n
  | 0 => by simp only [sm]; grind
  | n + 1 => by
    simp only [sm]
    rw [sm_add f g n]
    grind
theorem sm_mul {R : Type} [Lean.Grind.CommRing R] (c : R) (f : Nat → R) : ∀ n : Nat, sm (fun i => c * f i) n = c * sm f n
  | 0 => by simp only [sm]; grind
  | n + 1 => by
    simp only [sm]
    rw [sm_mul c f n]
    grind
theorem sm_mulr {R : Type} [Lean.Grind.CommRing R] (c : R) (f : Nat → R) (n : Nat) : sm (fun i => f i * c) n = sm f n * c := by
  rw [show (fun i => f i * c) = (fun i => c * f i) from funext fun i => by grind, sm_mul]
  grind
theorem sm_swap {R : Type} [Lean.Grind.CommRing R] (f : Nat → Nat → R) (m : Nat) : ∀ n : Nat, sm (fun i => sm (fun j => f i j) m) n = sm (fun j => sm (fun i => f i j) n) m
  | 0 => by simp only [sm]; rw [sm_zero]
  | n + 1 => by
    simp only [sm]
    rw [sm_swap f m n, ← sm_add]
theorem sm_two {R : Type} [Lean.Grind.CommRing R] (f : Nat → R) : ∀ n : Nat, sm f (2 * n) = sm (fun i => f (2 * i)) n + sm (fun i => f (2 * i + 1)) n
  | 0 => by simp only [Nat.mul_zero, sm]; grind
  | n + 1 => by
    rw [show 2 * (n + 1) = 2 * n + 1 + 1 by omega]
    simp only [sm]
    rw [sm_two f n]
    grind
theorem sm_app {R : Type} [Lean.Grind.CommRing R] (f : Nat → R) (m : Nat) : ∀ n : Nat, sm f (m + n) = sm f m + sm (fun i => f (m + i)) n
  | 0 => by simp only [Nat.add_zero, sm]; grind
  | n + 1 => by
    rw [show m + (n + 1) = m + n + 1 by omega]
    simp only [sm]
    rw [sm_app f m n]
    grind
theorem sm_at {R : Type} [Lean.Grind.CommRing R] {f : Nat → R} {k : Nat} : ∀ {n : Nat}, k < n → (∀ i, i < n → i ≠ k → f i = 0) → sm f n = f k
  | 0, h, _ => absurd h (Nat.not_lt_zero k)
  | n + 1, h, h0 => by
    simp only [sm]
    by_cases e : k = n
    · subst e
      rw [sm_congr (g := fun _ => (0 : R)) (fun i hi => h0 i (Nat.lt_succ_of_lt hi) (Nat.ne_of_lt hi)), sm_zero]
      grind
    · rw [sm_at (n := n) (by omega) (fun i hi hk => h0 i (Nat.lt_succ_of_lt hi) hk), h0 n (Nat.lt_succ_self n) (fun q => e q.symm)]
      grind
theorem sm_none {R : Type} [Lean.Grind.CommRing R] {f : Nat → R} {n : Nat} (h0 : ∀ i, i < n → f i = 0) : sm f n = 0 := by
  rw [sm_congr (g := fun _ => (0 : R)) h0, sm_zero]
/-! ===== what a row comes to at the powers of r ===== -/
def dft {R : Type} [Lean.Grind.CommRing R] (r : R) (m : Nat) (x : Nat → R) (j : Nat) : R := sm (fun i => x i * r ^ (i * j)) m
theorem dft_congr {R : Type} [Lean.Grind.CommRing R] {r : R} {m : Nat} {x y : Nat → R} {j : Nat} (h : ∀ i, i < m → x i = y i) : dft r m x j = dft r m y j := sm_congr fun i hi => by rw [h i hi]
theorem dft_lo {R : Type} [Lean.Grind.CommRing R] (r : R) (m : Nat) (x : Nat → R) (j : Nat) :
    dft r (2 * m) x j = dft (r * r) m (fun i => x (2 * i)) j + r ^ j * dft (r * r) m (fun i => x (2 * i + 1)) j := by
  unfold dft
  rw [sm_two, ← sm_mul]
  congr 1
  · apply sm_congr
    intro i _
    rw [show 2 * i * j = i * j + i * j by rw [Nat.mul_assoc, Nat.two_mul], Lean.Grind.Semiring.pow_add, Lean.Grind.CommSemiring.mul_pow]
  · apply sm_congr
    intro i _
    rw [show (2 * i + 1) * j = (i * j + i * j) + j by rw [Nat.add_mul, Nat.one_mul, Nat.mul_assoc, Nat.two_mul], Lean.Grind.Semiring.pow_add, Lean.Grind.Semiring.pow_add, Lean.Grind.CommSemiring.mul_pow]
    grind
theorem dft_hi {R : Type} [Lean.Grind.CommRing R] (r : R) (m : Nat) (hm : r ^ m = -1) (x : Nat → R) (j : Nat) :
    dft r (2 * m) x (j + m) = dft (r * r) m (fun i => x (2 * i)) j - r ^ j * dft (r * r) m (fun i => x (2 * i + 1)) j := by
  rw [dft_lo]
  have h1 : (r * r) ^ m = 1 := by rw [Lean.Grind.CommSemiring.mul_pow, hm]; grind
  have h2 : ∀ y : Nat → R, dft (r * r) m y (j + m) = dft (r * r) m y j := by
    intro y
    unfold dft
    apply sm_congr
    intro i _
    rw [Nat.mul_add, Lean.Grind.Semiring.pow_add, Nat.mul_comm i m, rpow_mul _ m i, h1, Lean.Grind.Semiring.one_pow]
    grind
  rw [h2, h2, Lean.Grind.Semiring.pow_add, hm]
  grind
