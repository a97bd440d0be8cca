/-! ===== the turn, stage by stage ===== -/
/-- one stage: parts of m are joined to parts of 2 m; r is the root of the greater parts -/
def jn {R : Type} [Lean.Grind.CommRing R] (m : Nat) (r : R) (v : Nat → R) : Nat → R := fun i =>
  if i % (2 * m) < m then v i + r ^ (i % (2 * m)) * v (i + m) else v (i - m) - r ^ (i % (2 * m) - m) * v i
/-- behind stage s: block b of the row, of 2 to the s numbers, is what every 2 to the (K - s)-th number from rv b on comes to -/
def stg {R : Type} [Lean.Grind.CommRing R] (K s : Nat) (r : R) (x v : Nat → R) : Prop :=
  ∀ b j, b < 2 ^ (K - s) → j < 2 ^ s → v (b * 2 ^ s + j) = dft r (2 ^ s) (fun i => x (rv (K - s) b + 2 ^ (K - s) * i)) j
theorem stg_0 {R : Type} [Lean.Grind.CommRing R] (K : Nat) (r : R) (x v : Nat → R) (h : ∀ i, i < 2 ^ K → v i = x (rv K i)) : stg K 0 r x v := by
  intro b j hb hj
  have hj0 : j = 0 := by have : j < 1 := hj; omega
  subst hj0
  rw [Nat.sub_zero] at hb ⊢
  rw [Nat.pow_zero, Nat.mul_one, Nat.add_zero, h b hb]
  unfold dft
  simp only [sm, Nat.mul_zero, Lean.Grind.Semiring.pow_zero, Nat.add_zero]
  grind
theorem stg_1 {R : Type} [Lean.Grind.CommRing R] {K s : Nat} (hs : s < K) {r : R} {x v : Nat → R} (hr : r ^ (2 ^ s) = -1) (h : stg K s (r * r) x v) : stg K (s + 1) r x (jn (2 ^ s) r v) := by
  intro b j hb hj
  have eK : K - s = (K - (s + 1)) + 1 := by omega
  generalize hP : 2 ^ s = m at hr h ⊢
  have hm : 0 < m := by rw [← hP]; exact Nat.pow_pos (by decide)
  have hp1 : 2 ^ (s + 1) = 2 * m := by rw [Nat.pow_succ, hP, Nat.mul_comm]
  rw [hp1] at hj ⊢
  generalize hL : K - (s + 1) = L at hb eK ⊢
  unfold stg at h
  rw [hP, eK] at h
  have hb2 : 2 ^ (L + 1) = 2 * 2 ^ L := by rw [Nat.pow_succ, Nat.mul_comm]
  have e0 := fun j hj => h (2 * b) j (by omega) hj
  have e1 := fun j hj => h (2 * b + 1) j (by omega) hj
  have hmod : ∀ j, j < 2 * m → (b * (2 * m) + j) % (2 * m) = j := fun j hj => by
    rw [Nat.mul_comm b, Nat.mul_add_mod, Nat.mod_eq_of_lt hj]
  have hev : (fun i => x (rv (L + 1) (2 * b) + 2 ^ (L + 1) * i)) = (fun i => x (rv L b + 2 ^ L * (2 * i))) := by
    funext i
    rw [rv_even, hb2, Nat.mul_comm 2 (2 ^ L), Nat.mul_assoc]
  have hod : (fun i => x (rv (L + 1) (2 * b + 1) + 2 ^ (L + 1) * i)) = (fun i => x (rv L b + 2 ^ L * (2 * i + 1))) := by
    funext i
    rw [rv_odd, hb2, Nat.mul_comm 2 (2 ^ L), Nat.mul_assoc, Nat.mul_add, Nat.mul_one]
    congr 1
    omega
  rw [hev] at e0
  rw [hod] at e1
  have eA : b * (2 * m) = 2 * b * m := by rw [← Nat.mul_assoc, Nat.mul_comm b 2]
  have eB : b * (2 * m) + m = (2 * b + 1) * m := by rw [Nat.add_mul, Nat.one_mul, eA]
  by_cases hjm : j < m
  · unfold jn
    rw [hmod j hj, if_pos hjm, dft_lo]
    have i0 := e0 j hjm
    have i1 := e1 j hjm
    rw [← eA] at i0
    rw [← eB] at i1
    rw [i0, show b * (2 * m) + j + m = b * (2 * m) + m + j by omega, i1]
  · unfold jn
    rw [hmod j hj, if_neg hjm]
    obtain ⟨t, rfl⟩ : ∃ t, j = t + m := ⟨j - m, by omega⟩
    have ht : t < m := by omega
    have i0 := e0 t ht
    have i1 := e1 t ht
    rw [← eA] at i0
    rw [← eB] at i1
    rw [show b * (2 * m) + (t + m) - m = b * (2 * m) + t by omega, i0, show b * (2 * m) + (t + m) = b * (2 * m) + m + t by omega, i1, Nat.add_sub_cancel, dft_hi r m hr]
theorem stg_end {R : Type} [Lean.Grind.CommRing R] {K : Nat} {r : R} {x v : Nat → R} (h : stg K K r x v) {j : Nat} (hj : j < 2 ^ K) : v j = dft r (2 ^ K) x j := by
  have h0 := h 0 j (by rw [Nat.sub_self]; decide) hj
  rw [Nat.zero_mul, Nat.zero_add, Nat.sub_self] at h0
  rw [h0]
  apply dft_congr
  intro i _
  congr 1
  simp [rv]
/-! ===== and back ===== -/
theorem neg1_odd {R : Type} [Lean.Grind.CommRing R] : ∀ u : Nat, (-1 : R) ^ (2 * u + 1) = -1
  | 0 => by rw [Nat.mul_zero, Nat.zero_add, Lean.Grind.Semiring.pow_one]
  | u + 1 => by
    rw [show 2 * (u + 1) + 1 = (2 * u + 1) + 1 + 1 by omega, Lean.Grind.Semiring.pow_succ, Lean.Grind.Semiring.pow_succ, neg1_odd u]
    grind
theorem odd_part : ∀ t : Nat, 0 < t → ∃ a u, t = 2 ^ a * (2 * u + 1) := by
  intro t
  induction t using Nat.strongRecOn with
  | ind t ih =>
    intro h
    rcases (show t % 2 = 0 ∨ t % 2 = 1 by omega) with e | e
    · obtain ⟨a, u, h2⟩ := ih (t / 2) (by omega) (by omega)
      refine ⟨a + 1, u, ?_⟩
      rw [Nat.pow_succ, Nat.mul_comm (2 ^ a) 2, Nat.mul_assoc, ← h2]
      omega
    · exact ⟨0, t / 2, by rw [Nat.pow_zero, Nat.one_mul]; omega⟩
theorem geo_2 {R : Type} [Lean.Grind.CommRing R] (u : R) (m : Nat) : sm (fun j => u ^ j) (2 * m) = (1 + u ^ m) * sm (fun j => u ^ j) m := by
  rw [Nat.two_mul, sm_app]
  have : sm (fun i => u ^ (m + i)) m = u ^ m * sm (fun j => u ^ j) m := by
    rw [← sm_mul]
    apply sm_congr
    intro i _
    rw [Lean.Grind.Semiring.pow_add]
  rw [this]
  grind
theorem geo_0 {R : Type} [Lean.Grind.CommRing R] (u : R) : ∀ (k i : Nat), i < k → u ^ (2 ^ i) = -1 → sm (fun j => u ^ j) (2 ^ k) = 0
  | 0, i, h, _ => absurd h (Nat.not_lt_zero i)
  | k + 1, i, h, hi => by
    rw [Nat.pow_succ, Nat.mul_comm, geo_2]
    by_cases e : i = k
    · subst e
      rw [hi]
      grind
    · rw [geo_0 u k i (by omega) hi]
      grind
/-- the sum of the powers of a power of w: 0 but for the 0th -/
theorem geo_w {R : Type} [Lean.Grind.CommRing R] {w : R} {k t : Nat} (hw : w ^ (2 ^ k) = -1) (h0 : 0 < t) (ht : t < 2 ^ (k + 1)) : sm (fun j => (w ^ t) ^ j) (2 ^ (k + 1)) = 0 := by
  obtain ⟨a, u, e⟩ := odd_part t h0
  have ha : a ≤ k := by
    rcases Nat.lt_or_ge k a with h | h
    · have h1 : 2 ^ (k + 1) ≤ 2 ^ a := Nat.pow_le_pow_right (by decide) h
      have h2 : 2 ^ a ≤ t := by rw [e]; exact Nat.le_mul_of_pos_right _ (by omega)
      omega
    · exact h
  refine geo_0 _ (k + 1) (k - a) (by omega) ?_
  rw [← rpow_mul, e, Nat.mul_comm (2 ^ a), Nat.mul_assoc, ← Nat.pow_add, show a + (k - a) = k by omega, Nat.mul_comm, rpow_mul, hw, neg1_odd]
theorem neg_pow2 {R : Type} [Lean.Grind.CommRing R] {w : R} {m : Nat} (hw : w ^ m = -1) : w ^ (2 * m) = 1 := by
  rw [Nat.two_mul, Lean.Grind.Semiring.pow_add, hw]
  grind
/-- the product by turning: what the turned products come to at the inverse powers -/
theorem conv_dft {R : Type} [Lean.Grind.CommRing R] {w sh : R} {k : Nat} (hw : w ^ (2 ^ k) = -1) {n : Nat} (hn : n = 2 ^ (k + 1)) (hsh : sh * sm (fun _ => (1 : R)) n = 1) (a b : Nat → R) {m1 m2 : Nat} (h1 : m1 ≤ n) (h2 : m2 ≤ n)
    (ha : ∀ i, i < n → m1 ≤ i → a i = 0) (hb : ∀ i, i < n → m2 ≤ i → b i = 0) (hm : m1 + m2 ≤ n + 1) {q q' : Nat} (hq : q < n) (hq' : q + q' = n ∨ (q = 0 ∧ q' = 0)) :
    dft w n (fun j => dft w n a j * dft w n b j) q' * sh = sm (fun i => sm (fun l => if i + l = q then a i * b l else 0) m2) m1 := by
  have wn : w ^ n = 1 := by rw [hn, Nat.pow_succ, Nat.mul_comm]; exact neg_pow2 hw
  have ea : ∀ j, dft w n a j = sm (fun i => a i * w ^ (i * j)) m1 := by
    intro j
    unfold dft
    rw [show n = m1 + (n - m1) by omega, sm_app, sm_none (n := n - m1) (fun i hi => by rw [ha (m1 + i) (by omega) (by omega)]; grind)]
    grind
  have eb : ∀ j, dft w n b j = sm (fun i => b i * w ^ (i * j)) m2 := by
    intro j
    unfold dft
    rw [show n = m2 + (n - m2) by omega, sm_app, sm_none (n := n - m2) (fun i hi => by rw [hb (m2 + i) (by omega) (by omega)]; grind)]
    grind
  have e1 : dft w n (fun j => dft w n a j * dft w n b j) q' = sm (fun i => sm (fun l => a i * b l * sm (fun j => (w ^ (i + l + q')) ^ j) n) m2) m1 := by
    unfold dft
    have : ∀ j, j < n → (sm (fun i => a i * w ^ (i * j)) n * sm (fun i => b i * w ^ (i * j)) n) * w ^ (j * q') = sm (fun i => sm (fun l => a i * b l * (w ^ (i + l + q')) ^ j) m2) m1 := by
      intro j _
      have ea' := ea j
      have eb' := eb j
      unfold dft at ea' eb'
      rw [ea', eb', ← sm_mulr, ← sm_mulr]
      apply sm_congr
      intro i _
      rw [← sm_mul, ← sm_mulr]
      apply sm_congr
      intro l _
      rw [← rpow_mul, Nat.add_mul, Nat.add_mul, Lean.Grind.Semiring.pow_add, Lean.Grind.Semiring.pow_add, Nat.mul_comm q' j]
      grind
    rw [sm_congr this, sm_swap]
    apply sm_congr
    intro i _
    rw [sm_swap]
    apply sm_congr
    intro l _
    rw [sm_mul]
  rw [e1, ← sm_mulr]
  apply sm_congr
  intro i hi
  rw [← sm_mulr]
  apply sm_congr
  intro l hl
  by_cases e : i + l = q
  · rw [if_pos e]
    have e2 : sm (fun j => (w ^ (i + l + q')) ^ j) n = sm (fun _ => (1 : R)) n := by
      apply sm_congr
      intro j _
      have : w ^ (i + l + q') = 1 := by
        rcases hq' with h | h
        · rw [e, h, wn]
        · rw [e, h.1, h.2, Nat.add_zero, Lean.Grind.Semiring.pow_zero]
      rw [this, Lean.Grind.Semiring.one_pow]
    rw [e2, show a i * b l * sm (fun _ => (1 : R)) n * sh = a i * b l * (sh * sm (fun _ => (1 : R)) n) by grind, hsh]
    grind
  · rw [if_neg e]
    have hlt : i + l < n := by omega
    have e3 : sm (fun j => (w ^ (i + l + q')) ^ j) n = 0 := by
      rcases Nat.lt_or_ge (i + l + q') n with h | h
      · rw [hn]
        refine geo_w hw ?_ (by rw [← hn]; exact h)
        rcases hq' with h9 | h9
        · omega
        · omega
      · have h5 : w ^ (i + l + q') = w ^ (i + l + q' - n) := by
          rw [show i + l + q' = n + (i + l + q' - n) by omega, Lean.Grind.Semiring.pow_add, wn, Nat.add_sub_cancel_left]
          grind
        rw [h5, hn]
        refine geo_w hw ?_ (by rw [← hn]; omega)
        rw [← hn]
        omega
    rw [e3]
    grind
