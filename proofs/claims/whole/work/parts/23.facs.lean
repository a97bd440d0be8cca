/-! ===== how many factors there are ===== -/
theorem wof_dvd (d : Nat) : ∀ f n, wof d f n ∣ n
  | 0, n => Nat.dvd_refl n
  | f + 1, n => by
    unfold wof
    split
    · exact Nat.dvd_trans (wof_dvd d f _) (Nat.div_dvd_of_dvd (Nat.dvd_of_mod_eq_zero (by assumption)))
    · exact Nat.dvd_refl n
theorem wof_pos (d : Nat) (f : Nat) {n : Nat} (hn : 0 < n) : 0 < wof d f n := Nat.pos_of_dvd_of_pos (wof_dvd d f n) hn
theorem wof_not {d : Nat} (hd : 2 ≤ d) : ∀ f n, 0 < n → n < d ^ f → wof d f n % d ≠ 0
  | 0, n, h0, h => by rw [Nat.pow_zero] at h; omega
  | f + 1, n, h0, h => by
    unfold wof
    by_cases hz : n % d = 0
    · rw [if_pos hz]
      have e := Nat.div_add_mod n d
      rw [hz, Nat.add_zero] at e
      refine wof_not hd f (n / d) ?_ ?_
      · rcases Nat.eq_zero_or_pos (n / d) with h1 | h1
        · rw [h1, Nat.mul_zero] at e; omega
        · exact h1
      · rw [Nat.pow_succ] at h
        rw [Nat.div_lt_iff_lt_mul (by omega)]
        exact h
    · rw [if_neg hz]
      exact hz
theorem wof_mul {d f n : Nat} (hz : n % d = 0) : wof d (f + 1) n * d ≤ n := by
  unfold wof
  rw [if_pos hz]
  exact Nat.le_trans (Nat.mul_le_mul_right d (wof_le d f _)) (Nat.div_mul_le_self n d)
/-- 3 times 5 times 7 .. -/
def odQ : Nat → Nat
  | 0 => 1
  | j + 1 => odQ j * (2 * j + 3)
theorem odQ_mono : ∀ i j, odQ i ≤ odQ (i + j)
  | _, 0 => Nat.le_refl _
  | i, j + 1 => by
    rw [← Nat.add_assoc, odQ]
    exact Nat.le_trans (odQ_mono i j) (Nat.le_mul_of_pos_right _ (by omega))
theorem odd_dvd {a b : Nat} (h : a ∣ b) (hb : b % 2 = 1) : a % 2 = 1 := by
  obtain ⟨c, rfl⟩ := h
  rcases (show a % 2 = 0 ∨ a % 2 = 1 by omega) with e | e
  · rw [Nat.mul_mod, e, Nat.zero_mul] at hb; exact absurd hb (by decide)
  · exact e
theorem ffl_len : ∀ (f d rem j : Nat), 2 * j + 2 ≤ d → rem % 2 = 1 → rem * odQ j ≤ 4194304 → j + (ffl f d rem).length ≤ 7 := by
  intro f
  have hend : ∀ (rem j : Nat), rem % 2 = 1 → rem * odQ j ≤ 4194304 → j + (if 1 < rem then [rem] else ([] : List Nat)).length ≤ 7 := by
    intro rem j hr h
    by_cases h1 : 1 < rem
    · rw [if_pos h1]
      show j + 1 ≤ 7
      rcases Nat.lt_or_ge j 7 with h2 | h2
      · omega
      · have h3 := odQ_mono 7 (j - 7)
        rw [show 7 + (j - 7) = j by omega, show odQ 7 = 2027025 from rfl] at h3
        have h4 : 3 * 2027025 ≤ rem * odQ j := Nat.mul_le_mul (by omega) h3
        omega
    · rw [if_neg h1]
      show j + 0 ≤ 7
      rcases Nat.lt_or_ge j 8 with h2 | h2
      · omega
      · have h3 := odQ_mono 8 (j - 8)
        rw [show 8 + (j - 8) = j by omega, show odQ 8 = 34459425 from rfl] at h3
        have h4 : 1 * 34459425 ≤ rem * odQ j := Nat.mul_le_mul (by omega) h3
        omega
  induction f with
  | zero => intro d rem j _ hr h; exact hend rem j hr h
  | succ f ih =>
    intro d rem j hd hr h
    unfold ffl
    by_cases hdd : d * d ≤ rem
    · rw [if_pos hdd]
      by_cases hz : rem % d = 0
      · rw [if_pos hz, List.length_cons]
        have hdo : d % 2 = 1 := odd_dvd (Nat.dvd_of_mod_eq_zero hz) hr
        have h1 := ih (d + 1) (wof d 31 rem) (j + 1) (by omega) (odd_dvd (wof_dvd d 31 rem) hr) (by
          rw [odQ]
          have h2 : wof d 31 rem * d ≤ rem := wof_mul (f := 30) hz
          have h3 : wof d 31 rem * (odQ j * (2 * j + 3)) ≤ wof d 31 rem * (odQ j * d) := Nat.mul_le_mul_left _ (Nat.mul_le_mul_left _ (by omega))
          have h4 : wof d 31 rem * (odQ j * d) = wof d 31 rem * d * odQ j := by rw [Nat.mul_comm (odQ j) d, Nat.mul_assoc]
          have h5 : wof d 31 rem * d * odQ j ≤ rem * odQ j := Nat.mul_le_mul_right _ h2
          omega)
        omega
      · rw [if_neg hz]
        exact ih (d + 1) rem j (by omega) hr h
    · rw [if_neg hdd]
      exact hend rem j hr h
theorem wof_two {f n : Nat} (h : n % 2 = 0) : wof 2 (f + 1) n = wof 2 f (n / 2) := by
  rw [wof, if_pos h]
theorem facs_len {n : Nat} (h0 : 0 < n) (hn : n < 2 ^ 31) (h : n % 512 = 0) : (facs n).length ≤ 9 := by
  obtain ⟨m, rfl⟩ : ∃ m, n = 512 * m := ⟨n / 512, by omega⟩
  have e : wof 2 31 (512 * m) = wof 2 22 m := by
    rw [wof_two (by omega), wof_two (by omega), wof_two (by omega), wof_two (by omega), wof_two (by omega), wof_two (by omega), wof_two (by omega), wof_two (by omega), wof_two (by omega)]
    congr 1
    omega
  unfold facs
  rw [show (46341 : Nat) = 46340 + 1 from rfl, ffl, if_pos (by omega), if_pos (by omega), List.length_cons, e]
  have h1 := ffl_len 46340 (2 + 1) (wof 2 22 m) 0 (by decide) (by
    have := wof_not (d := 2) (by decide) 22 m (by omega) (by omega)
    omega) (by
    have := wof_le 2 22 m
    show wof 2 22 m * 1 ≤ _
    omega)
  omega
theorem ffl_pos : ∀ (f d rem : Nat), 2 ≤ d → rem < 2 ^ 31 → ∀ q ∈ ffl f d rem, 2 ≤ q ∧ q < 2 ^ 31
  | 0, d, rem, hd, hr, q, hq => by
    unfold ffl at hq
    split at hq
    · rw [List.mem_singleton] at hq; omega
    · cases hq
  | f + 1, d, rem, hd, hr, q, hq => by
    unfold ffl at hq
    split at hq
    · rename_i hdd
      split at hq
      · rcases List.mem_cons.mp hq with rfl | hq
        · have : q * 2 ≤ q * q := Nat.mul_le_mul_left q hd
          omega
        · exact ffl_pos f (d + 1) _ (by omega) (Nat.lt_of_le_of_lt (wof_le d 31 rem) hr) q hq
      · exact ffl_pos f (d + 1) rem (by omega) hr q hq
    · split at hq
      · rw [List.mem_singleton] at hq; omega
      · cases hq
theorem facs_pos {n : Nat} (hn : n < 2 ^ 31) : ∀ q ∈ facs n, 0 < q ∧ q < 2 ^ 31 := fun q hq => by
  have := ffl_pos 46341 2 n (by decide) hn q hq
  omega
