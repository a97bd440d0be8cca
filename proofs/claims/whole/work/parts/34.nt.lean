/-! ===== numbers modulo p, as a ring ===== -/
def zp (p : Nat) [NeZero p] (x : Nat) : Fin p := Fin.ofNat p x
theorem zp_val (p : Nat) [NeZero p] (x : Nat) : (zp p x).val = x % p := rfl
theorem zp_eq {p : Nat} [NeZero p] {x y : Nat} : zp p x = zp p y ↔ x % p = y % p := by
  constructor
  · intro h
    have := congrArg Fin.val h
    rw [zp_val, zp_val] at this
    exact this
  · intro h
    apply Fin.ext
    rw [zp_val, zp_val, h]
theorem zp_mod {p : Nat} [NeZero p] (x : Nat) : zp p (x % p) = zp p x := zp_eq.mpr (Nat.mod_mod x p)
theorem zp_mul {p : Nat} [NeZero p] (x y : Nat) : zp p (x * y) = zp p x * zp p y := by
  apply Fin.ext
  rw [Fin.val_mul, zp_val, zp_val, zp_val, ← Nat.mul_mod]
theorem zp_add {p : Nat} [NeZero p] (x y : Nat) : zp p (x + y) = zp p x + zp p y := by
  apply Fin.ext
  rw [Fin.val_add, zp_val, zp_val, zp_val, ← Nat.add_mod]
theorem zp_0 {p : Nat} [NeZero p] : zp p 0 = 0 := rfl
theorem zp_1 {p : Nat} [NeZero p] : zp p 1 = 1 := rfl
theorem zp_pow {p : Nat} [NeZero p] (x : Nat) : ∀ n : Nat, zp p (x ^ n) = zp p x ^ n
  | 0 => by rw [Nat.pow_zero, Lean.Grind.Semiring.pow_zero]; rfl
  | n + 1 => by rw [Nat.pow_succ, zp_mul, zp_pow x n, Lean.Grind.Semiring.pow_succ]
theorem zp_inj {p : Nat} [NeZero p] {x y : Nat} (hx : x < p) (hy : y < p) (h : zp p x = zp p y) : x = y := by
  have := zp_eq.mp h
  rwa [Nat.mod_eq_of_lt hx, Nat.mod_eq_of_lt hy] at this
theorem zp_p {p : Nat} [NeZero p] : zp p p = 0 := by
  rw [← zp_0]
  exact zp_eq.mpr (by rw [Nat.mod_self, Nat.zero_mod])
theorem zp_sub {p : Nat} [NeZero p] {x y : Nat} (h : y ≤ x) : zp p (x - y) = zp p x - zp p y := by
  have : zp p (x - y) + zp p y = zp p x := by rw [← zp_add, Nat.sub_add_cancel h]
  grind
theorem zp_of {p : Nat} [NeZero p] (a : Fin p) : zp p a.val = a := by
  apply Fin.ext
  rw [zp_val, Nat.mod_eq_of_lt a.isLt]
theorem zp_eq0 {p : Nat} [NeZero p] {x : Nat} : zp p x = 0 ↔ p ∣ x := by
  rw [← zp_0, zp_eq, Nat.zero_mod]
  exact (Nat.dvd_iff_mod_eq_zero ..).symm
theorem zp_eq1 {p : Nat} [NeZero p] (hp : 1 < p) {x : Nat} : zp p x = 1 ↔ x % p = 1 := by
  rw [← zp_1, zp_eq, Nat.mod_eq_of_lt hp]
/-! ===== primes ===== -/
theorem prm_div {p d : Nat} (hp : prm p) (h : d ∣ p) : d = 1 ∨ d = p := by
  obtain ⟨e, he⟩ := h
  have h2 := hp.1
  rcases Nat.lt_or_ge d 2 with h1 | h1
  · rcases (show d = 0 ∨ d = 1 by omega) with rfl | rfl
    · rw [Nat.zero_mul] at he; omega
    · exact Or.inl rfl
  · rcases Nat.lt_or_ge e 2 with h3 | h3
    · rcases (show e = 0 ∨ e = 1 by omega) with rfl | rfl
      · rw [Nat.mul_zero] at he; omega
      · right; rw [he, Nat.mul_one]
    · exfalso
      rcases Nat.le_total d e with h4 | h4
      · exact hp.2 d h1 (by rw [he]; exact Nat.mul_le_mul_left d h4) (by rw [he]; exact Nat.mul_mod_right d e)
      · exact hp.2 e h3 (by rw [he]; exact Nat.mul_le_mul_right e h4) (by rw [he]; exact Nat.mul_mod_left d e)
theorem not_prm {p : Nat} (h2 : 2 ≤ p) (h : ¬ prm p) : ∃ r, 1 < r ∧ r < p ∧ r ∣ p := by
  apply Classical.byContradiction
  intro hn
  apply h
  refine ⟨h2, fun d hd hdd hz => hn ⟨d, by omega, ?_, Nat.dvd_of_mod_eq_zero hz⟩⟩
  have : d * 2 ≤ d * d := Nat.mul_le_mul_left d hd
  omega
theorem zp_dom {p : Nat} [NeZero p] (hp : prm p) {a b : Fin p} (h : a * b = 0) : a = 0 ∨ b = 0 := by
  rw [← zp_of a, ← zp_of b, ← zp_mul] at h
  have hd := zp_eq0.mp h
  rcases prm_div hp (Nat.gcd_dvd_left p a.val) with g1 | g1
  · right
    rw [← zp_of b]
    exact zp_eq0.mpr (Nat.Coprime.dvd_of_dvd_mul_left g1 hd)
  · left
    rw [← zp_of a]
    refine zp_eq0.mpr ?_
    have := Nat.gcd_dvd_right p a.val
    rwa [g1] at this
/-! ===== pigeons ===== -/
theorem ph : ∀ (n : Nat) (f : Nat → Nat), (∀ i, i < n + 1 → f i < n) → ∃ i j, i < j ∧ j < n + 1 ∧ f i = f j
  | 0, f, h => absurd (h 0 (by decide)) (Nat.not_lt_zero _)
  | n + 1, f, h => by
    by_cases he : ∃ i, i < n + 1 ∧ f i = f (n + 1)
    · obtain ⟨i, hi, e⟩ := he
      exact ⟨i, n + 1, hi, by omega, e⟩
    · have hz := h (n + 1) (by omega)
      obtain ⟨i, j, hij, hj, e⟩ := ph n (fun i => if f (n + 1) < f i then f i - 1 else f i) (fun i hi => by
        have h1 := h i (by omega)
        have h2 : f i ≠ f (n + 1) := fun q => he ⟨i, hi, q⟩
        show (if f (n + 1) < f i then f i - 1 else f i) < n
        split <;> omega)
      have h1 : f i ≠ f (n + 1) := fun q => he ⟨i, by omega, q⟩
      have h2 : f j ≠ f (n + 1) := fun q => he ⟨j, by omega, q⟩
      refine ⟨i, j, hij, by omega, ?_⟩
      have e' : (if f (n + 1) < f i then f i - 1 else f i) = (if f (n + 1) < f j then f j - 1 else f j) := e
      split at e' <;> split at e' <;> omega
/-- as many different values as places: every place is hit -/
theorem ph_onto {n : Nat} {f : Nat → Nat} (h : ∀ i, i < n → f i < n) (hi : ∀ i j, i < j → j < n → f i ≠ f j) {y : Nat} (hy : y < n) : ∃ i, i < n ∧ f i = y := by
  apply Classical.byContradiction
  intro hn
  obtain ⟨m, rfl⟩ : ∃ m, n = m + 1 := ⟨n - 1, by omega⟩
  obtain ⟨i, j, hij, hj, e⟩ := ph m (fun i => if y < f i then f i - 1 else f i) (fun i hi9 => by
    have h1 := h i hi9
    have h2 : f i ≠ y := fun q => hn ⟨i, hi9, q⟩
    show (if y < f i then f i - 1 else f i) < m
    split <;> omega)
  have h1 : f i ≠ y := fun q => hn ⟨i, by omega, q⟩
  have h2 : f j ≠ y := fun q => hn ⟨j, hj, q⟩
  have e' : (if y < f i then f i - 1 else f i) = (if y < f j then f j - 1 else f j) := e
  refine hi i j hij hj ?_
  split at e' <;> split at e' <;> omega
/-! ===== a number to the power p - 1 ===== -/
def lpr {R : Type} [Lean.Grind.CommRing R] : List R → R
  | [] => 1
  | a :: l => a * lpr l
theorem lpr_perm {R : Type} [Lean.Grind.CommRing R] {l1 l2 : List R} (h : l1.Perm l2) : lpr l1 = lpr l2 := by
  induction h with
  | nil => rfl
  | cons a _ ih => simp only [lpr]; rw [ih]
  | swap a b l => simp only [lpr]; grind
  | trans _ _ ih1 ih2 => exact ih1.trans ih2
theorem lpr_map {R : Type} [Lean.Grind.CommRing R] (a : R) : ∀ l : List R, lpr (l.map (fun x => a * x)) = a ^ l.length * lpr l
  | [] => by simp only [List.map_nil, lpr, List.length_nil, Lean.Grind.Semiring.pow_zero]; grind
  | b :: l => by
    simp only [List.map_cons, lpr, List.length_cons, Lean.Grind.Semiring.pow_succ]
    rw [lpr_map a l]
    grind
theorem lpr_ne {p : Nat} [NeZero p] (hp : prm p) : ∀ l : List (Fin p), (∀ x ∈ l, x ≠ 0) → lpr l ≠ 0
  | [], _ => fun h => by
    have h1 : zp p 1 = 0 := h
    have := hp.1
    have := Nat.le_of_dvd (by decide) (zp_eq0.mp h1)
    omega
  | a :: l, h => fun h0 => by
    rcases zp_dom hp (show a * lpr l = 0 from h0) with h1 | h1
    · exact h a List.mem_cons_self h1
    · exact lpr_ne hp l (fun x hx => h x (List.mem_cons_of_mem _ hx)) h1
def nzl (p : Nat) [NeZero p] : List (Fin p) := (List.range (p - 1)).map (fun i => zp p (i + 1))
theorem nzl_len (p : Nat) [NeZero p] : (nzl p).length = p - 1 := by unfold nzl; rw [List.length_map, List.length_range]
theorem nzl_mem {p : Nat} [NeZero p] (x : Fin p) : x ∈ nzl p ↔ x ≠ 0 := by
  unfold nzl
  rw [List.mem_map]
  constructor
  · rintro ⟨i, hi, rfl⟩ h
    rw [List.mem_range] at hi
    have := Nat.le_of_dvd (by omega) (zp_eq0.mp h)
    omega
  · intro h
    have h1 : x.val ≠ 0 := fun e => h (by rw [← zp_of x, e]; rfl)
    have h2 := x.isLt
    exact ⟨x.val - 1, List.mem_range.mpr (by omega), by rw [Nat.sub_add_cancel (by omega), zp_of]⟩
theorem nzl_nodup (p : Nat) [NeZero p] : (nzl p).Nodup := by
  unfold nzl
  rw [List.Nodup, List.pairwise_map]
  refine List.Pairwise.imp_of_mem ?_ List.nodup_range
  intro a b ha hb hab h
  rw [List.mem_range] at ha hb
  exact hab (by have := zp_inj (p := p) (by omega) (by omega) h; omega)
theorem fermat {p : Nat} [NeZero p] (hp : prm p) {a : Fin p} (ha : a ≠ 0) : a ^ (p - 1) = 1 := by
  have hperm : ((nzl p).map (fun x => a * x)).Perm (nzl p) := by
    refine (List.perm_ext_iff_of_nodup ?_ (nzl_nodup p)).mpr (fun x => ?_)
    · rw [List.Nodup, List.pairwise_map]
      refine List.Pairwise.imp ?_ (nzl_nodup p)
      intro x y hxy h
      have h2 : a * (x - y) = 0 := by grind
      rcases zp_dom hp h2 with h3 | h3
      · exact ha h3
      · exact hxy (by grind)
    · rw [List.mem_map, nzl_mem]
      constructor
      · rintro ⟨y, hy, rfl⟩ h
        rcases zp_dom hp h with h3 | h3
        · exact ha h3
        · exact (nzl_mem y).mp hy h3
      · intro hx
        -- x = a times something: by counting
        have hinj : ∀ i j, i < j → j < p → (a * zp p i).val ≠ (a * zp p j).val := fun i j hij hj h => by
          have h9 : a * (zp p i - zp p j) = 0 := by
            have := Fin.ext h
            grind
          rcases zp_dom hp h9 with h3 | h3
          · exact ha h3
          · have : zp p i = zp p j := by grind
            have := zp_inj (p := p) (by omega) hj this
            omega
        obtain ⟨i, hi, e⟩ := ph_onto (n := p) (f := fun i => (a * zp p i).val) (fun i _ => (a * zp p i).isLt) hinj x.isLt
        have e2 : a * zp p i = x := Fin.ext e
        refine ⟨zp p i, (nzl_mem _).mpr (fun h => hx ?_), e2⟩
        rw [← e2, h]
        grind
  have h1 := lpr_perm hperm
  rw [lpr_map, nzl_len] at h1
  have h2 := lpr_ne hp (nzl p) (fun x hx => (nzl_mem x).mp hx)
  have h3 : (a ^ (p - 1) - 1) * lpr (nzl p) = 0 := by grind
  rcases zp_dom hp h3 with h4 | h4
  · grind
  · exact absurd h4 h2
/-! ===== how many roots ===== -/
def mpo {R : Type} [Lean.Grind.CommRing R] : Nat → (R → R) → Prop
  | 0, f => ∀ x, f x = 1
  | m + 1, f => ∃ (q : R → R) (c : R), mpo m q ∧ ∀ x, f x = x * q x + c
theorem mpo_pow {R : Type} [Lean.Grind.CommRing R] : ∀ m : Nat, mpo (R := R) m (fun x => x ^ m)
  | 0 => fun x => Lean.Grind.Semiring.pow_zero x
  | m + 1 => ⟨fun x => x ^ m, 0, mpo_pow m, fun x => by
    show x ^ (m + 1) = x * x ^ m + 0
    rw [Lean.Grind.Semiring.pow_succ]; grind⟩
theorem mpo_sub {R : Type} [Lean.Grind.CommRing R] {m : Nat} : mpo (R := R) (m + 1) (fun x => x ^ (m + 1) - 1) :=
  ⟨fun x => x ^ m, -1, mpo_pow m, fun x => by
    show x ^ (m + 1) - 1 = x * x ^ m + -1
    rw [Lean.Grind.Semiring.pow_succ]; grind⟩
theorem mpo_div {R : Type} [Lean.Grind.CommRing R] : ∀ (m : Nat) (f : R → R) (a : R), mpo (m + 1) f → ∃ q, mpo m q ∧ ∀ x, f x - f a = (x - a) * q x
  | 0, f, a, ⟨q, c, hq, hf⟩ => ⟨q, hq, fun x => by rw [hf, hf, hq x, hq a]; grind⟩
  | m + 1, f, a, ⟨g, c, hg, hf⟩ => by
    obtain ⟨q', hq', h⟩ := mpo_div m g a hg
    refine ⟨fun x => x * q' x + g a, ⟨q', g a, hq', fun x => rfl⟩, fun x => ?_⟩
    have := h x
    rw [hf, hf]
    show x * g x + c - (a * g a + c) = (x - a) * (x * q' x + g a)
    grind
theorem mpo_roots {p : Nat} [NeZero p] (hp : prm p) : ∀ (m k : Nat) (f : Fin p → Fin p) (r : Nat → Fin p), mpo m f → (∀ i j, i < j → j < k → r i ≠ r j) → (∀ i, i < k → f (r i) = 0) → k ≤ m
  | 0, k, f, r, hf, _, h0 => by
    rcases Nat.eq_zero_or_pos k with h | h
    · omega
    · exfalso
      have h1 := h0 0 h
      rw [hf] at h1
      have h2 : zp p 1 = 0 := h1
      have := hp.1
      have := Nat.le_of_dvd (by decide) (zp_eq0.mp h2)
      omega
  | m + 1, k, f, r, hf, hr, h0 => by
    rcases Nat.eq_zero_or_pos k with h | h
    · omega
    · obtain ⟨q, hq, hd⟩ := mpo_div m f (r (k - 1)) hf
      have := mpo_roots hp m (k - 1) q r hq (fun i j hij hj => hr i j hij (by omega)) (fun i hi => by
        have h1 := hd (r i)
        rw [h0 i (by omega), h0 (k - 1) (by omega)] at h1
        have h2 : (r i - r (k - 1)) * q (r i) = 0 := by grind
        rcases zp_dom hp h2 with h3 | h3
        · exact absurd (by grind) (hr i (k - 1) (by omega) (by omega))
        · exact h3)
      omega
/-- some number isn't 1 to the power m, m below p - 1 -/
theorem some_not1 {p : Nat} [NeZero p] (hp : prm p) {m : Nat} (h0 : 0 < m) (hm : m < p - 1) : ∃ x : Fin p, x ≠ 0 ∧ x ^ m ≠ 1 := by
  apply Classical.byContradiction
  intro hn
  obtain ⟨m', rfl⟩ : ∃ m', m = m' + 1 := ⟨m - 1, by omega⟩
  have := mpo_roots hp (m' + 1) (p - 1) (fun x => x ^ (m' + 1) - 1) (fun i => zp p (i + 1)) mpo_sub (fun i j hij hj h => by
    have := zp_inj (p := p) (by omega) (by omega) h
    omega) (fun i hi => by
    have h1 : zp p (i + 1) ≠ 0 := fun h => by
      have := Nat.le_of_dvd (by omega) (zp_eq0.mp h)
      omega
    show zp p (i + 1) ^ (m' + 1) - 1 = 0
    have h2 : zp p (i + 1) ^ (m' + 1) = 1 := Classical.byContradiction fun h => hn ⟨_, h1, h⟩
    rw [h2]
    grind)
  omega
theorem pow_gcd {R : Type} [Lean.Grind.CommRing R] {z : R} : ∀ a b : Nat, z ^ a = 1 → z ^ b = 1 → z ^ (Nat.gcd a b) = 1 := by
  intro a b
  induction a, b using Nat.gcd.induction with
  | H0 b => intro _ h; rw [Nat.gcd_zero_left]; exact h
  | H1 a b ha ih =>
    intro h1 h2
    rw [Nat.gcd_rec]
    refine ih ?_ h1
    have e : z ^ b = z ^ (a * (b / a)) * z ^ (b % a) := by rw [← Lean.Grind.Semiring.pow_add, Nat.div_add_mod]
    rw [h2, rpow_mul, h1, Lean.Grind.Semiring.one_pow] at e
    grind
theorem pow_cop {R : Type} [Lean.Grind.CommRing R] {z : R} {a b : Nat} (h1 : z ^ a = 1) (h2 : z ^ b = 1) (hc : Nat.gcd a b = 1) : z = 1 := by
  have := pow_gcd a b h1 h2
  rwa [hc, Lean.Grind.Semiring.pow_one] at this
