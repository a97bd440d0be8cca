/-! ===== the root and its wheel ===== -/
theorem lsR_uniq {p g h : Nat} (h1 : lsR p g) (h2 : lsR p h) : g = h := by
  rcases Nat.lt_trichotomy g h with e | e | e
  · exact absurd h1.2.1 (by rw [h2.2.2 g h1.1 e]; decide)
  · exact e
  · exact absurd h2.2.1 (by rw [h1.2.2 h h2.1 e]; decide)
/-- a prime as the document has it, and its least root -/
def pgk (p g : Nat) : Prop := fok p ∧ prm p ∧ lsR p g ∧ g < p
/-- the wheel -/
def wl (p g : Nat) : Nat → Nat := fun k => (g ^ ((p - 1) / 512) % p) ^ k % p
theorem pgk_ne {p g : Nat} (h : pgk p g) : NeZero p := ⟨by have := h.1.1; omega⟩
theorem pgk_lt {p g : Nat} (h : pgk p g) : 512 < p := by
  have := h.1.1
  have := h.1.2.2
  have : (p - 1) ≠ 0 := by omega
  omega
theorem root_nz {p g : Nat} [NeZero p] (h : pgk p g) : zp p g ≠ 0 := fun e => by
  have h1 := h.2.2.1.1
  have h2 := h.2.2.2
  have := Nat.le_of_dvd (by omega) (zp_eq0.mp e)
  omega
theorem root_half {p g : Nat} [NeZero p] (h : pgk p g) : zp p g ^ ((p - 1) / 2) = -1 := by
  have hp := pgk_lt h
  have h5 := h.1.2.2
  have hp2 := h.1.2.1
  have h1 := fermat h.2.1 (root_nz h)
  have h2 := okR_iff.mp h.2.2.1.2.1 2 (facs_all (by omega) (by omega) (Nat.le_refl 2) (fun c h1 h2 _ => by omega) (Nat.dvd_of_mod_eq_zero (by omega)))
  have h3 : zp p g ^ ((p - 1) / 2) ≠ 1 := fun e => h2 ((zp_eq1 (by omega)).mp (by rw [zp_pow]; exact e))
  have h4 : zp p g ^ ((p - 1) / 2) * zp p g ^ ((p - 1) / 2) = 1 := by
    rw [← Lean.Grind.Semiring.pow_add, show (p - 1) / 2 + (p - 1) / 2 = p - 1 by omega]; exact h1
  generalize zp p g ^ ((p - 1) / 2) = y at h3 h4
  have h6 : (y - 1) * (y + 1) = 0 := by grind
  rcases zp_dom h.2.1 h6 with h7 | h7
  · exact absurd (by grind) h3
  · grind
theorem zp_wl {p g : Nat} [NeZero p] (k : Nat) : zp p (wl p g k) = (zp p g ^ ((p - 1) / 512)) ^ k := by
  unfold wl
  rw [zp_mod, zp_pow, zp_mod, zp_pow]
theorem wl_lt {p g : Nat} (hp : 0 < p) (k : Nat) : wl p g k < p := Nat.mod_lt _ hp
theorem om_256 {p g : Nat} [NeZero p] (h : pgk p g) : (zp p g ^ ((p - 1) / 512)) ^ 256 = -1 := by
  rw [← rpow_mul, show (p - 1) / 512 * 256 = (p - 1) / 2 by have := h.1.2.2; omega]
  exact root_half h
theorem pow_md {R : Type} [Lean.Grind.CommRing R] {b : R} {n : Nat} (h : b ^ n = 1) (e : Nat) : b ^ (e % n) = b ^ e := by
  have : b ^ e = b ^ (n * (e / n)) * b ^ (e % n) := by rw [← Lean.Grind.Semiring.pow_add, Nat.div_add_mod]
  rw [this, rpow_mul, h, Lean.Grind.Semiring.one_pow]
  grind
/-! ===== the class's turn, in the ring ===== -/
theorem zp_rdp {p : Nat} [NeZero p] (x : Nat) : zp p (rdp p x) = zp p x := by
  unfold rdp
  split
  · rw [zp_sub (by assumption), zp_p]; grind
  · rfl
theorem zp_sbp {p : Nat} [NeZero p] (a b : Nat) (hb : b ≤ p) : zp p (sbp p a b) = zp p a - zp p b := by
  unfold sbp
  split
  · exact zp_sub (by assumption)
  · rw [zp_sub (by omega), zp_add, zp_p]; grind
theorem zp_jv {p h t : Nat} [NeZero p] {wn v : Nat → Nat} {om : Fin p} (hw : ∀ k, zp p (wn k) = om ^ k) (i : Nat) : zp p (jv p h t wn v i) = jn h (om ^ t) (fun k => zp p (v k)) i := by
  have hp : 0 < p := Nat.pos_of_ne_zero (NeZero.ne p)
  unfold jv jn
  split
  · rw [zp_rdp, zp_add, zp_mod, zp_mul, hw, Nat.mul_comm _ t, rpow_mul]; grind
  · rw [zp_sbp _ _ (Nat.le_of_lt (Nat.mod_lt _ hp)), zp_mod, zp_mul, hw, Nat.mul_comm _ t, rpow_mul]; grind
theorem stg_congr {R : Type} [Lean.Grind.CommRing R] {K s : Nat} (hs : s ≤ K) {r : R} {x v w : Nat → R} (h : ∀ i, i < 2 ^ K → v i = w i) (hv : stg K s r x v) : stg K s r x w := fun b j hb hj => by
  rw [← h (b * 2 ^ s + j) ?_]
  · exact hv b j hb hj
  · have h1 : (b + 1) * 2 ^ s ≤ 2 ^ (K - s) * 2 ^ s := Nat.mul_le_mul_right _ hb
    rw [← Nat.pow_add, Nat.sub_add_cancel hs, Nat.succ_mul] at h1
    omega
theorem ptab : ∀ s, s < 9 → 2 * (512 / 2 ^ (s + 1)) = 512 / 2 ^ s ∧ 256 / 2 ^ s = 512 / 2 ^ (s + 1) ∧ 256 / 2 ^ s * 2 ^ s = 256 := by decide
theorem tf_stg {p K : Nat} [NeZero p] (hK : K ≤ 9) {wn v : Nat → Nat} {om : Fin p} (hw : ∀ k, zp p (wn k) = om ^ k) (hom : om ^ 256 = -1) : ∀ s, s ≤ K → stg K s (om ^ (512 / 2 ^ s)) (fun k => zp p (v k)) (fun k => zp p (tf p wn K v s k))
  | 0, _ => stg_0 K _ _ _ (fun i hi => by
    show zp p (ob K v (2 ^ K) i) = zp p (v (rv K i))
    rw [ob_end K v hi])
  | s + 1, h => by
    obtain ⟨h1, h2, h3⟩ := ptab s (by omega)
    have ih := tf_stg hK hw hom (v := v) s (by omega)
    have a1 : om ^ (512 / 2 ^ (s + 1)) * om ^ (512 / 2 ^ (s + 1)) = om ^ (512 / 2 ^ s) := by
      rw [← Lean.Grind.Semiring.pow_add, ← h1, Nat.two_mul]
    have a2 : (om ^ (512 / 2 ^ (s + 1))) ^ (2 ^ s) = -1 := by rw [← rpow_mul, ← h2, h3]; exact hom
    rw [← a1] at ih
    refine stg_congr h (fun i hi => ?_) (stg_1 (by omega) a2 ih)
    show jn (2 ^ s) (om ^ (512 / 2 ^ (s + 1))) _ i = zp p (jw p (2 ^ s) (256 / 2 ^ s) wn (tf p wn K v s) (2 ^ K) 0 i)
    have e : jw p (2 ^ s) (256 / 2 ^ s) wn (tf p wn K v s) (2 ^ K) 0 i = jv p (2 ^ s) (256 / 2 ^ s) wn (tf p wn K v s) i := by
      unfold jw
      rw [if_pos (jd_iff.mpr (Or.inl hi))]
    rw [e, zp_jv hw, ← h2]
theorem tf_far {p K : Nat} {wn v : Nat → Nat} : ∀ s, ∀ k, 2 ^ K ≤ k → tf p wn K v s k = v k
  | 0, k, h => by
    show ob K v (2 ^ K) k = v k
    unfold ob
    rw [if_neg (by omega)]
  | s + 1, k, h => by
    show jw p (2 ^ s) (256 / 2 ^ s) wn (tf p wn K v s) (2 ^ K) 0 k = v k
    rw [jw_not (by omega)]
    exact tf_far s k h
/-- K of the turn: its root -/
theorem om_K {p g K : Nat} [NeZero p] (h : pgk p g) (hK : K ≤ 9) : (zp p g ^ ((p - 1) / 512)) ^ (512 / 2 ^ K) = zp p g ^ ((p - 1) / 2 ^ K) := by
  rw [← rpow_mul]
  congr 1
  have h1 : 512 / 2 ^ K * 2 ^ K = 512 := (show ∀ K, K < 10 → 512 / 2 ^ K * 2 ^ K = 512 by decide) K (by omega)
  have h2 : p - 1 = (p - 1) / 512 * (512 / 2 ^ K) * 2 ^ K := by
    rw [Nat.mul_assoc, h1]
    have := h.1.2.2
    omega
  have h3 : (p - 1) / 2 ^ K = (p - 1) / 512 * (512 / 2 ^ K) * 2 ^ K / 2 ^ K := by rw [← h2]
  rw [h3, Nat.mul_div_cancel _ (Nat.two_pow_pos K)]
theorem tf_dft {p g K : Nat} [NeZero p] (h : pgk p g) (hK : K ≤ 9) (v : Nat → Nat) {j : Nat} (hj : j < 2 ^ K) : zp p (tf p (wl p g) K v K j) = dft (zp p g ^ ((p - 1) / 2 ^ K)) (2 ^ K) (fun k => zp p (v k)) j := by
  have := stg_end (tf_stg hK (zp_wl (p := p) (g := g)) (om_256 h) (v := v) K (Nat.le_refl K)) hj
  rw [om_K h hK] at this
  exact this
theorem w_n {p g K : Nat} [NeZero p] (h : pgk p g) (hK : K ≤ 9) : (zp p g ^ ((p - 1) / 2 ^ K)) ^ (2 ^ K) = 1 := by
  rw [← om_K h hK, ← rpow_mul, (show ∀ K, K < 10 → 512 / 2 ^ K * 2 ^ K = 256 * 2 by decide) K (by omega), rpow_mul, om_256 h, Lean.Grind.Semiring.pow_two]
  grind
theorem w_half {p g K : Nat} [NeZero p] (h : pgk p g) (hK : K + 1 ≤ 9) : (zp p g ^ ((p - 1) / 2 ^ (K + 1))) ^ (2 ^ K) = -1 := by
  rw [← om_K h hK, ← rpow_mul, (show ∀ K, K < 9 → 512 / 2 ^ (K + 1) * 2 ^ K = 256 by decide) K (by omega)]
  exact om_256 h
/-! ===== the reference's turn, in the ring ===== -/
theorem zp_dsm {p n b j : Nat} [NeZero p] {v : Nat → Nat} (hb : zp p b ^ n = 1) : ∀ m, zp p (dsm p n b j v m) = sm (fun i => zp p (v i) * zp p b ^ (i * j)) m
  | 0 => zp_0
  | m + 1 => by
    rw [dsm, sm, zp_mod, zp_add, zp_mul, zp_mod, zp_pow, pow_md hb, zp_dsm hb m]
theorem zp_mtr {p n b sh : Nat} [NeZero p] {v : Nat → Nat} (hb : zp p b ^ n = 1) (j : Nat) : zp p (mtr p n b sh v j) = dft (zp p b) n (fun k => zp p (v k)) j * zp p sh := by
  unfold mtr dft
  rw [zp_mod, zp_mul, zp_dsm hb]
theorem mtr_lt {p n b sh : Nat} (hp : 0 < p) {v : Nat → Nat} (j : Nat) : mtr p n b sh v j < p := Nat.mod_lt _ hp
theorem dsm_congr {p n b j : Nat} {v w : Nat → Nat} : ∀ m, (∀ k, k < m → v k = w k) → dsm p n b j v m = dsm p n b j w m
  | 0, _ => rfl
  | m + 1, h => by rw [dsm, dsm, dsm_congr m (fun k hk => h k (by omega)), h m (by omega)]
theorem mtr_congr {p n b sh : Nat} {v w : Nat → Nat} (h : ∀ k, k < n → v k = w k) : mtr p n b sh v = mtr p n b sh w := by
  funext j
  unfold mtr
  rw [dsm_congr n h]
/-- forward -/
theorem turn_fwd {p g K : Nat} (h : pgk p g) (hK : K ≤ 9) {v : Nat → Nat} (hv : ∀ k, k < 2 ^ K → v k < p) {k : Nat} (hk : k < 2 ^ K) : tf p (wl p g) K v K k = mtr p (2 ^ K) (g ^ ((p - 1) / 2 ^ K) % p) 1 v k := by
  have hne := pgk_ne h
  have hp := pgk_lt h
  refine zp_inj (p := p) (tf_lt (by omega) hv K k hk) (mtr_lt (by omega) k) ?_
  have hb : zp p (g ^ ((p - 1) / 2 ^ K) % p) = zp p g ^ ((p - 1) / 2 ^ K) := by rw [zp_mod, zp_pow]
  rw [tf_dft h hK v hk, zp_mtr (by rw [hb]; exact w_n h hK), hb, zp_1]
  grind
theorem inv_pow {p g K : Nat} [NeZero p] (h : pgk p g) (hK : K ≤ 9) : (zp p g ^ ((p - 1) / 2 ^ K)) * (zp p g ^ ((p - 1) / 2 ^ K)) ^ (p - 2) = 1 := by
  have hp := pgk_lt h
  have e : (zp p g ^ ((p - 1) / 2 ^ K)) ^ (p - 1) = (zp p g ^ ((p - 1) / 2 ^ K)) ^ (p - 2) * (zp p g ^ ((p - 1) / 2 ^ K)) := by
    rw [← Lean.Grind.Semiring.pow_succ, show p - 2 + 1 = p - 1 by omega]
  rw [← rpow_mul, Nat.mul_comm, rpow_mul, fermat h.2.1 (root_nz h), Lean.Grind.Semiring.one_pow] at e
  rw [e]
  grind
/-- at the inverse powers: the same numbers, in opposite order -/
theorem dft_inv {R : Type} [Lean.Grind.CommRing R] {w b : R} {n : Nat} (hw : w ^ n = 1) (hb : w * b = 1) (x : Nat → R) {k k' : Nat} (hk : k + k' = n ∨ (k = 0 ∧ k' = 0)) : dft w n x k' = dft b n x k := by
  unfold dft
  refine sm_congr fun i _ => ?_
  congr 1
  have h1 : w ^ (i * k) * b ^ (i * k) = 1 := by rw [← Lean.Grind.CommSemiring.mul_pow, hb, Lean.Grind.Semiring.one_pow]
  have h2 : w ^ (i * k) * w ^ (i * k') = 1 := by
    rw [← Lean.Grind.Semiring.pow_add, ← Nat.mul_add]
    rcases hk with hk | ⟨h3, h4⟩
    · rw [hk, Nat.mul_comm, rpow_mul, hw, Lean.Grind.Semiring.one_pow]
    · rw [h3, h4, Nat.mul_zero, Lean.Grind.Semiring.pow_zero]
  grind
theorem tb_at {p K : Nat} {wn v : Nat → Nat} {k : Nat} (hk : k < 2 ^ K) : ∃ k', (k + k' = 2 ^ K ∨ (k = 0 ∧ k' = 0)) ∧ k' < 2 ^ K ∧ tb p wn K v k = tf p wn K v K k' * ((2 ^ K) ^ (p - 2) % p) % p := by
  unfold tb rvs scl
  by_cases h : 1 ≤ k
  · refine ⟨2 ^ K - k, Or.inl (by omega), by omega, ?_⟩
    rw [if_pos ⟨h, hk⟩, if_pos (by omega)]
  · refine ⟨0, Or.inr ⟨by omega, rfl⟩, by omega, ?_⟩
    have : k = 0 := by omega
    subst this
    rw [if_neg (by omega), if_pos hk]
theorem tb_far {p K : Nat} {wn v : Nat → Nat} {k : Nat} (hk : 2 ^ K ≤ k) : tb p wn K v k = v k := by
  unfold tb rvs scl
  rw [if_neg (by omega), if_neg (by omega)]
  exact tf_far K k hk
/-- and back -/
theorem turn_back {p g K : Nat} (h : pgk p g) (hK : K ≤ 9) {v : Nat → Nat} {k : Nat} (hk : k < 2 ^ K) : tb p (wl p g) K v k = mtr p (2 ^ K) ((g ^ ((p - 1) / 2 ^ K) % p) ^ (p - 2) % p) ((2 ^ K) ^ (p - 2) % p) v k := by
  have hne := pgk_ne h
  have hp := pgk_lt h
  obtain ⟨k', h1, h2, h3⟩ := tb_at (p := p) (wn := wl p g) (v := v) hk
  rw [h3]
  refine zp_inj (p := p) (Nat.mod_lt _ (by omega)) (mtr_lt (by omega) k) ?_
  have hb : zp p ((g ^ ((p - 1) / 2 ^ K) % p) ^ (p - 2) % p) = (zp p g ^ ((p - 1) / 2 ^ K)) ^ (p - 2) := by rw [zp_mod, zp_pow, zp_mod, zp_pow]
  have hi := inv_pow h hK
  have hbn : zp p ((g ^ ((p - 1) / 2 ^ K) % p) ^ (p - 2) % p) ^ (2 ^ K) = 1 := by
    rw [hb, ← rpow_mul, Nat.mul_comm, rpow_mul, w_n h hK, Lean.Grind.Semiring.one_pow]
  rw [zp_mod, zp_mul, tf_dft h hK v h2, zp_mtr hbn, hb, dft_inv (w_n h hK) hi _ h1]
/-! ===== the product ===== -/
theorem zp_cvj {p i q : Nat} [NeZero p] {a b w : Nat → Nat} : ∀ j, zp p (cvj p a b i w j q) = zp p (w q) + sm (fun l => if i + l = q then zp p (a i) * zp p (b l) else 0) j
  | 0 => by rw [cvj, sm]; grind
  | j + 1 => by
    rw [cvj, sm]
    by_cases e : q = i + j
    · rw [e, nu_s, zp_mod, zp_add, zp_mul, if_pos rfl, ← e, zp_cvj j]
      grind
    · rw [nu_n _ _ e, if_neg (fun h => e h.symm), zp_cvj j]
      grind
theorem zp_cvo {p n q : Nat} [NeZero p] {a b : Nat → Nat} : ∀ m, zp p (cvo p a b n m q) = sm (fun i => sm (fun l => if i + l = q then zp p (a i) * zp p (b l) else 0) n) m
  | 0 => zp_0
  | m + 1 => by
    rw [cvo, sm, zp_cvj, zp_cvo m]
theorem sm_1 {p : Nat} [NeZero p] : ∀ n, sm (fun _ => (1 : Fin p)) n = zp p n
  | 0 => rfl
  | n + 1 => by rw [sm, sm_1 n, zp_add, zp_1]
theorem dft_1 {R : Type} [Lean.Grind.CommRing R] (w : R) (x : Nat → R) : dft w 1 x 0 = x 0 := by
  unfold dft
  rw [sm, sm, Nat.mul_zero, Lean.Grind.Semiring.pow_zero]
  grind
theorem prod_in {p g K : Nat} (h : pgk p g) (hK : K ≤ 9) {a b : Nat → Nat} {la lb : Nat} (ha : ∀ i, i < 2 ^ K → la ≤ i → a i = 0) (hb : ∀ i, i < 2 ^ K → lb ≤ i → b i = 0) (h1 : 1 ≤ la) (h2 : 1 ≤ lb) (hm : la + lb - 1 ≤ 2 ^ K) {q : Nat} (hq : q < 2 ^ K) :
    mr p (wl p g) K a b q = cvo p a b lb la q := by
  have hne := pgk_ne h
  have hp := pgk_lt h
  unfold mr
  rw [if_pos hq]
  obtain ⟨k', e1, e2, e3⟩ := tb_at (p := p) (wn := wl p g) (v := fun j => tf p (wl p g) K a K j * tf p (wl p g) K b K j % p) hq
  rw [e3]
  refine zp_inj (p := p) (Nat.mod_lt _ (by omega)) (cvo_lt (by omega) la q) ?_
  rw [zp_mod, zp_mul, tf_dft h hK _ e2, zp_cvo, zp_mod, zp_pow]
  have hx : dft (zp p g ^ ((p - 1) / 2 ^ K)) (2 ^ K) (fun k => zp p (tf p (wl p g) K a K k * tf p (wl p g) K b K k % p)) k' = dft (zp p g ^ ((p - 1) / 2 ^ K)) (2 ^ K) (fun j => dft (zp p g ^ ((p - 1) / 2 ^ K)) (2 ^ K) (fun k => zp p (a k)) j * dft (zp p g ^ ((p - 1) / 2 ^ K)) (2 ^ K) (fun k => zp p (b k)) j) k' :=
    dft_congr fun i hi => by rw [zp_mod, zp_mul, tf_dft h hK a hi, tf_dft h hK b hi]
  rw [hx]
  have hn512 : 2 ^ K ≤ 512 := (show ∀ K, K < 10 → 2 ^ K ≤ 512 by decide) K (by omega)
  have hnz : zp p (2 ^ K) ≠ 0 := fun e => by
    have := Nat.le_of_dvd (Nat.two_pow_pos K) (zp_eq0.mp e)
    omega
  have hsh : zp p (2 ^ K) ^ (p - 2) * sm (fun _ => (1 : Fin p)) (2 ^ K) = 1 := by
    rw [sm_1, ← Lean.Grind.Semiring.pow_succ, show p - 2 + 1 = p - 1 by omega]
    exact fermat h.2.1 hnz
  rcases Nat.eq_zero_or_pos K with hK0 | hK0
  · subst hK0
    rw [Nat.pow_zero] at hq e2 hm hsh ⊢
    have eq0 : q = 0 := by omega
    have ek0 : k' = 0 := by omega
    have ela : la = 1 := by omega
    have elb : lb = 1 := by omega
    subst eq0 ek0 ela elb
    rw [dft_1, dft_1, dft_1]
    rw [sm, sm] at hsh
    have hs1 : zp p 1 ^ (p - 2) = 1 := by rw [zp_1, Lean.Grind.Semiring.one_pow]
    rw [hs1, sm, sm, sm, sm, if_pos rfl]
    grind
  · obtain ⟨k, rfl⟩ : ∃ k, K = k + 1 := ⟨K - 1, by omega⟩
    exact conv_dft (w_half h hK) rfl hsh (fun k => zp p (a k)) (fun k => zp p (b k)) (by omega) (by omega) (fun i hi h9 => by
      show zp p (a i) = 0
      rw [ha i hi h9, zp_0]) (fun i hi h9 => by
      show zp p (b i) = 0
      rw [hb i hi h9, zp_0]) (by omega) hq e1
theorem cvo_far {p : Nat} (hp : 0 < p) {a b : Nat → Nat} {la lb q : Nat} (h : la + lb ≤ q + 1) : cvo p a b lb la q = 0 := by
  have hne : NeZero p := ⟨by omega⟩
  refine zp_inj (p := p) (cvo_lt hp la q) hp ?_
  rw [zp_cvo, zp_0]
  refine sm_none fun i hi => sm_none fun l hl => ?_
  rw [if_neg (by omega)]
/-- the product by turning is the product -/
theorem prod_eq {p g K : Nat} (h : pgk p g) (hK : K ≤ 9) {a b : Nat → Nat} {la lb : Nat} (ha : ∀ i, i < 2 ^ K → la ≤ i → a i = 0) (hb : ∀ i, i < 2 ^ K → lb ≤ i → b i = 0) (h1 : 1 ≤ la) (h2 : 1 ≤ lb) (hm : la + lb - 1 ≤ 2 ^ K) :
    mr p (wl p g) K a b = cvo p a b lb la := by
  funext q
  by_cases hq : q < 2 ^ K
  · exact prod_in h hK ha hb h1 h2 hm hq
  · have hp := pgk_lt h
    rw [cvo_far (by omega) (by omega)]
    unfold mr
    rw [if_neg hq]
theorem up1_at {v : Nat → Nat} : ∀ {n k : Nat}, k < n → v k ≠ 0 → (∀ i, k < i → i < n → v i = 0) → up1 v n = k + 1
  | 0, _, h, _, _ => absurd h (Nat.not_lt_zero _)
  | n + 1, k, h, hv, hz => by
    rw [up1]
    by_cases e : k = n
    · subst e; rw [if_neg hv]
    · rw [if_pos (hz n (by omega) (by omega))]
      exact up1_at (by omega) hv (fun i h1 h2 => hz i h1 (by omega))
theorem up1_0 : ∀ n, up1 (fun _ => 0) n = 0
  | 0 => rfl
  | n + 1 => by rw [up1, if_pos rfl]; exact up1_0 n
/-- its length -/
theorem prod_len {p g : Nat} (h : pgk p g) {a b : Nat → Nat} {la lb : Nat} (h1 : 1 ≤ la) (h2 : 1 ≤ lb) (ha : a (la - 1) ≠ 0) (hb : b (lb - 1) ≠ 0) (ha2 : a (la - 1) < p) (hb2 : b (lb - 1) < p) {n : Nat} (hn : la + lb - 1 ≤ n) : up1 (cvo p a b lb la) n = la + lb - 1 := by
  have hne := pgk_ne h
  have hp := pgk_lt h
  have e := up1_at (v := cvo p a b lb la) (n := n) (k := la + lb - 2) (by omega) (fun h0 => by
    have h3 : zp p (cvo p a b lb la (la + lb - 2)) = 0 := by rw [h0, zp_0]
    rw [zp_cvo, sm_at (k := la - 1) (by omega) (fun i hi hik => sm_none fun l hl => by rw [if_neg (by omega)]), sm_at (k := lb - 1) (by omega) (fun l hl hlk => by rw [if_neg (by omega)]), if_pos (by omega)] at h3
    rcases zp_dom h.2.1 h3 with h4 | h4
    · have := Nat.le_of_dvd (by omega) (zp_eq0.mp h4)
      omega
    · have := Nat.le_of_dvd (by omega) (zp_eq0.mp h4)
      omega) (fun i hi _ => cvo_far (by omega) (by omega))
  rw [e]
  omega
theorem cvo_0 {p : Nat} {a b : Nat → Nat} : ∀ m, cvo p a b 0 m = fun _ => 0
  | 0 => rfl
  | m + 1 => by rw [cvo, cvj, cvo_0 m]
theorem cvj_congr {p i : Nat} {a a' b b' w : Nat → Nat} (ha : a i = a' i) : ∀ n, (∀ k, k < n → b k = b' k) → cvj p a b i w n = cvj p a' b' i w n
  | 0, _ => rfl
  | n + 1, h => by rw [cvj, cvj, cvj_congr ha n (fun k hk => h k (by omega)), ha, h n (by omega)]
theorem cvo_congr {p n : Nat} {a a' b b' : Nat → Nat} (hb : ∀ k, k < n → b k = b' k) : ∀ m, (∀ k, k < m → a k = a' k) → cvo p a b n m = cvo p a' b' n m
  | 0, _ => rfl
  | m + 1, h => by rw [cvo, cvo, cvo_congr hb m (fun k hk => h k (by omega)), cvj_congr (h m (by omega)) n hb]
/-! ===== words ===== -/
theorem mi_congr {i : Nat} {a a' b b' s : Nat → Nat} (ha : a i = a' i) : ∀ n, (∀ k, k < n → b k = b' k) → mi a b i s n = mi a' b' i s n
  | 0, _ => rfl
  | n + 1, h => by rw [mi, mi, mi_congr ha n (fun k hk => h k (by omega)), ha, h n (by omega)]
theorem mo_congr {n : Nat} {a a' b b' : Nat → Nat} (hb : ∀ k, k < n → b k = b' k) : ∀ m, (∀ k, k < m → a k = a' k) → mo a b n m = mo a' b' n m
  | 0, _ => rfl
  | m + 1, h => by rw [mo, mo, mo_congr hb m (fun k hk => h k (by omega)), mi_congr (h m (by omega)) n hb]
theorem mo_0 {a b : Nat → Nat} : ∀ m, mo a b 0 m = fun _ => 0
  | 0 => rfl
  | m + 1 => by
    rw [mo, mi, mo_0 m]
    funext k
    unfold nu
    split <;> rfl
theorem cy_congr {a a' b b' : Nat → Nat} : ∀ n, (∀ k, k < n → a k = a' k) → (∀ k, k < n → b k = b' k) → cy a b n = cy a' b' n
  | 0, _, _ => rfl
  | n + 1, h1, h2 => by rw [cy, cy, cy_congr n (fun k hk => h1 k (by omega)) (fun k hk => h2 k (by omega)), h1 n (by omega), h2 n (by omega)]
theorem sw1_congr {a a' b b' : Nat → Nat} {n : Nat} (h1 : ∀ k, k < n → a k = a' k) (h2 : ∀ k, k < n → b k = b' k) {k : Nat} (hk : k < n) : sw1 a b k = sw1 a' b' k := by
  unfold sw1
  rw [cy_congr k (fun j hj => h1 j (by omega)) (fun j hj => h2 j (by omega)), h1 k hk, h2 k hk]
