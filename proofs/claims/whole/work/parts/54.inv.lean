/-! ===== what holds between the class and the reference ===== -/
def mdX (cJ : ClassId) (ad : Nat → Nat) (p g : Nat) (c wd : Nat → Nat) (ct : Nat → va_E) : Prop := (∃ th, ct 20 = obM th p g ad) ∧ ct 21 = LN cJ 3072 c ∧ ct 22 = LN cJ 1440 wd ∧ (∃ f, ct 23 = LN cJ 512 f) ∧ (∃ f, ct 24 = LN cJ 512 f) ∧ ∃ f, ct 25 = LN cJ 241 f
def invN (p g : Nat) (Mr Nw : Nat → Nat → Nat) (c wd : Nat → Nat) : Prop := pgk p g ∧ (∀ i k, i < 6 → k < 512 → Mr i k < p ∧ c (512 * i + k) = Mr i k) ∧ (∀ i k, i < 6 → Nw i k < 2 ^ 32) ∧ ∀ i k, i < 6 → k < 240 → wd (240 * i + k) = Nw i k
def inv (cJ cQ : ClassId) (ad : Nat → Nat) (ct : Nat → va_E) : Prop := ∃ p g Mr Nw c wd, stX cJ cQ ad p (wl p g) Mr Nw ct ∧ mdX cJ ad p g c wd ct ∧ (∃ o, ct 26 = LA cJ 1 o) ∧ invN p g Mr Nw c wd
def rup (M : Nat → Nat → Nat) (i : Nat) (v : Nat → Nat) : Nat → Nat → Nat := fun a => if a = i then v else M a
theorem rup_s (M : Nat → Nat → Nat) (i : Nat) (v : Nat → Nat) : rup M i v i = v := if_pos rfl
theorem rup_n (M : Nat → Nat → Nat) {i a : Nat} (v : Nat → Nat) (h : a ≠ i) : rup M i v a = M a := if_neg h
section
variable {cJ cQ : ClassId} {ad : Nat → Nat} {p g : Nat} {wn : Nat → Nat} {Mr Nw : Nat → Nat → Nat} {c wd : Nat → Nat} {ct ct' : Nat → va_E}
theorem stX_cg (h : ∀ k, k < 20 → ct' k = ct k) (S : stX cJ cQ ad p wn Mr Nw ct) : stX cJ cQ ad p wn Mr Nw ct' := by
  obtain ⟨a1, a2, a3, a4, a5, a6, a7, a8, a9, a10⟩ := S
  exact ⟨(h 0 (by decide)).trans a1, (h 1 (by decide)).trans a2, (h 2 (by decide)).trans a3, fun i hi => (h (3 + i) (by omega)).trans (a4 i hi), (h 9 (by decide)).trans a5, fun i hi => (h (10 + i) (by omega)).trans (a6 i hi), by rw [h 16 (by decide)]; exact a7, by rw [h 17 (by decide)]; exact a8, by rw [h 18 (by decide)]; exact a9, by rw [h 19 (by decide)]; exact a10⟩
theorem mdX_cg (h : ∀ k, 20 ≤ k → k < 26 → ct' k = ct k) (S : mdX cJ ad p g c wd ct) : mdX cJ ad p g c wd ct' := by
  obtain ⟨a1, a2, a3, a4, a5, a6⟩ := S
  exact ⟨by rw [h 20 (by decide) (by decide)]; exact a1, (h 21 (by decide) (by decide)).trans a2, (h 22 (by decide) (by decide)).trans a3, by rw [h 23 (by decide) (by decide)]; exact a4, by rw [h 24 (by decide) (by decide)]; exact a5, by rw [h 25 (by decide) (by decide)]; exact a6⟩
theorem stX_far {q : Nat} {e : va_E} (hq : 20 ≤ q) (S : stX cJ cQ ad p wn Mr Nw ct) : stX cJ cQ ad p wn Mr Nw (va_up ct q e) := stX_cg (fun k hk => va_up_ne _ _ (by omega)) S
theorem mdX_far {q : Nat} {e : va_E} (hq : q < 20 ∨ 26 ≤ q) (S : mdX cJ ad p g c wd ct) : mdX cJ ad p g c wd (va_up ct q e) := mdX_cg (fun k h1 h2 => va_up_ne _ _ (by omega)) S
theorem stX_row {i : Nat} (hi : i < 6) (v : Nat → Nat) (S : stX cJ cQ ad p wn Mr Nw ct) : stX cJ cQ ad p wn (rup Mr i v) Nw (va_up ct (3 + i) (LN cJ 512 v)) := by
  obtain ⟨a1, a2, a3, a4, a5, a6, a7, a8, a9, a10⟩ := S
  refine ⟨(va_up_ne _ _ (by omega)).trans a1, (va_up_ne _ _ (by omega)).trans a2, (va_up_ne _ _ (by omega)).trans a3, fun a ha => ?_, (va_up_ne _ _ (by omega)).trans a5, fun a ha => (va_up_ne _ _ (by omega)).trans (a6 a ha), by rw [va_up_ne _ _ (by omega)]; exact a7, by rw [va_up_ne _ _ (by omega)]; exact a8, by rw [va_up_ne _ _ (by omega)]; exact a9, by rw [va_up_ne _ _ (by omega)]; exact a10⟩
  by_cases e : a = i
  · rw [e, va_up_self, rup_s]
  · rw [va_up_ne _ _ (by omega), rup_n _ _ e]; exact a4 a ha
theorem stX_nat {i : Nat} (hi : i < 6) (v : Nat → Nat) (S : stX cJ cQ ad p wn Mr Nw ct) : stX cJ cQ ad p wn Mr (rup Nw i v) (va_up ct (10 + i) (LN cJ 240 v)) := by
  obtain ⟨a1, a2, a3, a4, a5, a6, a7, a8, a9, a10⟩ := S
  refine ⟨(va_up_ne _ _ (by omega)).trans a1, (va_up_ne _ _ (by omega)).trans a2, (va_up_ne _ _ (by omega)).trans a3, fun a ha => (va_up_ne _ _ (by omega)).trans (a4 a ha), (va_up_ne _ _ (by omega)).trans a5, fun a ha => ?_, by rw [va_up_ne _ _ (by omega)]; exact a7, by rw [va_up_ne _ _ (by omega)]; exact a8, by rw [va_up_ne _ _ (by omega)]; exact a9, by rw [va_up_ne _ _ (by omega)]; exact a10⟩
  by_cases e : a = i
  · rw [e, va_up_self, rup_s]
  · rw [va_up_ne _ _ (by omega), rup_n _ _ e]; exact a6 a ha
theorem stX_16 (f : Nat → Nat) (S : stX cJ cQ ad p wn Mr Nw ct) : stX cJ cQ ad p wn Mr Nw (va_up ct 16 (LN cJ 9 f)) := by
  obtain ⟨a1, a2, a3, a4, a5, a6, a7, a8, a9, a10⟩ := S
  exact ⟨(va_up_ne _ _ (by omega)).trans a1, (va_up_ne _ _ (by omega)).trans a2, (va_up_ne _ _ (by omega)).trans a3, fun a ha => (va_up_ne _ _ (by omega)).trans (a4 a ha), (va_up_ne _ _ (by omega)).trans a5, fun a ha => (va_up_ne _ _ (by omega)).trans (a6 a ha), ⟨f, va_up_self _ _ _⟩, by rw [va_up_ne _ _ (by omega)]; exact a8, by rw [va_up_ne _ _ (by omega)]; exact a9, by rw [va_up_ne _ _ (by omega)]; exact a10⟩
theorem stX_17 (f : Nat → Nat) (S : stX cJ cQ ad p wn Mr Nw ct) : stX cJ cQ ad p wn Mr Nw (va_up ct 17 (LN cJ 512 f)) := by
  obtain ⟨a1, a2, a3, a4, a5, a6, a7, a8, a9, a10⟩ := S
  exact ⟨(va_up_ne _ _ (by omega)).trans a1, (va_up_ne _ _ (by omega)).trans a2, (va_up_ne _ _ (by omega)).trans a3, fun a ha => (va_up_ne _ _ (by omega)).trans (a4 a ha), (va_up_ne _ _ (by omega)).trans a5, fun a ha => (va_up_ne _ _ (by omega)).trans (a6 a ha), by rw [va_up_ne _ _ (by omega)]; exact a7, ⟨f, va_up_self _ _ _⟩, by rw [va_up_ne _ _ (by omega)]; exact a9, by rw [va_up_ne _ _ (by omega)]; exact a10⟩
theorem stX_18 (f : Nat → Nat) (S : stX cJ cQ ad p wn Mr Nw ct) : stX cJ cQ ad p wn Mr Nw (va_up ct 18 (LN cJ 512 f)) := by
  obtain ⟨a1, a2, a3, a4, a5, a6, a7, a8, a9, a10⟩ := S
  exact ⟨(va_up_ne _ _ (by omega)).trans a1, (va_up_ne _ _ (by omega)).trans a2, (va_up_ne _ _ (by omega)).trans a3, fun a ha => (va_up_ne _ _ (by omega)).trans (a4 a ha), (va_up_ne _ _ (by omega)).trans a5, fun a ha => (va_up_ne _ _ (by omega)).trans (a6 a ha), by rw [va_up_ne _ _ (by omega)]; exact a7, by rw [va_up_ne _ _ (by omega)]; exact a8, ⟨f, va_up_self _ _ _⟩, by rw [va_up_ne _ _ (by omega)]; exact a10⟩
theorem stX_19 (f : Nat → Nat) (S : stX cJ cQ ad p wn Mr Nw ct) : stX cJ cQ ad p wn Mr Nw (va_up ct 19 (LN cJ 240 f)) := by
  obtain ⟨a1, a2, a3, a4, a5, a6, a7, a8, a9, a10⟩ := S
  exact ⟨(va_up_ne _ _ (by omega)).trans a1, (va_up_ne _ _ (by omega)).trans a2, (va_up_ne _ _ (by omega)).trans a3, fun a ha => (va_up_ne _ _ (by omega)).trans (a4 a ha), (va_up_ne _ _ (by omega)).trans a5, fun a ha => (va_up_ne _ _ (by omega)).trans (a6 a ha), by rw [va_up_ne _ _ (by omega)]; exact a7, by rw [va_up_ne _ _ (by omega)]; exact a8, by rw [va_up_ne _ _ (by omega)]; exact a9, ⟨f, va_up_self _ _ _⟩⟩
/-- behind field -/
theorem stX_fld (n : Nat) (w : Nat → Nat) (f : Nat → Nat) (S : stX cJ cQ ad p wn Mr Nw ct) : stX cJ cQ ad n w (fun _ _ => 0) Nw (zrw cJ (va_up (va_up (va_up ct 16 (LN cJ 9 f)) 0 (obX n ad)) 1 (LN cJ 512 w)) 6) := by
  obtain ⟨a1, a2, a3, a4, a5, a6, a7, a8, a9, a10⟩ := S
  have hz : ∀ k, k < 3 ∨ 9 ≤ k → zrw cJ (va_up (va_up (va_up ct 16 (LN cJ 9 f)) 0 (obX n ad)) 1 (LN cJ 512 w)) 6 k = va_up (va_up (va_up ct 16 (LN cJ 9 f)) 0 (obX n ad)) 1 (LN cJ 512 w) k := fun k hk => zrw_n cJ _ 6 (by omega) (Nat.le_refl 6)
  have hk : ∀ k, 2 ≤ k → k < 3 ∨ 9 ≤ k → k ≠ 16 → zrw cJ (va_up (va_up (va_up ct 16 (LN cJ 9 f)) 0 (obX n ad)) 1 (LN cJ 512 w)) 6 k = ct k := fun k h2 h3 h16 => by
    rw [hz k h3, va_up_ne _ _ (by omega), va_up_ne _ _ (by omega), va_up_ne _ _ h16]
  refine ⟨?_, ?_, (hk 2 (by decide) (by decide) (by decide)).trans a3, fun i hi => ?_, (hk 9 (by decide) (by decide) (by decide)).trans a5, fun i hi => (hk (10 + i) (by omega) (by omega) (by omega)).trans (a6 i hi), ⟨f, ?_⟩, by rw [hk 17 (by decide) (by decide) (by decide)]; exact a8, by rw [hk 18 (by decide) (by decide) (by decide)]; exact a9, by rw [hk 19 (by decide) (by decide) (by decide)]; exact a10⟩
  · rw [hz 0 (by decide), va_up_ne _ _ (by decide), va_up_self]
  · rw [hz 1 (by decide), va_up_self]
  · unfold zrw
    rw [if_pos (by omega)]
  · rw [hz 16 (by decide), va_up_ne _ _ (by decide), va_up_ne _ _ (by decide), va_up_self]
theorem fld_far (n : Nat) (w f : Nat → Nat) {k : Nat} (hk : 20 ≤ k) : zrw cJ (va_up (va_up (va_up ct 16 (LN cJ 9 f)) 0 (obX n ad)) 1 (LN cJ 512 w)) 6 k = ct k := by
  rw [zrw_n cJ _ 6 (by omega) (Nat.le_refl 6), va_up_ne _ _ (by omega), va_up_ne _ _ (by omega), va_up_ne _ _ (by omega)]
theorem mdX_20 (th : Int32) (S : mdX cJ ad p g c wd ct) : mdX cJ ad p g c wd (va_up ct 20 (obM th p g ad)) := by
  obtain ⟨a1, a2, a3, a4, a5, a6⟩ := S
  exact ⟨⟨th, va_up_self _ _ _⟩, (va_up_ne _ _ (by decide)).trans a2, (va_up_ne _ _ (by decide)).trans a3, by rw [va_up_ne _ _ (by decide)]; exact a4, by rw [va_up_ne _ _ (by decide)]; exact a5, by rw [va_up_ne _ _ (by decide)]; exact a6⟩
theorem mdX_21 (c' : Nat → Nat) (S : mdX cJ ad p g c wd ct) : mdX cJ ad p g c' wd (va_up ct 21 (LN cJ 3072 c')) := by
  obtain ⟨a1, a2, a3, a4, a5, a6⟩ := S
  exact ⟨by rw [va_up_ne _ _ (by decide)]; exact a1, va_up_self _ _ _, (va_up_ne _ _ (by decide)).trans a3, by rw [va_up_ne _ _ (by decide)]; exact a4, by rw [va_up_ne _ _ (by decide)]; exact a5, by rw [va_up_ne _ _ (by decide)]; exact a6⟩
theorem mdX_22 (w' : Nat → Nat) (S : mdX cJ ad p g c wd ct) : mdX cJ ad p g c w' (va_up ct 22 (LN cJ 1440 w')) := by
  obtain ⟨a1, a2, a3, a4, a5, a6⟩ := S
  exact ⟨by rw [va_up_ne _ _ (by decide)]; exact a1, (va_up_ne _ _ (by decide)).trans a2, va_up_self _ _ _, by rw [va_up_ne _ _ (by decide)]; exact a4, by rw [va_up_ne _ _ (by decide)]; exact a5, by rw [va_up_ne _ _ (by decide)]; exact a6⟩
theorem mdX_23 (f : Nat → Nat) (S : mdX cJ ad p g c wd ct) : mdX cJ ad p g c wd (va_up ct 23 (LN cJ 512 f)) := by
  obtain ⟨a1, a2, a3, a4, a5, a6⟩ := S
  exact ⟨by rw [va_up_ne _ _ (by decide)]; exact a1, (va_up_ne _ _ (by decide)).trans a2, (va_up_ne _ _ (by decide)).trans a3, ⟨f, va_up_self _ _ _⟩, by rw [va_up_ne _ _ (by decide)]; exact a5, by rw [va_up_ne _ _ (by decide)]; exact a6⟩
theorem mdX_24 (f : Nat → Nat) (S : mdX cJ ad p g c wd ct) : mdX cJ ad p g c wd (va_up ct 24 (LN cJ 512 f)) := by
  obtain ⟨a1, a2, a3, a4, a5, a6⟩ := S
  exact ⟨by rw [va_up_ne _ _ (by decide)]; exact a1, (va_up_ne _ _ (by decide)).trans a2, (va_up_ne _ _ (by decide)).trans a3, by rw [va_up_ne _ _ (by decide)]; exact a4, ⟨f, va_up_self _ _ _⟩, by rw [va_up_ne _ _ (by decide)]; exact a6⟩
theorem mdX_25 (f : Nat → Nat) (S : mdX cJ ad p g c wd ct) : mdX cJ ad p g c wd (va_up ct 25 (LN cJ 241 f)) := by
  obtain ⟨a1, a2, a3, a4, a5, a6⟩ := S
  exact ⟨by rw [va_up_ne _ _ (by decide)]; exact a1, (va_up_ne _ _ (by decide)).trans a2, (va_up_ne _ _ (by decide)).trans a3, by rw [va_up_ne _ _ (by decide)]; exact a4, by rw [va_up_ne _ _ (by decide)]; exact a5, ⟨f, va_up_self _ _ _⟩⟩
theorem mdX_fld (n g1 : Nat) (S : mdX cJ ad p g c wd ct) : mdX cJ ad n g1 (fun _ => 0) wd (va_up (va_up ct 20 (obM (nI 0) n g1 ad)) 21 (LN cJ 3072 (fun _ => 0))) := by
  obtain ⟨a1, a2, a3, a4, a5, a6⟩ := S
  exact ⟨⟨nI 0, by rw [va_up_ne _ _ (by decide), va_up_self]⟩, va_up_self _ _ _, by rw [va_up_ne _ _ (by decide), va_up_ne _ _ (by decide)]; exact a3, by rw [va_up_ne _ _ (by decide), va_up_ne _ _ (by decide)]; exact a4, by rw [va_up_ne _ _ (by decide), va_up_ne _ _ (by decide)]; exact a5, by rw [va_up_ne _ _ (by decide), va_up_ne _ _ (by decide)]; exact a6⟩
theorem invN_nv (h : invN p g Mr Nw c wd) : nvX p (wl p g) Mr Nw := ⟨pgk_lt h.1, h.1.1.2.1, fun k _ => wl_lt (by have := pgk_lt h.1; omega) k, fun i k hi hk => (h.2.1 i k hi hk).1, h.2.2.1⟩
theorem invN_c (h : invN p g Mr Nw c wd) : ∀ k, k < 3072 → c k < p := fun k hk => by
  have h1 := h.2.1 (k / 512) (k % 512) (by omega) (Nat.mod_lt _ (by decide))
  rw [Nat.div_add_mod] at h1
  rw [h1.2]; exact h1.1
theorem invN_w (h : invN p g Mr Nw c wd) : ∀ k, k < 1440 → wd k < 2 ^ 32 := fun k hk => by
  have h1 := h.2.2.2 (k / 240) (k % 240) (by omega) (Nat.mod_lt _ (by decide))
  rw [Nat.div_add_mod] at h1
  rw [h1]; exact h.2.2.1 _ _ (by omega)
theorem invN_row {i : Nat} {v c' : Nat → Nat} (h : invN p g Mr Nw c wd) (hv : ∀ k, k < 512 → v k < p) (h1 : ∀ k, k < 512 → c' (512 * i + k) = v k) (h2 : ∀ x, x < 512 * i ∨ 512 * i + 512 ≤ x → c' x = c x) : invN p g (rup Mr i v) Nw c' wd := by
  refine ⟨h.1, fun a k ha hk => ?_, h.2.2.1, h.2.2.2⟩
  by_cases e : a = i
  · subst e
    rw [rup_s]
    exact ⟨hv k hk, h1 k hk⟩
  · rw [rup_n _ _ e, h2 (512 * a + k) (by omega)]
    exact h.2.1 a k ha hk
theorem invN_nat {i : Nat} {v w' : Nat → Nat} (h : invN p g Mr Nw c wd) (hv : ∀ k, v k < 2 ^ 32) (h1 : ∀ k, k < 240 → w' (240 * i + k) = v k) (h2 : ∀ x, x < 240 * i ∨ 240 * i + 240 ≤ x → w' x = wd x) : invN p g Mr (rup Nw i v) c w' := by
  refine ⟨h.1, h.2.1, fun a k ha => ?_, fun a k ha hk => ?_⟩
  · by_cases e : a = i
    · subst e
      rw [rup_s]
      exact hv k
    · rw [rup_n _ _ e]
      exact h.2.2.1 a k ha
  · by_cases e : a = i
    · subst e
      rw [rup_s]
      exact h1 k hk
    · rw [rup_n _ _ e, h2 (240 * a + k) (by omega)]
      exact h.2.2.2 a k ha hk
end
theorem nI_inj6 {i j : Nat} (hi : i < 2 ^ 31) (hj : j < 2 ^ 31) (h : nI i = nI j) : i = j := (nI_eq hi hj).mp h
theorem ir_of {x : Int32} {i n : Nat} (hi : i < n) (h : x = nI i) : ir x n := ⟨i, hi, h⟩
theorem fr_in {W t n : Nat} {s v : Nat → Nat} {k : Nat} (hk : k < n) : fr W t n s v (W * t + k) = s k := by
  unfold fr
  rw [if_pos (by omega), Nat.add_sub_cancel_left]
theorem fr_out {W t n : Nat} {s v : Nat → Nat} {x : Nat} (h : x < W * t ∨ W * t + n ≤ x) : fr W t n s v x = v x := by
  unfold fr
  rw [if_neg (by omega)]
