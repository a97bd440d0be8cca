theorem lN_nn {n : Nat} (h : n < 2 ^ 63) : ¬ lN n < 0 := fun q => by
  have : lN n < lN 0 := q
  rw [pk_lLT h (by decide)] at this
  omega
theorem hra_cg {p x : Nat} {v w : Nat → Nat} : ∀ m s, (∀ k, k < m → v k = w k) → hra p v x m s = hra p w x m s
  | 0, _, _ => rfl
  | m + 1, s, h => by
    unfold hra
    rw [h m (by omega)]
    exact hra_cg m _ (fun k hk => h k (by omega))
section
variable {cJ cQ : ClassId} {ad : Nat → Nat} {p g : Nat} {Mr Nw : Nat → Nat → Nat} {c wd : Nat → Nat} {ct : Nat → va_E}
theorem inv_0 {v : Int64} (S : stX cJ cQ ad p (wl p g) Mr Nw ct) (Dm : mdX cJ ad p g c wd ct) (I : invN p g Mr Nw c wd) : (∃ p' g', va_up (va_up ct 26 (LA cJ 1 (fun _ => v))) 20 (obM (nI 0) p g ad) 20 = obM (nI 0) p' g' ad) ∧ (∃ o : Nat → Int64, va_up (va_up ct 26 (LA cJ 1 (fun _ => v))) 20 (obM (nI 0) p g ad) 26 = LA cJ 1 o ∧ o 0 = v) ∧ inv cJ cQ ad (va_up (va_up ct 26 (LA cJ 1 (fun _ => v))) 20 (obM (nI 0) p g ad)) :=
  ⟨⟨p, g, va_up_self _ _ _⟩, ⟨fun _ => v, by rw [va_up_ne _ _ (by decide), va_up_self], rfl⟩, p, g, Mr, Nw, c, wd, stX_far (by decide) (stX_far (by decide) S), mdX_20 _ (mdX_far (by decide) Dm), ⟨fun _ => v, by rw [va_up_ne _ _ (by decide), va_up_self]⟩, I⟩
theorem inv_k (k : Nat) (S : stX cJ cQ ad p (wl p g) Mr Nw ct) (Dm : mdX cJ ad p g c wd ct) (Ho : ∃ o, ct 26 = LA cJ 1 o) (I : invN p g Mr Nw c wd) : (∃ p' g', va_up ct 20 (obM (nI k) p g ad) 20 = obM (nI k) p' g' ad) ∧ inv cJ cQ ad (va_up ct 20 (obM (nI k) p g ad)) :=
  ⟨⟨p, g, va_up_self _ _ _⟩, p, g, Mr, Nw, c, wd, stX_far (by decide) S, mdX_20 _ Dm, by rw [va_up_ne _ _ (by decide)]; exact Ho, I⟩
end
theorem n10 : ¬ (nI 1 = nI 0) := by decide
theorem n20 : ¬ (nI 2 = nI 0) := by decide
theorem pm_field {cJ cQ : ClassId} {ad : Nat → Nat} {ct : Nat → va_E} {p g : Nat} {Mr Nw : Nat → Nat → Nat} {c wd : Nat → Nat} (S : stX cJ cQ ad p (wl p g) Mr Nw ct) (Dm : mdX cJ ad p g c wd ct) (Ho : ∃ o, ct 26 = LA cJ 1 o) (I : invN p g Mr Nw c wd) (x : Int64) {r5 : Int32} {ct1 : Nat → va_E} (h1 : (r5 = nI 0 ∧ ∃ v ct2, (fun r ct1 => ∃ n g fa, fok n ∧ x = lN n ∧ lrf n (facs (n - 1)) (n - 2) 2 = some g ∧ r = lN g ∧ ct1 = zrw cJ (va_up (va_up (va_up ct 16 (LN cJ 9 fa)) 0 (obX n ad)) 1 (LN cJ 512 (fun k => (g ^ ((n - 1) / 512) % n) ^ k % n))) 6) v ct2 ∧ ct1 = va_up ct2 26 (LA cJ 1 (fun _ => v))) ∨ (r5 = nI 1 ∧ (fun E ct1 => E = xIA ∧ ((ct1 = ct ∧ ¬ ∃ n, fok n ∧ x = lN n) ∨ ∃ n fa, fok n ∧ x = lN n ∧ lrf n (facs (n - 1)) (n - 2) 2 = none ∧ ct1 = va_up ct 16 (LN cJ 9 fa))) xIA ct1)) : mdX cJ ad p g c wd ct1 := by
  rcases h1 with ⟨-, v, ct2, ⟨n, g, fa, -, -, -, -, rfl⟩, rfl⟩ | ⟨-, -, ⟨rfl, -⟩ | ⟨n, fa, -, -, -, rfl⟩⟩
  · exact mdX_far (by omega) (mdX_cg (fun k hk _ => fld_far _ _ _ hk) Dm)
  · exact Dm
  · exact mdX_far (by omega) Dm
theorem pu_field {cJ cQ : ClassId} {ad : Nat → Nat} {ct : Nat → va_E} {p g : Nat} {Mr Nw : Nat → Nat → Nat} {c wd : Nat → Nat} (S : stX cJ cQ ad p (wl p g) Mr Nw ct) (Dm : mdX cJ ad p g c wd ct) (Ho : ∃ o, ct 26 = LA cJ 1 o) (I : invN p g Mr Nw c wd) (x : Int64) {r5 : Int32} {ct1 : Nat → va_E} (h1 : (r5 = nI 0 ∧ ∃ v ct2, (fun r ct1 => ∃ n g fa, fok n ∧ x = lN n ∧ lrf n (facs (n - 1)) (n - 2) 2 = some g ∧ r = lN g ∧ ct1 = zrw cJ (va_up (va_up (va_up ct 16 (LN cJ 9 fa)) 0 (obX n ad)) 1 (LN cJ 512 (fun k => (g ^ ((n - 1) / 512) % n) ^ k % n))) 6) v ct2 ∧ ct1 = va_up ct2 26 (LA cJ 1 (fun _ => v))) ∨ (r5 = nI 1 ∧ (fun E ct1 => E = xIA ∧ ((ct1 = ct ∧ ¬ ∃ n, fok n ∧ x = lN n) ∨ ∃ n fa, fok n ∧ x = lN n ∧ lrf n (facs (n - 1)) (n - 2) 2 = none ∧ ct1 = va_up ct 16 (LN cJ 9 fa))) xIA ct1)) {v6 : Int64} {ct2 : Nat → va_E} (h2 : (fun r ct2 => ((¬ ∃ n, fok n ∧ prm n ∧ x = lN n) ∧ ct2 = va_up ct1 20 (obM (nI 1) p g ad)) ∨ (∃ n g1, fok n ∧ prm n ∧ x = lN n ∧ lsR n g1 ∧ g1 < 2 ^ 31 ∧ r = lN g1 ∧ ct2 = va_up (va_up ct1 20 (obM (nI 0) n g1 ad)) 21 (LN cJ 3072 (fun _ => 0)))) v6 ct2) : (∃ p' g', ct2 20 = obM r5 p' g' ad) ∧ (r5 = nI 0 → ∃ o : Nat → Int64, ct2 26 = LA cJ 1 o ∧ o 0 = (v6)) ∧ inv cJ cQ ad ct2 := by
  rcases h1 with ⟨rfl, v, ct3, ⟨n, g2, fa, hn, rfl, hl, rfl, rfl⟩, rfl⟩ | ⟨rfl, -, hb⟩
  · have hk := find_some hn hl
    rcases h2 with ⟨hno, -⟩ | ⟨n', g', hn', -, he, hls, -, rfl, rfl⟩
    · exact absurd ⟨n, hn, hk.2.1, rfl⟩ hno
    · have e1 : n = n' := (pk_lEQ (by have := hn.2.1; omega) (by have := hn'.2.1; omega)).mp he
      subst e1
      have e2 := lsR_uniq hk.2.2.1 hls
      subst e2
      have Dm1 : mdX cJ ad p g c wd (va_up (zrw cJ (va_up (va_up (va_up ct 16 (LN cJ 9 fa)) 0 (obX n ad)) 1 (LN cJ 512 (fun k => (g2 ^ ((n - 1) / 512) % n) ^ k % n))) 6) 26 (LA cJ 1 (fun _ => lN g2))) := mdX_far (by omega) (mdX_cg (fun k hk _ => fld_far _ _ _ hk) Dm)
      refine ⟨⟨n, g2, by rw [va_up_ne _ _ (by decide), va_up_self]⟩, fun _ => ⟨fun _ => lN g2, by rw [va_up_ne _ _ (by decide), va_up_ne _ _ (by decide), va_up_self], rfl⟩, n, g2, fun _ _ => 0, Nw, fun _ => 0, wd, ?_, mdX_fld n g2 Dm1, ⟨fun _ => lN g2, by rw [va_up_ne _ _ (by decide), va_up_ne _ _ (by decide), va_up_self]⟩, hk, fun i k _ _ => ⟨by have := pgk_lt hk; show 0 < n; omega, rfl⟩, I.2.2.1, I.2.2.2⟩
      exact stX_far (by decide) (stX_far (by decide) (stX_far (by decide) (stX_fld n (wl n g2) fa S)))
  · have hno : ¬ ∃ n, fok n ∧ prm n ∧ x = lN n := by
      rintro ⟨n, hn, hp, hx⟩
      rcases hb with ⟨-, hb⟩ | ⟨n', fa, hn', hx', hl, -⟩
      · exact hb ⟨n, hn, hx⟩
      · have e1 : n = n' := (pk_lEQ (by have := hn.2.1; omega) (by have := hn'.2.1; omega)).mp (hx.symm.trans hx')
        subst e1
        exact find_none hn' hl hp
    have S1 : stX cJ cQ ad p (wl p g) Mr Nw ct1 ∧ mdX cJ ad p g c wd ct1 ∧ ∃ o, ct1 26 = LA cJ 1 o := by
      rcases hb with ⟨rfl, -⟩ | ⟨n', fa, -, -, -, rfl⟩
      · exact ⟨S, Dm, Ho⟩
      · exact ⟨stX_16 fa S, mdX_far (by omega) Dm, by rw [va_up_ne _ _ (by decide)]; exact Ho⟩
    rcases h2 with ⟨-, rfl⟩ | ⟨n', g', hn', hp', he, -⟩
    · obtain ⟨a, b⟩ := inv_k 1 S1.1 S1.2.1 S1.2.2 I
      exact ⟨a, fun h => absurd h n10, b⟩
    · exact absurd ⟨n', hn', hp', he⟩ hno
theorem pm_power {cJ cQ : ClassId} {ad : Nat → Nat} {ct : Nat → va_E} {p g : Nat} {Mr Nw : Nat → Nat → Nat} {c wd : Nat → Nat} (S : stX cJ cQ ad p (wl p g) Mr Nw ct) (Dm : mdX cJ ad p g c wd ct) (Ho : ∃ o, ct 26 = LA cJ 1 o) (I : invN p g Mr Nw c wd) (x e : Int64) {r5 : Int32} {ct1 : Nat → va_E} (h1 : (r5 = nI 0 ∧ ∃ v ct2, (fun r ct1 => ct1 = ct ∧ ∃ n, n < 2 ^ 63 ∧ e = lN n ∧ r = lN (fm p x ^ n % p)) v ct2 ∧ ct1 = va_up ct2 26 (LA cJ 1 (fun _ => v))) ∨ (r5 = nI 1 ∧ (fun E ct1 => E = xIA ∧ ct1 = ct ∧ e < 0) xIA ct1)) : mdX cJ ad p g c wd ct1 := by
  rcases h1 with ⟨-, v, ct2, ⟨rfl, -⟩, rfl⟩ | ⟨-, -, rfl, -⟩
  · exact mdX_far (by omega) Dm
  · exact Dm
theorem pu_power {cJ cQ : ClassId} {ad : Nat → Nat} {ct : Nat → va_E} {p g : Nat} {Mr Nw : Nat → Nat → Nat} {c wd : Nat → Nat} (S : stX cJ cQ ad p (wl p g) Mr Nw ct) (Dm : mdX cJ ad p g c wd ct) (Ho : ∃ o, ct 26 = LA cJ 1 o) (I : invN p g Mr Nw c wd) (x e : Int64) {r5 : Int32} {ct1 : Nat → va_E} (h1 : (r5 = nI 0 ∧ ∃ v ct2, (fun r ct1 => ct1 = ct ∧ ∃ n, n < 2 ^ 63 ∧ e = lN n ∧ r = lN (fm p x ^ n % p)) v ct2 ∧ ct1 = va_up ct2 26 (LA cJ 1 (fun _ => v))) ∨ (r5 = nI 1 ∧ (fun E ct1 => E = xIA ∧ ct1 = ct ∧ e < 0) xIA ct1)) {v6 : Int64} {ct2 : Nat → va_E} (h2 : (fun r ct2 => (e < 0 ∧ ct2 = va_up ct1 20 (obM (nI 1) p g ad)) ∨ (∃ n, n < 2 ^ 63 ∧ e = lN n ∧ r = lN (fm p x ^ n % p) ∧ ct2 = va_up ct1 20 (obM (nI 0) p g ad))) v6 ct2) : (∃ p' g', ct2 20 = obM r5 p' g' ad) ∧ (r5 = nI 0 → ∃ o : Nat → Int64, ct2 26 = LA cJ 1 o ∧ o 0 = (v6)) ∧ inv cJ cQ ad ct2 := by
  rcases h1 with ⟨rfl, v, ct3, ⟨rfl, n, hn, rfl, rfl⟩, rfl⟩ | ⟨rfl, -, rfl, hneg⟩
  · rcases h2 with ⟨h, -⟩ | ⟨n', hn', he, rfl, rfl⟩
    · exact absurd h (lN_nn hn)
    · have e1 := (pk_lEQ hn hn').mp he
      subst e1
      obtain ⟨a, b, d⟩ := inv_0 (v := lN (fm p x ^ n % p)) S Dm I
      exact ⟨a, fun _ => b, d⟩
  · rcases h2 with ⟨-, rfl⟩ | ⟨n', hn', he, -, -⟩
    · obtain ⟨a, b⟩ := inv_k 1 S Dm Ho I
      exact ⟨a, fun h => absurd h n10, b⟩
    · rw [he] at hneg
      exact absurd hneg (lN_nn hn')
theorem pm_inverse {cJ cQ : ClassId} {ad : Nat → Nat} {ct : Nat → va_E} {p g : Nat} {Mr Nw : Nat → Nat → Nat} {c wd : Nat → Nat} (S : stX cJ cQ ad p (wl p g) Mr Nw ct) (Dm : mdX cJ ad p g c wd ct) (Ho : ∃ o, ct 26 = LA cJ 1 o) (I : invN p g Mr Nw c wd) (x : Int64) {r5 : Int32} {ct1 : Nat → va_E} (h1 : (r5 = nI 0 ∧ ∃ v ct2, (fun r ct1 => ct1 = ct ∧ fm p x ≠ 0 ∧ r = lN (fm p x ^ (p - 2) % p)) v ct2 ∧ ct1 = va_up ct2 26 (LA cJ 1 (fun _ => v))) ∨ (r5 = nI 1 ∧ (fun E ct1 => E = xIA ∧ ct1 = ct ∧ fm p x = 0) xIA ct1)) : mdX cJ ad p g c wd ct1 := by
  rcases h1 with ⟨-, v, ct2, ⟨rfl, -⟩, rfl⟩ | ⟨-, -, rfl, -⟩
  · exact mdX_far (by omega) Dm
  · exact Dm
theorem pu_inverse {cJ cQ : ClassId} {ad : Nat → Nat} {ct : Nat → va_E} {p g : Nat} {Mr Nw : Nat → Nat → Nat} {c wd : Nat → Nat} (S : stX cJ cQ ad p (wl p g) Mr Nw ct) (Dm : mdX cJ ad p g c wd ct) (Ho : ∃ o, ct 26 = LA cJ 1 o) (I : invN p g Mr Nw c wd) (x : Int64) {r5 : Int32} {ct1 : Nat → va_E} (h1 : (r5 = nI 0 ∧ ∃ v ct2, (fun r ct1 => ct1 = ct ∧ fm p x ≠ 0 ∧ r = lN (fm p x ^ (p - 2) % p)) v ct2 ∧ ct1 = va_up ct2 26 (LA cJ 1 (fun _ => v))) ∨ (r5 = nI 1 ∧ (fun E ct1 => E = xIA ∧ ct1 = ct ∧ fm p x = 0) xIA ct1)) {v6 : Int64} {ct2 : Nat → va_E} (h2 : (fun r ct2 => (fm p x = 0 ∧ ct2 = va_up ct1 20 (obM (nI 1) p g ad)) ∨ (fm p x ≠ 0 ∧ r = lN (fm p x ^ (p - 2) % p) ∧ ct2 = va_up ct1 20 (obM (nI 0) p g ad))) v6 ct2) : (∃ p' g', ct2 20 = obM r5 p' g' ad) ∧ (r5 = nI 0 → ∃ o : Nat → Int64, ct2 26 = LA cJ 1 o ∧ o 0 = (v6)) ∧ inv cJ cQ ad ct2 := by
  rcases h1 with ⟨rfl, v, ct3, ⟨rfl, hz, rfl⟩, rfl⟩ | ⟨rfl, -, rfl, hz⟩
  · rcases h2 with ⟨h, -⟩ | ⟨-, rfl, rfl⟩
    · exact absurd h hz
    · obtain ⟨a, b, d⟩ := inv_0 (v := lN (fm p x ^ (p - 2) % p)) S Dm I
      exact ⟨a, fun _ => b, d⟩
  · rcases h2 with ⟨-, rfl⟩ | ⟨h, -, -⟩
    · obtain ⟨a, b⟩ := inv_k 1 S Dm Ho I
      exact ⟨a, fun h => absurd h n10, b⟩
    · exact absurd hz h
theorem pm_put {cJ cQ : ClassId} {ad : Nat → Nat} {ct : Nat → va_E} {p g : Nat} {Mr Nw : Nat → Nat → Nat} {c wd : Nat → Nat} (S : stX cJ cQ ad p (wl p g) Mr Nw ct) (Dm : mdX cJ ad p g c wd ct) (Ho : ∃ o, ct 26 = LA cJ 1 o) (I : invN p g Mr Nw c wd) (x y : Int32) (z : Int64) {r5 : Int32} {ct1 : Nat → va_E} (h1 : (r5 = nI 0 ∧ ∃ v ct2, (fun r ct1 => ∃ i k, i < 6 ∧ k < 512 ∧ x = nI i ∧ y = nI k ∧ r = nI (if Mr i k = fm p z then 0 else 1) ∧ ct1 = va_up ct (3 + i) (LN cJ 512 (nu (Mr i) k (fm p z)))) v ct2 ∧ ct1 = va_up ct2 26 (LA cJ 1 (fun _ => if v = 0 then lN 0 else lN 1))) ∨ (r5 = nI 1 ∧ (fun E ct1 => E = xIO ∧ ct1 = ct ∧ ¬ (ir x 6 ∧ ir y 512)) xIO ct1)) : mdX cJ ad p g c wd ct1 := by
  rcases h1 with ⟨-, v, ct2, ⟨i, k, hi, -, -, -, -, rfl⟩, rfl⟩ | ⟨-, -, rfl, -⟩
  · exact mdX_far (by omega) (mdX_far (by omega) Dm)
  · exact Dm
theorem pu_put {cJ cQ : ClassId} {ad : Nat → Nat} {ct : Nat → va_E} {p g : Nat} {Mr Nw : Nat → Nat → Nat} {c wd : Nat → Nat} (S : stX cJ cQ ad p (wl p g) Mr Nw ct) (Dm : mdX cJ ad p g c wd ct) (Ho : ∃ o, ct 26 = LA cJ 1 o) (I : invN p g Mr Nw c wd) (x y : Int32) (z : Int64) {r5 : Int32} {ct1 : Nat → va_E} (h1 : (r5 = nI 0 ∧ ∃ v ct2, (fun r ct1 => ∃ i k, i < 6 ∧ k < 512 ∧ x = nI i ∧ y = nI k ∧ r = nI (if Mr i k = fm p z then 0 else 1) ∧ ct1 = va_up ct (3 + i) (LN cJ 512 (nu (Mr i) k (fm p z)))) v ct2 ∧ ct1 = va_up ct2 26 (LA cJ 1 (fun _ => if v = 0 then lN 0 else lN 1))) ∨ (r5 = nI 1 ∧ (fun E ct1 => E = xIO ∧ ct1 = ct ∧ ¬ (ir x 6 ∧ ir y 512)) xIO ct1)) {v6 : Int32} {ct2 : Nat → va_E} (h2 : (fun r ct2 => (¬ (ir x 6 ∧ ir y 512) ∧ ct2 = va_up ct1 20 (obM (nI 1) p g ad)) ∨ (∃ i k, i < 6 ∧ k < 512 ∧ x = nI i ∧ y = nI k ∧ r = nI (if c (512 * i + k) = fm p z then 0 else 1) ∧ ct2 = va_up (va_up ct1 20 (obM (nI 0) p g ad)) 21 (LN cJ 3072 (nu c (512 * i + k) (fm p z))))) v6 ct2) : (∃ p' g', ct2 20 = obM r5 p' g' ad) ∧ (r5 = nI 0 → ∃ o : Nat → Int64, ct2 26 = LA cJ 1 o ∧ o 0 = (if v6 = 0 then lN 0 else lN 1)) ∧ inv cJ cQ ad ct2 := by
  rcases h1 with ⟨rfl, v, ct3, ⟨i, k, hi, hk, rfl, rfl, rfl, rfl⟩, rfl⟩ | ⟨rfl, -, rfl, hno⟩
  · rcases h2 with ⟨h, -⟩ | ⟨i', k', hi', hk', e1, e2, rfl, rfl⟩
    · exact absurd ⟨⟨i, hi, rfl⟩, ⟨k, hk, rfl⟩⟩ h
    · have e3 := nI_inj6 (by omega) (by omega) e1
      have e4 := nI_inj6 (by omega) (by omega) e2
      subst e3 e4
      rw [(I.2.1 i k hi hk).2]
      refine ⟨⟨p, g, by rw [va_up_ne _ _ (by decide), va_up_self]⟩, fun _ => ⟨_, by rw [va_up_ne _ _ (by decide), va_up_ne _ _ (by decide), va_up_self], rfl⟩, p, g, rup Mr i (nu (Mr i) k (fm p z)), Nw, nu c (512 * i + k) (fm p z), wd, stX_far (by decide) (stX_far (by decide) (stX_far (by decide) (stX_row hi _ S))), mdX_21 _ (mdX_20 _ (mdX_far (by omega) (mdX_far (by omega) Dm))), ⟨_, by rw [va_up_ne _ _ (by decide), va_up_ne _ _ (by decide), va_up_self]⟩, ?_⟩
      refine invN_row I (fun j hj => ?_) (fun j hj => ?_) (fun x hx => ?_)
      · unfold nu
        split
        · exact fm_lt (by have := pgk_lt I.1; omega) z
        · exact (I.2.1 i j hi hj).1
      · unfold nu
        by_cases e : j = k
        · rw [if_pos (by omega), if_pos e]
        · rw [if_neg (by omega), if_neg e]; exact (I.2.1 i j hi hj).2
      · exact nu_n _ _ (by omega)
  · rcases h2 with ⟨-, rfl⟩ | ⟨i', k', hi', hk', e1, e2, -, -⟩
    · obtain ⟨a, b⟩ := inv_k 1 S Dm Ho I
      exact ⟨a, fun h => absurd h n10, b⟩
    · exact absurd ⟨⟨i', hi', e1⟩, ⟨k', hk', e2⟩⟩ hno
theorem pm_get {cJ cQ : ClassId} {ad : Nat → Nat} {ct : Nat → va_E} {p g : Nat} {Mr Nw : Nat → Nat → Nat} {c wd : Nat → Nat} (S : stX cJ cQ ad p (wl p g) Mr Nw ct) (Dm : mdX cJ ad p g c wd ct) (Ho : ∃ o, ct 26 = LA cJ 1 o) (I : invN p g Mr Nw c wd) (x y : Int32) {r5 : Int32} {ct1 : Nat → va_E} (h1 : (r5 = nI 0 ∧ ∃ v ct2, (fun r ct1 => ct1 = ct ∧ ∃ i k, i < 6 ∧ k < 512 ∧ x = nI i ∧ y = nI k ∧ r = lN (Mr i k)) v ct2 ∧ ct1 = va_up ct2 26 (LA cJ 1 (fun _ => v))) ∨ (r5 = nI 1 ∧ (fun E ct1 => E = xIO ∧ ct1 = ct ∧ ¬ (ir x 6 ∧ ir y 512)) xIO ct1)) : mdX cJ ad p g c wd ct1 := by
  rcases h1 with ⟨-, v, ct2, ⟨rfl, -⟩, rfl⟩ | ⟨-, -, rfl, -⟩
  · exact mdX_far (by omega) Dm
  · exact Dm
theorem pu_get {cJ cQ : ClassId} {ad : Nat → Nat} {ct : Nat → va_E} {p g : Nat} {Mr Nw : Nat → Nat → Nat} {c wd : Nat → Nat} (S : stX cJ cQ ad p (wl p g) Mr Nw ct) (Dm : mdX cJ ad p g c wd ct) (Ho : ∃ o, ct 26 = LA cJ 1 o) (I : invN p g Mr Nw c wd) (x y : Int32) {r5 : Int32} {ct1 : Nat → va_E} (h1 : (r5 = nI 0 ∧ ∃ v ct2, (fun r ct1 => ct1 = ct ∧ ∃ i k, i < 6 ∧ k < 512 ∧ x = nI i ∧ y = nI k ∧ r = lN (Mr i k)) v ct2 ∧ ct1 = va_up ct2 26 (LA cJ 1 (fun _ => v))) ∨ (r5 = nI 1 ∧ (fun E ct1 => E = xIO ∧ ct1 = ct ∧ ¬ (ir x 6 ∧ ir y 512)) xIO ct1)) {v6 : Int64} {ct2 : Nat → va_E} (h2 : (fun r ct2 => (¬ (ir x 6 ∧ ir y 512) ∧ ct2 = va_up ct1 20 (obM (nI 1) p g ad)) ∨ (∃ i k, i < 6 ∧ k < 512 ∧ x = nI i ∧ y = nI k ∧ r = lN (c (512 * i + k)) ∧ ct2 = va_up ct1 20 (obM (nI 0) p g ad))) v6 ct2) : (∃ p' g', ct2 20 = obM r5 p' g' ad) ∧ (r5 = nI 0 → ∃ o : Nat → Int64, ct2 26 = LA cJ 1 o ∧ o 0 = (v6)) ∧ inv cJ cQ ad ct2 := by
  rcases h1 with ⟨rfl, v, ct3, ⟨rfl, i, k, hi, hk, rfl, rfl, rfl⟩, rfl⟩ | ⟨rfl, -, rfl, hno⟩
  · rcases h2 with ⟨h, -⟩ | ⟨i', k', hi', hk', e1, e2, rfl, rfl⟩
    · exact absurd ⟨⟨i, hi, rfl⟩, ⟨k, hk, rfl⟩⟩ h
    · have e3 := nI_inj6 (by omega) (by omega) e1
      have e4 := nI_inj6 (by omega) (by omega) e2
      subst e3 e4
      rw [(I.2.1 i k hi hk).2]
      obtain ⟨a, b, d⟩ := inv_0 (v := lN (Mr i k)) S Dm I
      exact ⟨a, fun _ => b, d⟩
  · rcases h2 with ⟨-, rfl⟩ | ⟨i', k', hi', hk', e1, e2, -, -⟩
    · obtain ⟨a, b⟩ := inv_k 1 S Dm Ho I
      exact ⟨a, fun h => absurd h n10, b⟩
    · exact absurd ⟨⟨i', hi', e1⟩, ⟨k', hk', e2⟩⟩ hno
theorem pm_length {cJ cQ : ClassId} {ad : Nat → Nat} {ct : Nat → va_E} {p g : Nat} {Mr Nw : Nat → Nat → Nat} {c wd : Nat → Nat} (S : stX cJ cQ ad p (wl p g) Mr Nw ct) (Dm : mdX cJ ad p g c wd ct) (Ho : ∃ o, ct 26 = LA cJ 1 o) (I : invN p g Mr Nw c wd) (x : Int32) {r5 : Int32} {ct1 : Nat → va_E} (h1 : (r5 = nI 0 ∧ ∃ v ct2, (fun r ct1 => ct1 = ct ∧ ∃ i, i < 6 ∧ x = nI i ∧ r = nI (up1 (Mr i) 512)) v ct2 ∧ ct1 = va_up ct2 26 (LA cJ 1 (fun _ => v.toInt64))) ∨ (r5 = nI 1 ∧ (fun E ct1 => E = xIO ∧ ct1 = ct ∧ ¬ ir x 6) xIO ct1)) : mdX cJ ad p g c wd ct1 := by
  rcases h1 with ⟨-, v, ct2, ⟨rfl, -⟩, rfl⟩ | ⟨-, -, rfl, -⟩
  · exact mdX_far (by omega) Dm
  · exact Dm
theorem pu_length {cJ cQ : ClassId} {ad : Nat → Nat} {ct : Nat → va_E} {p g : Nat} {Mr Nw : Nat → Nat → Nat} {c wd : Nat → Nat} (S : stX cJ cQ ad p (wl p g) Mr Nw ct) (Dm : mdX cJ ad p g c wd ct) (Ho : ∃ o, ct 26 = LA cJ 1 o) (I : invN p g Mr Nw c wd) (x : Int32) {r5 : Int32} {ct1 : Nat → va_E} (h1 : (r5 = nI 0 ∧ ∃ v ct2, (fun r ct1 => ct1 = ct ∧ ∃ i, i < 6 ∧ x = nI i ∧ r = nI (up1 (Mr i) 512)) v ct2 ∧ ct1 = va_up ct2 26 (LA cJ 1 (fun _ => v.toInt64))) ∨ (r5 = nI 1 ∧ (fun E ct1 => E = xIO ∧ ct1 = ct ∧ ¬ ir x 6) xIO ct1)) {v6 : Int32} {ct2 : Nat → va_E} (h2 : (fun r ct2 => (¬ ir x 6 ∧ ct2 = va_up ct1 20 (obM (nI 1) p g ad)) ∨ (∃ i, i < 6 ∧ x = nI i ∧ r = nI (up1 (fun k => c (512 * i + k)) 512) ∧ ct2 = va_up ct1 20 (obM (nI 0) p g ad))) v6 ct2) : (∃ p' g', ct2 20 = obM r5 p' g' ad) ∧ (r5 = nI 0 → ∃ o : Nat → Int64, ct2 26 = LA cJ 1 o ∧ o 0 = (v6.toInt64)) ∧ inv cJ cQ ad ct2 := by
  rcases h1 with ⟨rfl, v, ct3, ⟨rfl, i, hi, rfl, rfl⟩, rfl⟩ | ⟨rfl, -, rfl, hno⟩
  · rcases h2 with ⟨h, -⟩ | ⟨i', hi', e1, rfl, rfl⟩
    · exact absurd ⟨i, hi, rfl⟩ h
    · have e3 := nI_inj6 (by omega) (by omega) e1
      subst e3
      rw [show up1 (fun k => c (512 * i + k)) 512 = up1 (Mr i) 512 from up1_congr (fun k hk => (I.2.1 i k hi hk).2)]
      obtain ⟨a, b, d⟩ := inv_0 (v := (nI (up1 (Mr i) 512)).toInt64) S Dm I
      exact ⟨a, fun _ => b, d⟩
  · rcases h2 with ⟨-, rfl⟩ | ⟨i', hi', e1, -, -⟩
    · obtain ⟨a, b⟩ := inv_k 1 S Dm Ho I
      exact ⟨a, fun h => absurd h n10, b⟩
    · exact absurd ⟨i', hi', e1⟩ hno
theorem pm_turn {cJ cQ : ClassId} {ad : Nat → Nat} {ct : Nat → va_E} {p g : Nat} {Mr Nw : Nat → Nat → Nat} {c wd : Nat → Nat} (S : stX cJ cQ ad p (wl p g) Mr Nw ct) (Dm : mdX cJ ad p g c wd ct) (Ho : ∃ o, ct 26 = LA cJ 1 o) (I : invN p g Mr Nw c wd) (x y b : Int32) {r5 : Int32} {ct1 : Nat → va_E} (h1 : (r5 = nI 0 ∧ (fun ct1 => ∃ i K, i < 6 ∧ K < 10 ∧ x = nI i ∧ y = nI (2 ^ K) ∧ ct1 = va_up ct (3 + i) (LN cJ 512 (if b = 0 then tf p (wl p g) K (Mr i) K else tb p (wl p g) K (Mr i)))) ct1) ∨ (r5 = nI 1 ∧ (fun E ct1 => ct1 = ct ∧ ((E = xIO ∧ ¬ ir x 6) ∨ (E = xIA ∧ ir x 6 ∧ ¬ pw2 y))) xIO ct1) ∨ (r5 = nI 2 ∧ (fun E ct1 => ct1 = ct ∧ ((E = xIO ∧ ¬ ir x 6) ∨ (E = xIA ∧ ir x 6 ∧ ¬ pw2 y))) xIA ct1)) : mdX cJ ad p g c wd ct1 := by
  rcases h1 with ⟨-, i, K, hi, -, -, -, rfl⟩ | ⟨-, rfl, -⟩ | ⟨-, rfl, -⟩
  · exact mdX_far (by omega) Dm
  · exact Dm
  · exact Dm
theorem pu_turn {cJ cQ : ClassId} {ad : Nat → Nat} {ct : Nat → va_E} {p g : Nat} {Mr Nw : Nat → Nat → Nat} {c wd : Nat → Nat} (S : stX cJ cQ ad p (wl p g) Mr Nw ct) (Dm : mdX cJ ad p g c wd ct) (Ho : ∃ o, ct 26 = LA cJ 1 o) (I : invN p g Mr Nw c wd) (x y b : Int32) {r5 : Int32} {ct1 : Nat → va_E} (h1 : (r5 = nI 0 ∧ (fun ct1 => ∃ i K, i < 6 ∧ K < 10 ∧ x = nI i ∧ y = nI (2 ^ K) ∧ ct1 = va_up ct (3 + i) (LN cJ 512 (if b = 0 then tf p (wl p g) K (Mr i) K else tb p (wl p g) K (Mr i)))) ct1) ∨ (r5 = nI 1 ∧ (fun E ct1 => ct1 = ct ∧ ((E = xIO ∧ ¬ ir x 6) ∨ (E = xIA ∧ ir x 6 ∧ ¬ pw2 y))) xIO ct1) ∨ (r5 = nI 2 ∧ (fun E ct1 => ct1 = ct ∧ ((E = xIO ∧ ¬ ir x 6) ∨ (E = xIA ∧ ir x 6 ∧ ¬ pw2 y))) xIA ct1)) {ct2 : Nat → va_E} (h2 : (fun ct2 => (¬ ir x 6 ∧ ct2 = va_up ct1 20 (obM (nI 1) p g ad)) ∨ (ir x 6 ∧ ¬ pw2 y ∧ ct2 = va_up ct1 20 (obM (nI 2) p g ad)) ∨ (∃ i K, i < 6 ∧ K < 10 ∧ x = nI i ∧ y = nI (2 ^ K) ∧ ∃ f24 f23, ct2 = va_up (va_up (va_up (va_up ct1 20 (obM (nI 0) p g ad)) 24 (LN cJ 512 f24)) 23 (LN cJ 512 f23)) 21 (LN cJ 3072 (fr 512 i (2 ^ K) (mtr p (2 ^ K) (if b = 0 then g ^ ((p - 1) / 2 ^ K) % p else (g ^ ((p - 1) / 2 ^ K) % p) ^ (p - 2) % p) (if b = 0 then 1 else (2 ^ K) ^ (p - 2) % p) (fun k => c (512 * i + k))) c)))) ct2) : (∃ p' g', ct2 20 = obM r5 p' g' ad) ∧ inv cJ cQ ad ct2 := by
  rcases h1 with ⟨rfl, i, K, hi, hK, rfl, rfl, rfl⟩ | ⟨rfl, rfl, ⟨-, hno⟩ | ⟨h, -⟩⟩ | ⟨rfl, rfl, ⟨h, -⟩ | ⟨-, hir, hno⟩⟩
  · rcases h2 with ⟨h, -⟩ | ⟨-, h, -⟩ | ⟨i', K', hi', hK', e1, e2, f24, f23, rfl⟩
    · exact absurd ⟨i, hi, rfl⟩ h
    · exact absurd ⟨K, hK, rfl⟩ h
    · have hn1 : 2 ^ K ≤ 512 := (show ∀ K, K < 10 → 2 ^ K ≤ 512 by decide) K hK
      have hn2 : 2 ^ K' ≤ 512 := (show ∀ K, K < 10 → 2 ^ K ≤ 512 by decide) K' hK'
      have e3 := nI_inj6 (by omega) (by omega) e1
      have e4 := (Nat.pow_right_inj (by decide)).mp (nI_inj6 (by omega) (by omega) e2)
      subst e3 e4
      have hp := pgk_lt I.1
      have hvp : ∀ k, k < 2 ^ K → Mr i k < p := fun k hk => (I.2.1 i k hi (by omega)).1
      have hcg : ∀ k, k < 2 ^ K → (fun k => c (512 * i + k)) k = Mr i k := fun k hk => (I.2.1 i k hi (by omega)).2
      refine ⟨⟨p, g, by rw [va_up_ne _ _ (by decide), va_up_ne _ _ (by decide), va_up_ne _ _ (by decide), va_up_self]⟩, p, g, rup Mr i (if b = 0 then tf p (wl p g) K (Mr i) K else tb p (wl p g) K (Mr i)), Nw, _, wd, stX_far (by decide) (stX_far (by decide) (stX_far (by decide) (stX_far (by decide) (stX_row hi _ S)))), mdX_21 _ (mdX_23 _ (mdX_24 _ (mdX_20 _ (mdX_far (by omega) Dm)))), by rw [va_up_ne _ _ (by decide), va_up_ne _ _ (by decide), va_up_ne _ _ (by decide), va_up_ne _ _ (by decide), va_up_ne _ _ (by omega)]; exact Ho, ?_⟩
      refine invN_row I (fun k hk => ?_) (fun k hk => ?_) (fun x hx => fr_out (by omega))
      · by_cases hb : b = 0
        · rw [if_pos hb]
          by_cases h : k < 2 ^ K
          · exact tf_lt (by omega) hvp K k h
          · rw [tf_far K k (by omega)]; exact (I.2.1 i k hi hk).1
        · rw [if_neg hb]
          by_cases h : k < 2 ^ K
          · exact tb_lt (by omega) h
          · rw [tb_far (by omega)]; exact (I.2.1 i k hi hk).1
      · by_cases h : k < 2 ^ K
        · rw [fr_in h, mtr_congr hcg]
          by_cases hb : b = 0
          · rw [if_pos hb, if_pos hb, if_pos hb, turn_fwd I.1 (by omega) hvp h]
          · rw [if_neg hb, if_neg hb, if_neg hb, turn_back I.1 (by omega) h]
        · rw [fr_out (by omega), (I.2.1 i k hi hk).2]
          by_cases hb : b = 0
          · rw [if_pos hb, tf_far K k (by omega)]
          · rw [if_neg hb, tb_far (by omega)]
  · rcases h2 with ⟨-, rfl⟩ | ⟨h, -⟩ | ⟨i', K', hi', -, e1, -⟩
    · exact inv_k 1 S Dm Ho I
    · exact absurd h hno
    · exact absurd ⟨i', hi', e1⟩ hno
  · exact absurd h (by decide)
  · exact absurd h (by decide)
  · rcases h2 with ⟨h, -⟩ | ⟨-, -, rfl⟩ | ⟨i', K', hi', hK', -, e2, -⟩
    · exact absurd hir h
    · exact inv_k 2 S Dm Ho I
    · exact absurd ⟨K', hK', e2⟩ hno
theorem pm_product {cJ cQ : ClassId} {ad : Nat → Nat} {ct : Nat → va_E} {p g : Nat} {Mr Nw : Nat → Nat → Nat} {c wd : Nat → Nat} (S : stX cJ cQ ad p (wl p g) Mr Nw ct) (Dm : mdX cJ ad p g c wd ct) (Ho : ∃ o, ct 26 = LA cJ 1 o) (I : invN p g Mr Nw c wd) (x y z : Int32) {r5 : Int32} {ct1 : Nat → va_E} (h1 : (r5 = nI 0 ∧ ∃ v ct2, (fun r ct1 => ∃ t i j, t < 6 ∧ i < 6 ∧ j < 6 ∧ x = nI t ∧ y = nI i ∧ z = nI j ∧ (((up1 (Mr i) 512 = 0 ∨ up1 (Mr j) 512 = 0) ∧ r = nI 0 ∧ ct1 = va_up ct (3 + t) (LN cJ 512 (fun _ => 0))) ∨ (up1 (Mr i) 512 ≠ 0 ∧ up1 (Mr j) 512 ≠ 0 ∧ r = nI (up1 (Mr i) 512 + up1 (Mr j) 512 - 1) ∧ ∃ K lf1 rt1, K ≤ 9 ∧ up1 (Mr i) 512 + up1 (Mr j) 512 - 1 ≤ 2 ^ K ∧ ct1 = va_up (va_up (va_up ct 17 (LN cJ 512 lf1)) 18 (LN cJ 512 rt1)) (3 + t) (LN cJ 512 (mr p (wl p g) K (Mr i) (Mr j)))))) v ct2 ∧ ct1 = va_up ct2 26 (LA cJ 1 (fun _ => v.toInt64))) ∨ (r5 = nI 1 ∧ (fun E ct1 => ct1 = ct ∧ ((E = xIO ∧ ¬ (ir x 6 ∧ ir y 6 ∧ ir z 6)) ∨ (E = xUO ∧ ∃ t i j, t < 6 ∧ i < 6 ∧ j < 6 ∧ x = nI t ∧ y = nI i ∧ z = nI j ∧ up1 (Mr i) 512 ≠ 0 ∧ up1 (Mr j) 512 ≠ 0 ∧ 512 < up1 (Mr i) 512 + up1 (Mr j) 512 - 1))) xIO ct1) ∨ (r5 = nI 2 ∧ (fun E ct1 => ct1 = ct ∧ ((E = xIO ∧ ¬ (ir x 6 ∧ ir y 6 ∧ ir z 6)) ∨ (E = xUO ∧ ∃ t i j, t < 6 ∧ i < 6 ∧ j < 6 ∧ x = nI t ∧ y = nI i ∧ z = nI j ∧ up1 (Mr i) 512 ≠ 0 ∧ up1 (Mr j) 512 ≠ 0 ∧ 512 < up1 (Mr i) 512 + up1 (Mr j) 512 - 1))) xUO ct1)) : mdX cJ ad p g c wd ct1 := by
  rcases h1 with ⟨-, v, ct2, ⟨t, i, j, ht, -, -, -, -, -, ⟨-, -, rfl⟩ | ⟨-, -, -, K, lf, rt, -, -, rfl⟩⟩, rfl⟩ | ⟨-, rfl, -⟩ | ⟨-, rfl, -⟩
  · exact mdX_far (by omega) (mdX_far (by omega) Dm)
  · exact mdX_far (by omega) (mdX_far (by omega) (mdX_far (by omega) (mdX_far (by omega) Dm)))
  · exact Dm
  · exact Dm
theorem pu_product {cJ cQ : ClassId} {ad : Nat → Nat} {ct : Nat → va_E} {p g : Nat} {Mr Nw : Nat → Nat → Nat} {c wd : Nat → Nat} (S : stX cJ cQ ad p (wl p g) Mr Nw ct) (Dm : mdX cJ ad p g c wd ct) (Ho : ∃ o, ct 26 = LA cJ 1 o) (I : invN p g Mr Nw c wd) (x y z : Int32) {r5 : Int32} {ct1 : Nat → va_E} (h1 : (r5 = nI 0 ∧ ∃ v ct2, (fun r ct1 => ∃ t i j, t < 6 ∧ i < 6 ∧ j < 6 ∧ x = nI t ∧ y = nI i ∧ z = nI j ∧ (((up1 (Mr i) 512 = 0 ∨ up1 (Mr j) 512 = 0) ∧ r = nI 0 ∧ ct1 = va_up ct (3 + t) (LN cJ 512 (fun _ => 0))) ∨ (up1 (Mr i) 512 ≠ 0 ∧ up1 (Mr j) 512 ≠ 0 ∧ r = nI (up1 (Mr i) 512 + up1 (Mr j) 512 - 1) ∧ ∃ K lf1 rt1, K ≤ 9 ∧ up1 (Mr i) 512 + up1 (Mr j) 512 - 1 ≤ 2 ^ K ∧ ct1 = va_up (va_up (va_up ct 17 (LN cJ 512 lf1)) 18 (LN cJ 512 rt1)) (3 + t) (LN cJ 512 (mr p (wl p g) K (Mr i) (Mr j)))))) v ct2 ∧ ct1 = va_up ct2 26 (LA cJ 1 (fun _ => v.toInt64))) ∨ (r5 = nI 1 ∧ (fun E ct1 => ct1 = ct ∧ ((E = xIO ∧ ¬ (ir x 6 ∧ ir y 6 ∧ ir z 6)) ∨ (E = xUO ∧ ∃ t i j, t < 6 ∧ i < 6 ∧ j < 6 ∧ x = nI t ∧ y = nI i ∧ z = nI j ∧ up1 (Mr i) 512 ≠ 0 ∧ up1 (Mr j) 512 ≠ 0 ∧ 512 < up1 (Mr i) 512 + up1 (Mr j) 512 - 1))) xIO ct1) ∨ (r5 = nI 2 ∧ (fun E ct1 => ct1 = ct ∧ ((E = xIO ∧ ¬ (ir x 6 ∧ ir y 6 ∧ ir z 6)) ∨ (E = xUO ∧ ∃ t i j, t < 6 ∧ i < 6 ∧ j < 6 ∧ x = nI t ∧ y = nI i ∧ z = nI j ∧ up1 (Mr i) 512 ≠ 0 ∧ up1 (Mr j) 512 ≠ 0 ∧ 512 < up1 (Mr i) 512 + up1 (Mr j) 512 - 1))) xUO ct1)) {v6 : Int32} {ct2 : Nat → va_E} (h2 : (fun r ct2 => (¬ (ir x 6 ∧ ir y 6 ∧ ir z 6) ∧ ct2 = va_up ct1 20 (obM (nI 1) p g ad)) ∨ (∃ t i j, t < 6 ∧ i < 6 ∧ j < 6 ∧ x = nI t ∧ y = nI i ∧ z = nI j ∧ ((up1 (fun k => c (512 * i + k)) 512 ≠ 0 ∧ up1 (fun k => c (512 * j + k)) 512 ≠ 0 ∧ 512 < up1 (fun k => c (512 * i + k)) 512 + up1 (fun k => c (512 * j + k)) 512 - 1 ∧ ct2 = va_up ct1 20 (obM (nI 2) p g ad)) ∨ ((up1 (fun k => c (512 * i + k)) 512 = 0 ∨ up1 (fun k => c (512 * j + k)) 512 = 0 ∨ up1 (fun k => c (512 * i + k)) 512 + up1 (fun k => c (512 * j + k)) 512 - 1 ≤ 512) ∧ r = nI (up1 (cvo p (fun k => c (512 * i + k)) (fun k => c (512 * j + k)) (up1 (fun k => c (512 * j + k)) 512) (up1 (fun k => c (512 * i + k)) 512)) 512) ∧ ct2 = va_up (va_up (va_up ct1 20 (obM (nI 0) p g ad)) 23 (LN cJ 512 (cvo p (fun k => c (512 * i + k)) (fun k => c (512 * j + k)) (up1 (fun k => c (512 * j + k)) 512) (up1 (fun k => c (512 * i + k)) 512)))) 21 (LN cJ 3072 (fr 512 t 512 (cvo p (fun k => c (512 * i + k)) (fun k => c (512 * j + k)) (up1 (fun k => c (512 * j + k)) 512) (up1 (fun k => c (512 * i + k)) 512)) c)))))) v6 ct2) : (∃ p' g', ct2 20 = obM r5 p' g' ad) ∧ (r5 = nI 0 → ∃ o : Nat → Int64, ct2 26 = LA cJ 1 o ∧ o 0 = (v6.toInt64)) ∧ inv cJ cQ ad ct2 := by
  have hrow : ∀ i, i < 6 → ∀ k, k < 512 → (fun k => c (512 * i + k)) k = Mr i k := fun i hi k hk => (I.2.1 i k hi hk).2
  have hup : ∀ i, i < 6 → up1 (fun k => c (512 * i + k)) 512 = up1 (Mr i) 512 := fun i hi => up1_congr (hrow i hi)
  have hcv : ∀ i j, i < 6 → j < 6 → cvo p (fun k => c (512 * i + k)) (fun k => c (512 * j + k)) (up1 (Mr j) 512) (up1 (Mr i) 512) = cvo p (Mr i) (Mr j) (up1 (Mr j) 512) (up1 (Mr i) 512) := fun i j hi hj => cvo_congr (fun k hk => hrow j hj k (Nat.lt_of_lt_of_le hk (up1_le _ _))) _ (fun k hk => hrow i hi k (Nat.lt_of_lt_of_le hk (up1_le _ _)))
  have hp := pgk_lt I.1
  rcases h1 with ⟨rfl, v, ct3, ⟨t, i, j, ht, hi, hj, rfl, rfl, rfl, hcase⟩, rfl⟩ | ⟨rfl, rfl, ⟨-, hno⟩ | ⟨h, -⟩⟩ | ⟨rfl, rfl, ⟨h, -⟩ | ⟨-, t, i, j, ht, hi, hj, rfl, rfl, rfl, q1, q2, q3⟩⟩
  · rcases h2 with ⟨h, -⟩ | ⟨t', i', j', ht', hi', hj', e1, e2, e3, hc2⟩
    · exact absurd ⟨⟨t, ht, rfl⟩, ⟨i, hi, rfl⟩, ⟨j, hj, rfl⟩⟩ h
    · have e4 := nI_inj6 (by omega) (by omega) e1
      have e5 := nI_inj6 (by omega) (by omega) e2
      have e6 := nI_inj6 (by omega) (by omega) e3
      subst e4 e5 e6
      rw [hup i hi, hup j hj, hcv i j hi hj] at hc2
      -- what the class holds then
      obtain ⟨hv, S3, D3, o3⟩ : v = nI (up1 (cvo p (Mr i) (Mr j) (up1 (Mr j) 512) (up1 (Mr i) 512)) 512) ∧ stX cJ cQ ad p (wl p g) (rup Mr t (cvo p (Mr i) (Mr j) (up1 (Mr j) 512) (up1 (Mr i) 512))) Nw ct3 ∧ mdX cJ ad p g c wd ct3 ∧ (up1 (Mr i) 512 = 0 ∨ up1 (Mr j) 512 = 0 ∨ up1 (Mr i) 512 + up1 (Mr j) 512 - 1 ≤ 512) := by
        rcases hcase with ⟨hz, rfl, rfl⟩ | ⟨q1, q2, rfl, K, lf, rt, hK, hle, rfl⟩
        · have hcz : cvo p (Mr i) (Mr j) (up1 (Mr j) 512) (up1 (Mr i) 512) = fun _ => 0 := by
            rcases hz with h | h
            · rw [h]; rfl
            · rw [h]; exact cvo_0 _
          rw [hcz, up1_0]
          refine ⟨rfl, stX_row ht _ S, mdX_far (by omega) Dm, ?_⟩
          rcases hz with h | h
          · exact Or.inl h
          · exact Or.inr (Or.inl h)
        · have h512 : 2 ^ K ≤ 512 := (show ∀ K, K < 10 → 2 ^ K ≤ 512 by decide) K (by omega)
          have hmr := prod_eq I.1 hK (a := Mr i) (b := Mr j) (la := up1 (Mr i) 512) (lb := up1 (Mr j) 512) (fun k hk h9 => up1_z (Mr i) 512 k h9 (by omega)) (fun k hk h9 => up1_z (Mr j) 512 k h9 (by omega)) (by omega) (by omega) hle
          have hla := up1_le (Mr i) 512
          have hlb := up1_le (Mr j) 512
          have hlen := prod_len I.1 (a := Mr i) (b := Mr j) (la := up1 (Mr i) 512) (lb := up1 (Mr j) 512) (by omega) (by omega) (up1_nz (Mr i) 512 q1) (up1_nz (Mr j) 512 q2) (I.2.1 i _ hi (by omega)).1 (I.2.1 j _ hj (by omega)).1 (n := 512) (by omega)
          rw [hmr, hlen]
          exact ⟨rfl, stX_row ht _ (stX_18 _ (stX_17 _ S)), mdX_far (by omega) (mdX_far (by omega) (mdX_far (by omega) Dm)), Or.inr (Or.inr (by omega))⟩
      rcases hc2 with ⟨n1, n2, n3, -⟩ | ⟨-, rfl, rfl⟩
      · omega
      · subst hv
        refine ⟨⟨p, g, by rw [va_up_ne _ _ (by decide), va_up_ne _ _ (by decide), va_up_self]⟩, fun _ => ⟨_, by rw [va_up_ne _ _ (by decide), va_up_ne _ _ (by decide), va_up_ne _ _ (by decide), va_up_self], rfl⟩, p, g, _, Nw, _, wd, stX_far (by decide) (stX_far (by decide) (stX_far (by decide) (stX_far (by decide) S3))), mdX_21 _ (mdX_23 _ (mdX_20 _ (mdX_far (by omega) D3))), ⟨_, by rw [va_up_ne _ _ (by decide), va_up_ne _ _ (by decide), va_up_ne _ _ (by decide), va_up_self]⟩, ?_⟩
        exact invN_row I (fun k hk => cvo_lt (by omega) _ k) (fun k hk => fr_in hk) (fun x hx => fr_out (by omega))
  · rcases h2 with ⟨-, rfl⟩ | ⟨t', i', j', ht', hi', hj', e1, e2, e3, -⟩
    · obtain ⟨a, b⟩ := inv_k 1 S Dm Ho I
      exact ⟨a, fun h => absurd h n10, b⟩
    · exact absurd ⟨⟨t', ht', e1⟩, ⟨i', hi', e2⟩, ⟨j', hj', e3⟩⟩ hno
  · exact absurd h (by decide)
  · exact absurd h (by decide)
  · rcases h2 with ⟨h, -⟩ | ⟨t', i', j', ht', hi', hj', e1, e2, e3, hc2⟩
    · exact absurd ⟨⟨t, ht, rfl⟩, ⟨i, hi, rfl⟩, ⟨j, hj, rfl⟩⟩ h
    · have e4 := nI_inj6 (by omega) (by omega) e1
      have e5 := nI_inj6 (by omega) (by omega) e2
      have e6 := nI_inj6 (by omega) (by omega) e3
      subst e4 e5 e6
      rw [hup i hi, hup j hj] at hc2
      rcases hc2 with ⟨-, -, -, rfl⟩ | ⟨hn, -⟩
      · obtain ⟨a, b⟩ := inv_k 2 S Dm Ho I
        exact ⟨a, fun h => absurd h n20, b⟩
      · omega
theorem pm_at {cJ cQ : ClassId} {ad : Nat → Nat} {ct : Nat → va_E} {p g : Nat} {Mr Nw : Nat → Nat → Nat} {c wd : Nat → Nat} (S : stX cJ cQ ad p (wl p g) Mr Nw ct) (Dm : mdX cJ ad p g c wd ct) (Ho : ∃ o, ct 26 = LA cJ 1 o) (I : invN p g Mr Nw c wd) (x : Int32) (z : Int64) {r5 : Int32} {ct1 : Nat → va_E} (h1 : (r5 = nI 0 ∧ ∃ v ct2, (fun r ct1 => ct1 = ct ∧ ∃ i, i < 6 ∧ x = nI i ∧ r = lN (hrn p (Mr i) (fm p z) 512)) v ct2 ∧ ct1 = va_up ct2 26 (LA cJ 1 (fun _ => v))) ∨ (r5 = nI 1 ∧ (fun E ct1 => E = xIO ∧ ct1 = ct ∧ ¬ ir x 6) xIO ct1)) : mdX cJ ad p g c wd ct1 := by
  rcases h1 with ⟨-, v, ct2, ⟨rfl, -⟩, rfl⟩ | ⟨-, -, rfl, -⟩
  · exact mdX_far (by omega) Dm
  · exact Dm
theorem pu_at {cJ cQ : ClassId} {ad : Nat → Nat} {ct : Nat → va_E} {p g : Nat} {Mr Nw : Nat → Nat → Nat} {c wd : Nat → Nat} (S : stX cJ cQ ad p (wl p g) Mr Nw ct) (Dm : mdX cJ ad p g c wd ct) (Ho : ∃ o, ct 26 = LA cJ 1 o) (I : invN p g Mr Nw c wd) (x : Int32) (z : Int64) {r5 : Int32} {ct1 : Nat → va_E} (h1 : (r5 = nI 0 ∧ ∃ v ct2, (fun r ct1 => ct1 = ct ∧ ∃ i, i < 6 ∧ x = nI i ∧ r = lN (hrn p (Mr i) (fm p z) 512)) v ct2 ∧ ct1 = va_up ct2 26 (LA cJ 1 (fun _ => v))) ∨ (r5 = nI 1 ∧ (fun E ct1 => E = xIO ∧ ct1 = ct ∧ ¬ ir x 6) xIO ct1)) {v6 : Int64} {ct2 : Nat → va_E} (h2 : (fun r ct2 => (¬ ir x 6 ∧ ct2 = va_up ct1 20 (obM (nI 1) p g ad)) ∨ (∃ i, i < 6 ∧ x = nI i ∧ r = lN (hrn p (fun k => c (512 * i + k)) (fm p z) 512) ∧ ct2 = va_up ct1 20 (obM (nI 0) p g ad))) v6 ct2) : (∃ p' g', ct2 20 = obM r5 p' g' ad) ∧ (r5 = nI 0 → ∃ o : Nat → Int64, ct2 26 = LA cJ 1 o ∧ o 0 = (v6)) ∧ inv cJ cQ ad ct2 := by
  rcases h1 with ⟨rfl, v, ct3, ⟨rfl, i, hi, rfl, rfl⟩, rfl⟩ | ⟨rfl, -, rfl, hno⟩
  · rcases h2 with ⟨h, -⟩ | ⟨i', hi', e1, rfl, rfl⟩
    · exact absurd ⟨i, hi, rfl⟩ h
    · have e3 := nI_inj6 (by omega) (by omega) e1
      subst e3
      rw [show hrn p (fun k => c (512 * i + k)) (fm p z) 512 = hrn p (Mr i) (fm p z) 512 from hra_cg 512 _ (fun k hk => (I.2.1 i k hi hk).2)]
      obtain ⟨a, b, d⟩ := inv_0 (v := lN (hrn p (Mr i) (fm p z) 512)) S Dm I
      exact ⟨a, fun _ => b, d⟩
  · rcases h2 with ⟨-, rfl⟩ | ⟨i', hi', e1, -, -⟩
    · obtain ⟨a, b⟩ := inv_k 1 S Dm Ho I
      exact ⟨a, fun h => absurd h n10, b⟩
    · exact absurd ⟨i', hi', e1⟩ hno
theorem pm_word {cJ cQ : ClassId} {ad : Nat → Nat} {ct : Nat → va_E} {p g : Nat} {Mr Nw : Nat → Nat → Nat} {c wd : Nat → Nat} (S : stX cJ cQ ad p (wl p g) Mr Nw ct) (Dm : mdX cJ ad p g c wd ct) (Ho : ∃ o, ct 26 = LA cJ 1 o) (I : invN p g Mr Nw c wd) (x y : Int32) (z : Int64) {r5 : Int32} {ct1 : Nat → va_E} (h1 : (r5 = nI 0 ∧ ∃ v ct2, (fun r ct1 => ∃ i k, i < 6 ∧ k < 240 ∧ x = nI i ∧ y = nI k ∧ r = nI (if Nw i k = mk32 z then 0 else 1) ∧ ct1 = va_up ct (10 + i) (LN cJ 240 (nu (Nw i) k (mk32 z)))) v ct2 ∧ ct1 = va_up ct2 26 (LA cJ 1 (fun _ => if v = 0 then lN 0 else lN 1))) ∨ (r5 = nI 1 ∧ (fun E ct1 => E = xIO ∧ ct1 = ct ∧ ¬ (ir x 6 ∧ ir y 240)) xIO ct1)) : mdX cJ ad p g c wd ct1 := by
  rcases h1 with ⟨-, v, ct2, ⟨i, k, hi, -, -, -, -, rfl⟩, rfl⟩ | ⟨-, -, rfl, -⟩
  · exact mdX_far (by omega) (mdX_far (by omega) Dm)
  · exact Dm
theorem pu_word {cJ cQ : ClassId} {ad : Nat → Nat} {ct : Nat → va_E} {p g : Nat} {Mr Nw : Nat → Nat → Nat} {c wd : Nat → Nat} (S : stX cJ cQ ad p (wl p g) Mr Nw ct) (Dm : mdX cJ ad p g c wd ct) (Ho : ∃ o, ct 26 = LA cJ 1 o) (I : invN p g Mr Nw c wd) (x y : Int32) (z : Int64) {r5 : Int32} {ct1 : Nat → va_E} (h1 : (r5 = nI 0 ∧ ∃ v ct2, (fun r ct1 => ∃ i k, i < 6 ∧ k < 240 ∧ x = nI i ∧ y = nI k ∧ r = nI (if Nw i k = mk32 z then 0 else 1) ∧ ct1 = va_up ct (10 + i) (LN cJ 240 (nu (Nw i) k (mk32 z)))) v ct2 ∧ ct1 = va_up ct2 26 (LA cJ 1 (fun _ => if v = 0 then lN 0 else lN 1))) ∨ (r5 = nI 1 ∧ (fun E ct1 => E = xIO ∧ ct1 = ct ∧ ¬ (ir x 6 ∧ ir y 240)) xIO ct1)) {v6 : Int32} {ct2 : Nat → va_E} (h2 : (fun r ct2 => (¬ (ir x 6 ∧ ir y 240) ∧ ct2 = va_up ct1 20 (obM (nI 1) p g ad)) ∨ (∃ i k, i < 6 ∧ k < 240 ∧ x = nI i ∧ y = nI k ∧ r = nI (if wd (240 * i + k) = mk32 z then 0 else 1) ∧ ct2 = va_up (va_up ct1 20 (obM (nI 0) p g ad)) 22 (LN cJ 1440 (nu wd (240 * i + k) (mk32 z))))) v6 ct2) : (∃ p' g', ct2 20 = obM r5 p' g' ad) ∧ (r5 = nI 0 → ∃ o : Nat → Int64, ct2 26 = LA cJ 1 o ∧ o 0 = (if v6 = 0 then lN 0 else lN 1)) ∧ inv cJ cQ ad ct2 := by
  rcases h1 with ⟨rfl, v, ct3, ⟨i, k, hi, hk, rfl, rfl, rfl, rfl⟩, rfl⟩ | ⟨rfl, -, rfl, hno⟩
  · rcases h2 with ⟨h, -⟩ | ⟨i', k', hi', hk', e1, e2, rfl, rfl⟩
    · exact absurd ⟨⟨i, hi, rfl⟩, ⟨k, hk, rfl⟩⟩ h
    · have e3 := nI_inj6 (by omega) (by omega) e1
      have e4 := nI_inj6 (by omega) (by omega) e2
      subst e3 e4
      rw [I.2.2.2 i k hi hk]
      refine ⟨⟨p, g, by rw [va_up_ne _ _ (by decide), va_up_self]⟩, fun _ => ⟨_, by rw [va_up_ne _ _ (by decide), va_up_ne _ _ (by decide), va_up_self], rfl⟩, p, g, Mr, rup Nw i (nu (Nw i) k (mk32 z)), c, nu wd (240 * i + k) (mk32 z), stX_far (by decide) (stX_far (by decide) (stX_far (by decide) (stX_nat hi _ S))), mdX_22 _ (mdX_20 _ (mdX_far (by omega) (mdX_far (by omega) Dm))), ⟨_, by rw [va_up_ne _ _ (by decide), va_up_ne _ _ (by decide), va_up_self]⟩, ?_⟩
      refine invN_nat I (fun j => ?_) (fun j hj => ?_) (fun x hx => ?_)
      · unfold nu
        split
        · exact (by unfold mk32; exact Nat.mod_lt _ (by decide))
        · exact I.2.2.1 i j hi
      · unfold nu
        by_cases e : j = k
        · rw [if_pos (by omega), if_pos e]
        · rw [if_neg (by omega), if_neg e]; exact I.2.2.2 i j hi hj
      · exact nu_n _ _ (by omega)
  · rcases h2 with ⟨-, rfl⟩ | ⟨i', k', hi', hk', e1, e2, -, -⟩
    · obtain ⟨a, b⟩ := inv_k 1 S Dm Ho I
      exact ⟨a, fun h => absurd h n10, b⟩
    · exact absurd ⟨⟨i', hi', e1⟩, ⟨k', hk', e2⟩⟩ hno
theorem pm_wordAt {cJ cQ : ClassId} {ad : Nat → Nat} {ct : Nat → va_E} {p g : Nat} {Mr Nw : Nat → Nat → Nat} {c wd : Nat → Nat} (S : stX cJ cQ ad p (wl p g) Mr Nw ct) (Dm : mdX cJ ad p g c wd ct) (Ho : ∃ o, ct 26 = LA cJ 1 o) (I : invN p g Mr Nw c wd) (x y : Int32) {r5 : Int32} {ct1 : Nat → va_E} (h1 : (r5 = nI 0 ∧ ∃ v ct2, (fun r ct1 => ct1 = ct ∧ ∃ i k, i < 6 ∧ k < 240 ∧ x = nI i ∧ y = nI k ∧ r = lN (Nw i k)) v ct2 ∧ ct1 = va_up ct2 26 (LA cJ 1 (fun _ => v))) ∨ (r5 = nI 1 ∧ (fun E ct1 => E = xIO ∧ ct1 = ct ∧ ¬ (ir x 6 ∧ ir y 240)) xIO ct1)) : mdX cJ ad p g c wd ct1 := by
  rcases h1 with ⟨-, v, ct2, ⟨rfl, -⟩, rfl⟩ | ⟨-, -, rfl, -⟩
  · exact mdX_far (by omega) Dm
  · exact Dm
theorem pu_wordAt {cJ cQ : ClassId} {ad : Nat → Nat} {ct : Nat → va_E} {p g : Nat} {Mr Nw : Nat → Nat → Nat} {c wd : Nat → Nat} (S : stX cJ cQ ad p (wl p g) Mr Nw ct) (Dm : mdX cJ ad p g c wd ct) (Ho : ∃ o, ct 26 = LA cJ 1 o) (I : invN p g Mr Nw c wd) (x y : Int32) {r5 : Int32} {ct1 : Nat → va_E} (h1 : (r5 = nI 0 ∧ ∃ v ct2, (fun r ct1 => ct1 = ct ∧ ∃ i k, i < 6 ∧ k < 240 ∧ x = nI i ∧ y = nI k ∧ r = lN (Nw i k)) v ct2 ∧ ct1 = va_up ct2 26 (LA cJ 1 (fun _ => v))) ∨ (r5 = nI 1 ∧ (fun E ct1 => E = xIO ∧ ct1 = ct ∧ ¬ (ir x 6 ∧ ir y 240)) xIO ct1)) {v6 : Int64} {ct2 : Nat → va_E} (h2 : (fun r ct2 => (¬ (ir x 6 ∧ ir y 240) ∧ ct2 = va_up ct1 20 (obM (nI 1) p g ad)) ∨ (∃ i k, i < 6 ∧ k < 240 ∧ x = nI i ∧ y = nI k ∧ r = lN (wd (240 * i + k)) ∧ ct2 = va_up ct1 20 (obM (nI 0) p g ad))) v6 ct2) : (∃ p' g', ct2 20 = obM r5 p' g' ad) ∧ (r5 = nI 0 → ∃ o : Nat → Int64, ct2 26 = LA cJ 1 o ∧ o 0 = (v6)) ∧ inv cJ cQ ad ct2 := by
  rcases h1 with ⟨rfl, v, ct3, ⟨rfl, i, k, hi, hk, rfl, rfl, rfl⟩, rfl⟩ | ⟨rfl, -, rfl, hno⟩
  · rcases h2 with ⟨h, -⟩ | ⟨i', k', hi', hk', e1, e2, rfl, rfl⟩
    · exact absurd ⟨⟨i, hi, rfl⟩, ⟨k, hk, rfl⟩⟩ h
    · have e3 := nI_inj6 (by omega) (by omega) e1
      have e4 := nI_inj6 (by omega) (by omega) e2
      subst e3 e4
      rw [I.2.2.2 i k hi hk]
      obtain ⟨a, b, d⟩ := inv_0 (v := lN (Nw i k)) S Dm I
      exact ⟨a, fun _ => b, d⟩
  · rcases h2 with ⟨-, rfl⟩ | ⟨i', k', hi', hk', e1, e2, -, -⟩
    · obtain ⟨a, b⟩ := inv_k 1 S Dm Ho I
      exact ⟨a, fun h => absurd h n10, b⟩
    · exact absurd ⟨⟨i', hi', e1⟩, ⟨k', hk', e2⟩⟩ hno
theorem pm_size {cJ cQ : ClassId} {ad : Nat → Nat} {ct : Nat → va_E} {p g : Nat} {Mr Nw : Nat → Nat → Nat} {c wd : Nat → Nat} (S : stX cJ cQ ad p (wl p g) Mr Nw ct) (Dm : mdX cJ ad p g c wd ct) (Ho : ∃ o, ct 26 = LA cJ 1 o) (I : invN p g Mr Nw c wd) (x : Int32) {r5 : Int32} {ct1 : Nat → va_E} (h1 : (r5 = nI 0 ∧ ∃ v ct2, (fun r ct1 => ct1 = ct ∧ ∃ i, i < 6 ∧ x = nI i ∧ r = nI (up1 (Nw i) 240)) v ct2 ∧ ct1 = va_up ct2 26 (LA cJ 1 (fun _ => v.toInt64))) ∨ (r5 = nI 1 ∧ (fun E ct1 => E = xIO ∧ ct1 = ct ∧ ¬ ir x 6) xIO ct1)) : mdX cJ ad p g c wd ct1 := by
  rcases h1 with ⟨-, v, ct2, ⟨rfl, -⟩, rfl⟩ | ⟨-, -, rfl, -⟩
  · exact mdX_far (by omega) Dm
  · exact Dm
theorem pu_size {cJ cQ : ClassId} {ad : Nat → Nat} {ct : Nat → va_E} {p g : Nat} {Mr Nw : Nat → Nat → Nat} {c wd : Nat → Nat} (S : stX cJ cQ ad p (wl p g) Mr Nw ct) (Dm : mdX cJ ad p g c wd ct) (Ho : ∃ o, ct 26 = LA cJ 1 o) (I : invN p g Mr Nw c wd) (x : Int32) {r5 : Int32} {ct1 : Nat → va_E} (h1 : (r5 = nI 0 ∧ ∃ v ct2, (fun r ct1 => ct1 = ct ∧ ∃ i, i < 6 ∧ x = nI i ∧ r = nI (up1 (Nw i) 240)) v ct2 ∧ ct1 = va_up ct2 26 (LA cJ 1 (fun _ => v.toInt64))) ∨ (r5 = nI 1 ∧ (fun E ct1 => E = xIO ∧ ct1 = ct ∧ ¬ ir x 6) xIO ct1)) {v6 : Int32} {ct2 : Nat → va_E} (h2 : (fun r ct2 => (¬ ir x 6 ∧ ct2 = va_up ct1 20 (obM (nI 1) p g ad)) ∨ (∃ i, i < 6 ∧ x = nI i ∧ r = nI (up1 (fun k => wd (240 * i + k)) 240) ∧ ct2 = va_up ct1 20 (obM (nI 0) p g ad))) v6 ct2) : (∃ p' g', ct2 20 = obM r5 p' g' ad) ∧ (r5 = nI 0 → ∃ o : Nat → Int64, ct2 26 = LA cJ 1 o ∧ o 0 = (v6.toInt64)) ∧ inv cJ cQ ad ct2 := by
  rcases h1 with ⟨rfl, v, ct3, ⟨rfl, i, hi, rfl, rfl⟩, rfl⟩ | ⟨rfl, -, rfl, hno⟩
  · rcases h2 with ⟨h, -⟩ | ⟨i', hi', e1, rfl, rfl⟩
    · exact absurd ⟨i, hi, rfl⟩ h
    · have e3 := nI_inj6 (by omega) (by omega) e1
      subst e3
      rw [show up1 (fun k => wd (240 * i + k)) 240 = up1 (Nw i) 240 from up1_congr (fun k hk => I.2.2.2 i k hi hk)]
      obtain ⟨a, b, d⟩ := inv_0 (v := (nI (up1 (Nw i) 240)).toInt64) S Dm I
      exact ⟨a, fun _ => b, d⟩
  · rcases h2 with ⟨-, rfl⟩ | ⟨i', hi', e1, -, -⟩
    · obtain ⟨a, b⟩ := inv_k 1 S Dm Ho I
      exact ⟨a, fun h => absurd h n10, b⟩
    · exact absurd ⟨i', hi', e1⟩ hno
theorem pm_multiply {cJ cQ : ClassId} {ad : Nat → Nat} {ct : Nat → va_E} {p g : Nat} {Mr Nw : Nat → Nat → Nat} {c wd : Nat → Nat} (S : stX cJ cQ ad p (wl p g) Mr Nw ct) (Dm : mdX cJ ad p g c wd ct) (Ho : ∃ o, ct 26 = LA cJ 1 o) (I : invN p g Mr Nw c wd) (x y z : Int32) {r5 : Int32} {ct1 : Nat → va_E} (h1 : (r5 = nI 0 ∧ ∃ v ct2, (fun r ct1 => ∃ t i j, t < 6 ∧ i < 6 ∧ j < 6 ∧ x = nI t ∧ y = nI i ∧ z = nI j ∧ (((up1 (Nw i) 240 = 0 ∨ up1 (Nw j) 240 = 0) ∧ r = nI 0 ∧ ct1 = va_up ct (10 + t) (LN cJ 240 (fun _ => 0))) ∨ (up1 (Nw i) 240 ≠ 0 ∧ up1 (Nw j) 240 ≠ 0 ∧ up1 (Nw i) 240 + up1 (Nw j) 240 ≤ 240 ∧ r = nI (up1 (mo (Nw i) (Nw j) (up1 (Nw j) 240) (up1 (Nw i) 240)) 240) ∧ ct1 = va_up (va_up ct 19 (LN cJ 240 (mo (Nw i) (Nw j) (up1 (Nw j) 240) (up1 (Nw i) 240)))) (10 + t) (LN cJ 240 (mo (Nw i) (Nw j) (up1 (Nw j) 240) (up1 (Nw i) 240)))))) v ct2 ∧ ct1 = va_up ct2 26 (LA cJ 1 (fun _ => v.toInt64))) ∨ (r5 = nI 1 ∧ (fun E ct1 => ct1 = ct ∧ ((E = xIO ∧ ¬ (ir x 6 ∧ ir y 6 ∧ ir z 6)) ∨ (E = xUO ∧ ∃ t i j, t < 6 ∧ i < 6 ∧ j < 6 ∧ x = nI t ∧ y = nI i ∧ z = nI j ∧ up1 (Nw i) 240 ≠ 0 ∧ up1 (Nw j) 240 ≠ 0 ∧ 240 < up1 (Nw i) 240 + up1 (Nw j) 240))) xIO ct1) ∨ (r5 = nI 2 ∧ (fun E ct1 => ct1 = ct ∧ ((E = xIO ∧ ¬ (ir x 6 ∧ ir y 6 ∧ ir z 6)) ∨ (E = xUO ∧ ∃ t i j, t < 6 ∧ i < 6 ∧ j < 6 ∧ x = nI t ∧ y = nI i ∧ z = nI j ∧ up1 (Nw i) 240 ≠ 0 ∧ up1 (Nw j) 240 ≠ 0 ∧ 240 < up1 (Nw i) 240 + up1 (Nw j) 240))) xUO ct1)) : mdX cJ ad p g c wd ct1 := by
  rcases h1 with ⟨-, v, ct2, ⟨t, i, j, ht, -, -, -, -, -, ⟨-, -, rfl⟩ | ⟨-, -, -, -, rfl⟩⟩, rfl⟩ | ⟨-, rfl, -⟩ | ⟨-, rfl, -⟩
  · exact mdX_far (by omega) (mdX_far (by omega) Dm)
  · exact mdX_far (by omega) (mdX_far (by omega) (mdX_far (by omega) Dm))
  · exact Dm
  · exact Dm
theorem pu_multiply {cJ cQ : ClassId} {ad : Nat → Nat} {ct : Nat → va_E} {p g : Nat} {Mr Nw : Nat → Nat → Nat} {c wd : Nat → Nat} (S : stX cJ cQ ad p (wl p g) Mr Nw ct) (Dm : mdX cJ ad p g c wd ct) (Ho : ∃ o, ct 26 = LA cJ 1 o) (I : invN p g Mr Nw c wd) (x y z : Int32) {r5 : Int32} {ct1 : Nat → va_E} (h1 : (r5 = nI 0 ∧ ∃ v ct2, (fun r ct1 => ∃ t i j, t < 6 ∧ i < 6 ∧ j < 6 ∧ x = nI t ∧ y = nI i ∧ z = nI j ∧ (((up1 (Nw i) 240 = 0 ∨ up1 (Nw j) 240 = 0) ∧ r = nI 0 ∧ ct1 = va_up ct (10 + t) (LN cJ 240 (fun _ => 0))) ∨ (up1 (Nw i) 240 ≠ 0 ∧ up1 (Nw j) 240 ≠ 0 ∧ up1 (Nw i) 240 + up1 (Nw j) 240 ≤ 240 ∧ r = nI (up1 (mo (Nw i) (Nw j) (up1 (Nw j) 240) (up1 (Nw i) 240)) 240) ∧ ct1 = va_up (va_up ct 19 (LN cJ 240 (mo (Nw i) (Nw j) (up1 (Nw j) 240) (up1 (Nw i) 240)))) (10 + t) (LN cJ 240 (mo (Nw i) (Nw j) (up1 (Nw j) 240) (up1 (Nw i) 240)))))) v ct2 ∧ ct1 = va_up ct2 26 (LA cJ 1 (fun _ => v.toInt64))) ∨ (r5 = nI 1 ∧ (fun E ct1 => ct1 = ct ∧ ((E = xIO ∧ ¬ (ir x 6 ∧ ir y 6 ∧ ir z 6)) ∨ (E = xUO ∧ ∃ t i j, t < 6 ∧ i < 6 ∧ j < 6 ∧ x = nI t ∧ y = nI i ∧ z = nI j ∧ up1 (Nw i) 240 ≠ 0 ∧ up1 (Nw j) 240 ≠ 0 ∧ 240 < up1 (Nw i) 240 + up1 (Nw j) 240))) xIO ct1) ∨ (r5 = nI 2 ∧ (fun E ct1 => ct1 = ct ∧ ((E = xIO ∧ ¬ (ir x 6 ∧ ir y 6 ∧ ir z 6)) ∨ (E = xUO ∧ ∃ t i j, t < 6 ∧ i < 6 ∧ j < 6 ∧ x = nI t ∧ y = nI i ∧ z = nI j ∧ up1 (Nw i) 240 ≠ 0 ∧ up1 (Nw j) 240 ≠ 0 ∧ 240 < up1 (Nw i) 240 + up1 (Nw j) 240))) xUO ct1)) {v6 : Int32} {ct2 : Nat → va_E} (h2 : (fun r ct2 => (¬ (ir x 6 ∧ ir y 6 ∧ ir z 6) ∧ ct2 = va_up ct1 20 (obM (nI 1) p g ad)) ∨ (∃ t i j, t < 6 ∧ i < 6 ∧ j < 6 ∧ x = nI t ∧ y = nI i ∧ z = nI j ∧ ((up1 (fun k => wd (240 * i + k)) 240 ≠ 0 ∧ up1 (fun k => wd (240 * j + k)) 240 ≠ 0 ∧ 240 < up1 (fun k => wd (240 * i + k)) 240 + up1 (fun k => wd (240 * j + k)) 240 ∧ ct2 = va_up ct1 20 (obM (nI 2) p g ad)) ∨ ((up1 (fun k => wd (240 * i + k)) 240 = 0 ∨ up1 (fun k => wd (240 * j + k)) 240 = 0 ∨ up1 (fun k => wd (240 * i + k)) 240 + up1 (fun k => wd (240 * j + k)) 240 ≤ 240) ∧ r = nI (up1 (mo (fun k => wd (240 * i + k)) (fun k => wd (240 * j + k)) (up1 (fun k => wd (240 * j + k)) 240) (up1 (fun k => wd (240 * i + k)) 240)) 240) ∧ ct2 = va_up (va_up (va_up ct1 20 (obM (nI 0) p g ad)) 25 (LN cJ 241 (mo (fun k => wd (240 * i + k)) (fun k => wd (240 * j + k)) (up1 (fun k => wd (240 * j + k)) 240) (up1 (fun k => wd (240 * i + k)) 240)))) 22 (LN cJ 1440 (fr 240 t 240 (mo (fun k => wd (240 * i + k)) (fun k => wd (240 * j + k)) (up1 (fun k => wd (240 * j + k)) 240) (up1 (fun k => wd (240 * i + k)) 240)) wd)))))) v6 ct2) : (∃ p' g', ct2 20 = obM r5 p' g' ad) ∧ (r5 = nI 0 → ∃ o : Nat → Int64, ct2 26 = LA cJ 1 o ∧ o 0 = (v6.toInt64)) ∧ inv cJ cQ ad ct2 := by
  have hrow : ∀ i, i < 6 → ∀ k, k < 240 → (fun k => wd (240 * i + k)) k = Nw i k := fun i hi k hk => I.2.2.2 i k hi hk
  have hup : ∀ i, i < 6 → up1 (fun k => wd (240 * i + k)) 240 = up1 (Nw i) 240 := fun i hi => up1_congr (hrow i hi)
  have hcv : ∀ i j, i < 6 → j < 6 → mo (fun k => wd (240 * i + k)) (fun k => wd (240 * j + k)) (up1 (Nw j) 240) (up1 (Nw i) 240) = mo (Nw i) (Nw j) (up1 (Nw j) 240) (up1 (Nw i) 240) := fun i j hi hj => mo_congr (fun k hk => hrow j hj k (Nat.lt_of_lt_of_le hk (up1_le _ _))) _ (fun k hk => hrow i hi k (Nat.lt_of_lt_of_le hk (up1_le _ _)))
  rcases h1 with ⟨rfl, v, ct3, ⟨t, i, j, ht, hi, hj, rfl, rfl, rfl, hcase⟩, rfl⟩ | ⟨rfl, rfl, ⟨-, hno⟩ | ⟨h, -⟩⟩ | ⟨rfl, rfl, ⟨h, -⟩ | ⟨-, t, i, j, ht, hi, hj, rfl, rfl, rfl, q1, q2, q3⟩⟩
  · rcases h2 with ⟨h, -⟩ | ⟨t', i', j', ht', hi', hj', e1, e2, e3, hc2⟩
    · exact absurd ⟨⟨t, ht, rfl⟩, ⟨i, hi, rfl⟩, ⟨j, hj, rfl⟩⟩ h
    · have e4 := nI_inj6 (by omega) (by omega) e1
      have e5 := nI_inj6 (by omega) (by omega) e2
      have e6 := nI_inj6 (by omega) (by omega) e3
      subst e4 e5 e6
      rw [hup i hi, hup j hj, hcv i j hi hj] at hc2
      obtain ⟨hv, S3, D3, o3⟩ : v = nI (up1 (mo (Nw i) (Nw j) (up1 (Nw j) 240) (up1 (Nw i) 240)) 240) ∧ stX cJ cQ ad p (wl p g) Mr (rup Nw t (mo (Nw i) (Nw j) (up1 (Nw j) 240) (up1 (Nw i) 240))) ct3 ∧ mdX cJ ad p g c wd ct3 ∧ (up1 (Nw i) 240 = 0 ∨ up1 (Nw j) 240 = 0 ∨ up1 (Nw i) 240 + up1 (Nw j) 240 ≤ 240) := by
        rcases hcase with ⟨hz, rfl, rfl⟩ | ⟨q1, q2, q3, rfl, rfl⟩
        · have hcz : mo (Nw i) (Nw j) (up1 (Nw j) 240) (up1 (Nw i) 240) = fun _ => 0 := by
            rcases hz with h | h
            · rw [h]; rfl
            · rw [h]; exact mo_0 _
          rw [hcz, up1_0]
          refine ⟨rfl, stX_nat ht _ S, mdX_far (by omega) Dm, ?_⟩
          rcases hz with h | h
          · exact Or.inl h
          · exact Or.inr (Or.inl h)
        · exact ⟨rfl, stX_nat ht _ (stX_19 _ S), mdX_far (by omega) (mdX_far (by omega) Dm), Or.inr (Or.inr q3)⟩
      rcases hc2 with ⟨n1, n2, n3, -⟩ | ⟨-, rfl, rfl⟩
      · omega
      · subst hv
        refine ⟨⟨p, g, by rw [va_up_ne _ _ (by decide), va_up_ne _ _ (by decide), va_up_self]⟩, fun _ => ⟨_, by rw [va_up_ne _ _ (by decide), va_up_ne _ _ (by decide), va_up_ne _ _ (by decide), va_up_self], rfl⟩, p, g, Mr, _, c, _, stX_far (by decide) (stX_far (by decide) (stX_far (by decide) (stX_far (by decide) S3))), mdX_22 _ (mdX_25 _ (mdX_20 _ (mdX_far (by omega) D3))), ⟨_, by rw [va_up_ne _ _ (by decide), va_up_ne _ _ (by decide), va_up_ne _ _ (by decide), va_up_self]⟩, ?_⟩
        exact invN_nat I (fun k => mo_lt (fun k => I.2.2.1 i k hi) (fun k => I.2.2.1 j k hj) _ _ k) (fun k hk => fr_in hk) (fun x hx => fr_out (by omega))
  · rcases h2 with ⟨-, rfl⟩ | ⟨t', i', j', ht', hi', hj', e1, e2, e3, -⟩
    · obtain ⟨a, b⟩ := inv_k 1 S Dm Ho I
      exact ⟨a, fun h => absurd h n10, b⟩
    · exact absurd ⟨⟨t', ht', e1⟩, ⟨i', hi', e2⟩, ⟨j', hj', e3⟩⟩ hno
  · exact absurd h (by decide)
  · exact absurd h (by decide)
  · rcases h2 with ⟨h, -⟩ | ⟨t', i', j', ht', hi', hj', e1, e2, e3, hc2⟩
    · exact absurd ⟨⟨t, ht, rfl⟩, ⟨i, hi, rfl⟩, ⟨j, hj, rfl⟩⟩ h
    · have e4 := nI_inj6 (by omega) (by omega) e1
      have e5 := nI_inj6 (by omega) (by omega) e2
      have e6 := nI_inj6 (by omega) (by omega) e3
      subst e4 e5 e6
      rw [hup i hi, hup j hj] at hc2
      rcases hc2 with ⟨-, -, -, rfl⟩ | ⟨hn, -⟩
      · obtain ⟨a, b⟩ := inv_k 2 S Dm Ho I
        exact ⟨a, fun h => absurd h n20, b⟩
      · omega
theorem pm_sum {cJ cQ : ClassId} {ad : Nat → Nat} {ct : Nat → va_E} {p g : Nat} {Mr Nw : Nat → Nat → Nat} {c wd : Nat → Nat} (S : stX cJ cQ ad p (wl p g) Mr Nw ct) (Dm : mdX cJ ad p g c wd ct) (Ho : ∃ o, ct 26 = LA cJ 1 o) (I : invN p g Mr Nw c wd) (x y z : Int32) {r5 : Int32} {ct1 : Nat → va_E} (h1 : (r5 = nI 0 ∧ ∃ v ct2, (fun r ct1 => ∃ t i j, t < 6 ∧ i < 6 ∧ j < 6 ∧ x = nI t ∧ y = nI i ∧ z = nI j ∧ cy (Nw i) (Nw j) 240 = 0 ∧ r = nI (up1 (sw1 (Nw i) (Nw j)) 240) ∧ ct1 = va_up (va_up ct 19 (LN cJ 240 (sw1 (Nw i) (Nw j)))) (10 + t) (LN cJ 240 (sw1 (Nw i) (Nw j)))) v ct2 ∧ ct1 = va_up ct2 26 (LA cJ 1 (fun _ => v.toInt64))) ∨ (r5 = nI 1 ∧ (fun E ct1 => (ct1 = ct ∧ E = xIO ∧ ¬ (ir x 6 ∧ ir y 6 ∧ ir z 6)) ∨ (E = xUO ∧ ∃ t i j, t < 6 ∧ i < 6 ∧ j < 6 ∧ x = nI t ∧ y = nI i ∧ z = nI j ∧ cy (Nw i) (Nw j) 240 ≠ 0 ∧ ct1 = va_up ct 19 (LN cJ 240 (sw1 (Nw i) (Nw j))))) xIO ct1) ∨ (r5 = nI 2 ∧ (fun E ct1 => (ct1 = ct ∧ E = xIO ∧ ¬ (ir x 6 ∧ ir y 6 ∧ ir z 6)) ∨ (E = xUO ∧ ∃ t i j, t < 6 ∧ i < 6 ∧ j < 6 ∧ x = nI t ∧ y = nI i ∧ z = nI j ∧ cy (Nw i) (Nw j) 240 ≠ 0 ∧ ct1 = va_up ct 19 (LN cJ 240 (sw1 (Nw i) (Nw j))))) xUO ct1)) : mdX cJ ad p g c wd ct1 := by
  rcases h1 with ⟨-, v, ct2, ⟨t, i, j, ht, -, -, -, -, -, -, -, rfl⟩, rfl⟩ | ⟨-, ⟨rfl, -⟩ | ⟨-, t, i, j, -, -, -, -, -, -, -, rfl⟩⟩ | ⟨-, ⟨rfl, -⟩ | ⟨-, t, i, j, -, -, -, -, -, -, -, rfl⟩⟩
  · exact mdX_far (by omega) (mdX_far (by omega) (mdX_far (by omega) Dm))
  · exact Dm
  · exact mdX_far (by omega) Dm
  · exact Dm
  · exact mdX_far (by omega) Dm
theorem pu_sum {cJ cQ : ClassId} {ad : Nat → Nat} {ct : Nat → va_E} {p g : Nat} {Mr Nw : Nat → Nat → Nat} {c wd : Nat → Nat} (S : stX cJ cQ ad p (wl p g) Mr Nw ct) (Dm : mdX cJ ad p g c wd ct) (Ho : ∃ o, ct 26 = LA cJ 1 o) (I : invN p g Mr Nw c wd) (x y z : Int32) {r5 : Int32} {ct1 : Nat → va_E} (h1 : (r5 = nI 0 ∧ ∃ v ct2, (fun r ct1 => ∃ t i j, t < 6 ∧ i < 6 ∧ j < 6 ∧ x = nI t ∧ y = nI i ∧ z = nI j ∧ cy (Nw i) (Nw j) 240 = 0 ∧ r = nI (up1 (sw1 (Nw i) (Nw j)) 240) ∧ ct1 = va_up (va_up ct 19 (LN cJ 240 (sw1 (Nw i) (Nw j)))) (10 + t) (LN cJ 240 (sw1 (Nw i) (Nw j)))) v ct2 ∧ ct1 = va_up ct2 26 (LA cJ 1 (fun _ => v.toInt64))) ∨ (r5 = nI 1 ∧ (fun E ct1 => (ct1 = ct ∧ E = xIO ∧ ¬ (ir x 6 ∧ ir y 6 ∧ ir z 6)) ∨ (E = xUO ∧ ∃ t i j, t < 6 ∧ i < 6 ∧ j < 6 ∧ x = nI t ∧ y = nI i ∧ z = nI j ∧ cy (Nw i) (Nw j) 240 ≠ 0 ∧ ct1 = va_up ct 19 (LN cJ 240 (sw1 (Nw i) (Nw j))))) xIO ct1) ∨ (r5 = nI 2 ∧ (fun E ct1 => (ct1 = ct ∧ E = xIO ∧ ¬ (ir x 6 ∧ ir y 6 ∧ ir z 6)) ∨ (E = xUO ∧ ∃ t i j, t < 6 ∧ i < 6 ∧ j < 6 ∧ x = nI t ∧ y = nI i ∧ z = nI j ∧ cy (Nw i) (Nw j) 240 ≠ 0 ∧ ct1 = va_up ct 19 (LN cJ 240 (sw1 (Nw i) (Nw j))))) xUO ct1)) {v6 : Int32} {ct2 : Nat → va_E} (h2 : (fun r ct2 => (¬ (ir x 6 ∧ ir y 6 ∧ ir z 6) ∧ ct2 = va_up (va_up ct1 20 (obM (nI 1) p g ad)) 25 (LN cJ 241 (fun _ => 0))) ∨ (∃ t i j, t < 6 ∧ i < 6 ∧ j < 6 ∧ x = nI t ∧ y = nI i ∧ z = nI j ∧ ((cy (fun k => wd (240 * i + k)) (fun k => wd (240 * j + k)) 240 ≠ 0 ∧ ct2 = va_up (va_up (va_up ct1 20 (obM (nI 0) p g ad)) 25 (LN cJ 241 (fun k => if k < 240 then sw1 (fun k => wd (240 * i + k)) (fun k => wd (240 * j + k)) k else 0))) 20 (obM (nI 2) p g ad)) ∨ (cy (fun k => wd (240 * i + k)) (fun k => wd (240 * j + k)) 240 = 0 ∧ r = nI (up1 (fun k => if k < 240 then sw1 (fun k => wd (240 * i + k)) (fun k => wd (240 * j + k)) k else 0) 240) ∧ ct2 = va_up (va_up (va_up ct1 20 (obM (nI 0) p g ad)) 25 (LN cJ 241 (fun k => if k < 240 then sw1 (fun k => wd (240 * i + k)) (fun k => wd (240 * j + k)) k else 0))) 22 (LN cJ 1440 (fr 240 t 240 (fun k => if k < 240 then sw1 (fun k => wd (240 * i + k)) (fun k => wd (240 * j + k)) k else 0) wd)))))) v6 ct2) : (∃ p' g', ct2 20 = obM r5 p' g' ad) ∧ (r5 = nI 0 → ∃ o : Nat → Int64, ct2 26 = LA cJ 1 o ∧ o 0 = (v6.toInt64)) ∧ inv cJ cQ ad ct2 := by
  have hrow : ∀ i, i < 6 → ∀ k, k < 240 → (fun k => wd (240 * i + k)) k = Nw i k := fun i hi k hk => I.2.2.2 i k hi hk
  have hcy : ∀ i j, i < 6 → j < 6 → cy (fun k => wd (240 * i + k)) (fun k => wd (240 * j + k)) 240 = cy (Nw i) (Nw j) 240 := fun i j hi hj => cy_congr 240 (hrow i hi) (hrow j hj)
  have hsw : ∀ i j, i < 6 → j < 6 → ∀ k, k < 240 → (fun k => if k < 240 then sw1 (fun k => wd (240 * i + k)) (fun k => wd (240 * j + k)) k else 0) k = sw1 (Nw i) (Nw j) k := fun i j hi hj k hk => (if_pos hk).trans (sw1_congr (hrow i hi) (hrow j hj) hk)
  have inv2 : ∀ {ct1 : Nat → va_E} (f : Nat → Nat), stX cJ cQ ad p (wl p g) Mr Nw ct1 → mdX cJ ad p g c wd ct1 → (∃ o, ct1 26 = LA cJ 1 o) → (∃ p' g', va_up (va_up (va_up ct1 20 (obM (nI 0) p g ad)) 25 (LN cJ 241 f)) 20 (obM (nI 2) p g ad) 20 = obM (nI 2) p' g' ad) ∧ inv cJ cQ ad (va_up (va_up (va_up ct1 20 (obM (nI 0) p g ad)) 25 (LN cJ 241 f)) 20 (obM (nI 2) p g ad)) := fun {ct1} f s1 d1 o1 =>
    ⟨⟨p, g, va_up_self _ _ _⟩, p, g, Mr, Nw, c, wd, stX_far (by decide) (stX_far (by decide) (stX_far (by decide) s1)), mdX_20 _ (mdX_25 _ (mdX_20 _ d1)), by rw [va_up_ne _ _ (by decide), va_up_ne _ _ (by decide), va_up_ne _ _ (by decide)]; exact o1, I⟩
  rcases h1 with ⟨rfl, v, ct3, ⟨t, i, j, ht, hi, hj, rfl, rfl, rfl, h0, rfl, rfl⟩, rfl⟩ | ⟨rfl, ⟨rfl, -, hno⟩ | ⟨h, -⟩⟩ | ⟨rfl, ⟨-, h, -⟩ | ⟨-, t, i, j, ht, hi, hj, rfl, rfl, rfl, h0, rfl⟩⟩
  · rcases h2 with ⟨h, -⟩ | ⟨t', i', j', ht', hi', hj', e1, e2, e3, hc2⟩
    · exact absurd ⟨⟨t, ht, rfl⟩, ⟨i, hi, rfl⟩, ⟨j, hj, rfl⟩⟩ h
    · have e4 := nI_inj6 (by omega) (by omega) e1
      have e5 := nI_inj6 (by omega) (by omega) e2
      have e6 := nI_inj6 (by omega) (by omega) e3
      subst e4 e5 e6
      rw [hcy i j hi hj] at hc2
      rcases hc2 with ⟨h, -⟩ | ⟨-, rfl, rfl⟩
      · exact absurd h0 h
      · rw [show up1 (fun k => if k < 240 then sw1 (fun k => wd (240 * i + k)) (fun k => wd (240 * j + k)) k else 0) 240 = up1 (sw1 (Nw i) (Nw j)) 240 from up1_congr (hsw i j hi hj)]
        refine ⟨⟨p, g, by rw [va_up_ne _ _ (by decide), va_up_ne _ _ (by decide), va_up_self]⟩, fun _ => ⟨_, by rw [va_up_ne _ _ (by decide), va_up_ne _ _ (by decide), va_up_ne _ _ (by decide), va_up_self], rfl⟩, p, g, Mr, rup Nw t (sw1 (Nw i) (Nw j)), c, _, stX_far (by decide) (stX_far (by decide) (stX_far (by decide) (stX_far (by decide) (stX_nat ht _ (stX_19 _ S))))), mdX_22 _ (mdX_25 _ (mdX_20 _ (mdX_far (by omega) (mdX_far (by omega) (mdX_far (by omega) Dm))))), ⟨_, by rw [va_up_ne _ _ (by decide), va_up_ne _ _ (by decide), va_up_ne _ _ (by decide), va_up_self]⟩, ?_⟩
        exact invN_nat I (fun k => by unfold sw1; exact Nat.mod_lt _ (by decide)) (fun k hk => (fr_in hk).trans (hsw i j hi hj k hk)) (fun x hx => fr_out (by omega))
  · rcases h2 with ⟨-, rfl⟩ | ⟨t', i', j', ht', hi', hj', e1, e2, e3, -⟩
    · exact ⟨⟨p, g, by rw [va_up_ne _ _ (by decide), va_up_self]⟩, fun h => absurd h n10, p, g, Mr, Nw, c, wd, stX_far (by decide) (stX_far (by decide) S), mdX_25 _ (mdX_20 _ Dm), by rw [va_up_ne _ _ (by decide), va_up_ne _ _ (by decide)]; exact Ho, I⟩
    · exact absurd ⟨⟨t', ht', e1⟩, ⟨i', hi', e2⟩, ⟨j', hj', e3⟩⟩ hno
  · exact absurd h (by decide)
  · exact absurd h (by decide)
  · rcases h2 with ⟨h, -⟩ | ⟨t', i', j', ht', hi', hj', e1, e2, e3, hc2⟩
    · exact absurd ⟨⟨t, ht, rfl⟩, ⟨i, hi, rfl⟩, ⟨j, hj, rfl⟩⟩ h
    · have e4 := nI_inj6 (by omega) (by omega) e1
      have e5 := nI_inj6 (by omega) (by omega) e2
      have e6 := nI_inj6 (by omega) (by omega) e3
      subst e4 e5 e6
      rw [hcy i j hi hj] at hc2
      rcases hc2 with ⟨-, rfl⟩ | ⟨h, -⟩
      · obtain ⟨a, b⟩ := inv2 _ (stX_19 (sw1 (Nw i) (Nw j)) S) (mdX_far (by omega) Dm) (by rw [va_up_ne _ _ (by decide)]; exact Ho)
        exact ⟨a, fun h => absurd h n20, b⟩
      · exact absurd h h0
