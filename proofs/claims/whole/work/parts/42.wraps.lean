abbrev rw_field : Room := { frames := 7, cells := 1, slots := 6, locals := 107 }
set_option maxRecDepth 100000 in
set_option maxHeartbeats 4000000 in
theorem w_field {l : Launch} {D : va_G} {tys : List (ClassId × FieldType)} {N : Nat} {ad : Nat → Nat} {ct : Nat → va_E} (hN : 27 ≤ N) {cJ : ClassId} {p : Nat} (e0 : ct 0 = obX p ad) (ht : tys[0]? = some (cJ, .long)) (x : Int64) {post : Int64 → (Nat → va_E) → Prop} {xp : String → (Nat → va_E) → Prop} (hM : gTl l yX0_field wsX0_field rfi 1 6 D vwCl tys N ad [.ref (ad 0), .long x] ct post xp) (hx : ∀ E ct1, xp E ct1 → E = xIA) {o : Nat → Int64} (ho : ∀ v ct1, post v ct1 → ct1 26 = LA cJ 1 o) :
    gCi l yL_field wsL_field rw_field 1 6 D vwCl tys N ad [.ref (ad 0), .long x, .ref (ad 26)] ct (fun r ct1 => (r = nI 0 ∧ ∃ v ct2, post v ct2 ∧ ct1 = va_up ct2 26 (LA cJ 1 (fun _ => v))) ∨ (r = nI 1 ∧ xp xIA ct1)) := by
  refine gofC (cc := cL_field) (maxL := 5) (hh := [(0, 8, 11, 13)]) (by decide) rfl (Nat.le_of_ble_eq_true rfl) ?_
  intro M sz C hlM hRM hr Y
  refine g_aload_n C dL_field_0 (k := ?_)
  refine g_iconst C (nI 0) dL_field_1 (k := ?_)
  refine g_aload_n C dL_field_2 (k := ?_)
  refine g_lload_n C dL_field_3 (k := ?_)
  refine g_tryl (n := 1) (av := [.long x]) (rest := [.int (nI 0), .ref (ad 26)]) C Y 0 (by omega) e0 rfl (by rw [hlM]; exact hM) gL_field_X0_field rfl ⟨rfl, rfl⟩ (by rw [hRM]; exact ⟨Nat.le_of_ble_eq_true rfl, Nat.le_of_ble_eq_true rfl⟩) (by rw [hRM]; exact ⟨Nat.le_of_ble_eq_true rfl, Nat.le_of_ble_eq_true rfl⟩) (Nat.le_of_ble_eq_true rfl) (by decide +kernel) rfl dL_field_4 (fun E ct1 hxp => ?_) (fun v ct1 hp => ?_)
  · have hE := hx E ct1 hxp
    subst hE
    refine ⟨11, gCa_1 C Y (fun x hx => by have e := Option.some.inj hx; subst e; exact ⟨rfl, rfl, rfl⟩) (by decide) (by decide +kernel) (by decide +kernel), fun q9 => ?_⟩
    refine g_astore C dL_field_11 (k := ?_)
    refine g_iconst C (nI 1) dL_field_13 (k := ?_)
    exact gC_iret C hr (Nat.le_of_ble_eq_true rfl) (Nat.le_of_ble_eq_true rfl) (Or.inr ⟨rfl, hxp⟩) dL_field_14
  · refine g_last (x := v) C 26 0 (by omega) (ho v ct1 hp) ht (by decide) (by decide) dL_field_7 ?_
    refine g_ext 26 (va_up_self _ _ _) (g := fun _ => v) (fun k hk => by have : k = 0 := (by omega); subst this; simp [vp_updL]) ?_
    rw [bx_uu]
    refine g_goto (tgt := 15) C dL_field_8 (k := ?_)
    refine g_iconst C (nI 0) dL_field_15 (k := ?_)
    exact gC_iret C hr (Nat.le_of_ble_eq_true rfl) (Nat.le_of_ble_eq_true rfl) (Or.inl ⟨rfl, v, ct1, hp, rfl⟩) dL_field_16

abbrev rw_power : Room := { frames := 7, cells := 1, slots := 6, locals := 106 }
set_option maxRecDepth 100000 in
set_option maxHeartbeats 4000000 in
theorem w_power {l : Launch} {D : va_G} {tys : List (ClassId × FieldType)} {N : Nat} {ad : Nat → Nat} {ct : Nat → va_E} (hN : 27 ≤ N) {cJ : ClassId} {p : Nat} (e0 : ct 0 = obX p ad) (ht : tys[0]? = some (cJ, .long)) (x : Int64) (y : Int64) {post : Int64 → (Nat → va_E) → Prop} {xp : String → (Nat → va_E) → Prop} (hM : gTl l yX0_power wsX0_power rpo 1 6 D vwCl tys N ad [.ref (ad 0), .long x, .long y] ct post xp) (hx : ∀ E ct1, xp E ct1 → E = xIA) {o : Nat → Int64} (ho : ∀ v ct1, post v ct1 → ct1 26 = LA cJ 1 o) :
    gCi l yL_power wsL_power rw_power 1 6 D vwCl tys N ad [.ref (ad 0), .long x, .long y, .ref (ad 26)] ct (fun r ct1 => (r = nI 0 ∧ ∃ v ct2, post v ct2 ∧ ct1 = va_up ct2 26 (LA cJ 1 (fun _ => v))) ∨ (r = nI 1 ∧ xp xIA ct1)) := by
  refine gofC (cc := cL_power) (maxL := 7) (hh := [(0, 10, 13, 13)]) (by decide) rfl (Nat.le_of_ble_eq_true rfl) ?_
  intro M sz C hlM hRM hr Y
  refine g_aload C dL_power_0 (k := ?_)
  refine g_iconst C (nI 0) dL_power_2 (k := ?_)
  refine g_aload_n C dL_power_3 (k := ?_)
  refine g_lload_n C dL_power_4 (k := ?_)
  refine g_lload_n C dL_power_5 (k := ?_)
  refine g_tryl (n := 2) (av := [.long x, .long y]) (rest := [.int (nI 0), .ref (ad 26)]) C Y 0 (by omega) e0 rfl (by rw [hlM]; exact hM) gL_power_X0_power rfl ⟨rfl, rfl⟩ (by rw [hRM]; exact ⟨Nat.le_of_ble_eq_true rfl, Nat.le_of_ble_eq_true rfl⟩) (by rw [hRM]; exact ⟨Nat.le_of_ble_eq_true rfl, Nat.le_of_ble_eq_true rfl⟩) (Nat.le_of_ble_eq_true rfl) (by decide +kernel) rfl dL_power_6 (fun E ct1 hxp => ?_) (fun v ct1 hp => ?_)
  · have hE := hx E ct1 hxp
    subst hE
    refine ⟨13, gCa_1 C Y (fun x hx => by have e := Option.some.inj hx; subst e; exact ⟨rfl, rfl, rfl⟩) (by decide) (by decide +kernel) (by decide +kernel), fun q9 => ?_⟩
    refine g_astore C dL_power_13 (k := ?_)
    refine g_iconst C (nI 1) dL_power_15 (k := ?_)
    exact gC_iret C hr (Nat.le_of_ble_eq_true rfl) (Nat.le_of_ble_eq_true rfl) (Or.inr ⟨rfl, hxp⟩) dL_power_16
  · refine g_last (x := v) C 26 0 (by omega) (ho v ct1 hp) ht (by decide) (by decide) dL_power_9 ?_
    refine g_ext 26 (va_up_self _ _ _) (g := fun _ => v) (fun k hk => by have : k = 0 := (by omega); subst this; simp [vp_updL]) ?_
    rw [bx_uu]
    refine g_goto (tgt := 17) C dL_power_10 (k := ?_)
    refine g_iconst C (nI 0) dL_power_17 (k := ?_)
    exact gC_iret C hr (Nat.le_of_ble_eq_true rfl) (Nat.le_of_ble_eq_true rfl) (Or.inl ⟨rfl, v, ct1, hp, rfl⟩) dL_power_18

abbrev rw_inverse : Room := { frames := 7, cells := 1, slots := 6, locals := 106 }
set_option maxRecDepth 100000 in
set_option maxHeartbeats 4000000 in
theorem w_inverse {l : Launch} {D : va_G} {tys : List (ClassId × FieldType)} {N : Nat} {ad : Nat → Nat} {ct : Nat → va_E} (hN : 27 ≤ N) {cJ : ClassId} {p : Nat} (e0 : ct 0 = obX p ad) (ht : tys[0]? = some (cJ, .long)) (x : Int64) {post : Int64 → (Nat → va_E) → Prop} {xp : String → (Nat → va_E) → Prop} (hM : gTl l yX0_inverse wsX0_inverse rpo 1 6 D vwCl tys N ad [.ref (ad 0), .long x] ct post xp) (hx : ∀ E ct1, xp E ct1 → E = xIA) {o : Nat → Int64} (ho : ∀ v ct1, post v ct1 → ct1 26 = LA cJ 1 o) :
    gCi l yL_inverse wsL_inverse rw_inverse 1 6 D vwCl tys N ad [.ref (ad 0), .long x, .ref (ad 26)] ct (fun r ct1 => (r = nI 0 ∧ ∃ v ct2, post v ct2 ∧ ct1 = va_up ct2 26 (LA cJ 1 (fun _ => v))) ∨ (r = nI 1 ∧ xp xIA ct1)) := by
  refine gofC (cc := cL_inverse) (maxL := 5) (hh := [(0, 8, 11, 13)]) (by decide) rfl (Nat.le_of_ble_eq_true rfl) ?_
  intro M sz C hlM hRM hr Y
  refine g_aload_n C dL_inverse_0 (k := ?_)
  refine g_iconst C (nI 0) dL_inverse_1 (k := ?_)
  refine g_aload_n C dL_inverse_2 (k := ?_)
  refine g_lload_n C dL_inverse_3 (k := ?_)
  refine g_tryl (n := 1) (av := [.long x]) (rest := [.int (nI 0), .ref (ad 26)]) C Y 0 (by omega) e0 rfl (by rw [hlM]; exact hM) gL_inverse_X0_inverse rfl ⟨rfl, rfl⟩ (by rw [hRM]; exact ⟨Nat.le_of_ble_eq_true rfl, Nat.le_of_ble_eq_true rfl⟩) (by rw [hRM]; exact ⟨Nat.le_of_ble_eq_true rfl, Nat.le_of_ble_eq_true rfl⟩) (Nat.le_of_ble_eq_true rfl) (by decide +kernel) rfl dL_inverse_4 (fun E ct1 hxp => ?_) (fun v ct1 hp => ?_)
  · have hE := hx E ct1 hxp
    subst hE
    refine ⟨11, gCa_1 C Y (fun x hx => by have e := Option.some.inj hx; subst e; exact ⟨rfl, rfl, rfl⟩) (by decide) (by decide +kernel) (by decide +kernel), fun q9 => ?_⟩
    refine g_astore C dL_inverse_11 (k := ?_)
    refine g_iconst C (nI 1) dL_inverse_13 (k := ?_)
    exact gC_iret C hr (Nat.le_of_ble_eq_true rfl) (Nat.le_of_ble_eq_true rfl) (Or.inr ⟨rfl, hxp⟩) dL_inverse_14
  · refine g_last (x := v) C 26 0 (by omega) (ho v ct1 hp) ht (by decide) (by decide) dL_inverse_7 ?_
    refine g_ext 26 (va_up_self _ _ _) (g := fun _ => v) (fun k hk => by have : k = 0 := (by omega); subst this; simp [vp_updL]) ?_
    rw [bx_uu]
    refine g_goto (tgt := 15) C dL_inverse_8 (k := ?_)
    refine g_iconst C (nI 0) dL_inverse_15 (k := ?_)
    exact gC_iret C hr (Nat.le_of_ble_eq_true rfl) (Nat.le_of_ble_eq_true rfl) (Or.inl ⟨rfl, v, ct1, hp, rfl⟩) dL_inverse_16

abbrev rw_put : Room := { frames := 8, cells := 2, slots := 12, locals := 132 }
set_option maxRecDepth 100000 in
set_option maxHeartbeats 4000000 in
theorem w_put {l : Launch} {D : va_G} {tys : List (ClassId × FieldType)} {N : Nat} {ad : Nat → Nat} {ct : Nat → va_E} (hN : 27 ≤ N) {cJ : ClassId} {p : Nat} (e0 : ct 0 = obX p ad) (ht : tys[0]? = some (cJ, .long)) (x : Int32) (y : Int32) (z : Int64) {post : Int32 → (Nat → va_E) → Prop} {xp : String → (Nat → va_E) → Prop} (hM : gTi l yX0_put wsX0_put rg_put 2 12 D vwCl tys N ad [.ref (ad 0), .int x, .int y, .long z] ct post xp) (hx : ∀ E ct1, xp E ct1 → E = xIO) {o : Nat → Int64} (ho : ∀ v ct1, post v ct1 → ct1 26 = LA cJ 1 o) :
    gCi l yL_put wsL_put rw_put 2 12 D vwCl tys N ad [.ref (ad 0), .int x, .int y, .long z, .ref (ad 26)] ct (fun r ct1 => (r = nI 0 ∧ ∃ v ct2, post v ct2 ∧ ct1 = va_up ct2 26 (LA cJ 1 (fun _ => if v = 0 then lN 0 else lN 1))) ∨ (r = nI 1 ∧ xp xIO ct1)) := by
  refine gofC (cc := cL_put) (maxL := 7) (hh := [(0, 19, 22, 26)]) (by decide) rfl (Nat.le_of_ble_eq_true rfl) ?_
  intro M sz C hlM hRM hr Y
  refine g_aload C dL_put_0 (k := ?_)
  refine g_iconst C (nI 0) dL_put_2 (k := ?_)
  refine g_aload_n C dL_put_3 (k := ?_)
  refine g_iload_n C dL_put_4 (k := ?_)
  refine g_iload_n C dL_put_5 (k := ?_)
  refine g_lload_n C dL_put_6 (k := ?_)
  refine g_tryi (n := 3) (av := [.int x, .int y, .long z]) (rest := [.int (nI 0), .ref (ad 26)]) C Y 0 (by omega) e0 rfl (by rw [hlM]; exact hM) gL_put_X0_put rfl ⟨rfl, rfl⟩ (by rw [hRM]; exact ⟨Nat.le_of_ble_eq_true rfl, Nat.le_of_ble_eq_true rfl⟩) (by rw [hRM]; exact ⟨Nat.le_of_ble_eq_true rfl, Nat.le_of_ble_eq_true rfl⟩) (Nat.le_of_ble_eq_true rfl) (by decide +kernel) rfl dL_put_7 (fun E ct1 hxp => ?_) (fun v ct1 hp => ?_)
  · have hE := hx E ct1 hxp
    subst hE
    refine ⟨22, gCa_1 C Y (fun x hx => by have e := Option.some.inj hx; subst e; exact ⟨rfl, rfl, rfl⟩) (by decide) (by decide +kernel) (by decide +kernel), fun q9 => ?_⟩
    refine g_astore C dL_put_22 (k := ?_)
    refine g_iconst C (nI 1) dL_put_24 (k := ?_)
    exact gC_iret C hr (Nat.le_of_ble_eq_true rfl) (Nat.le_of_ble_eq_true rfl) (Or.inr ⟨rfl, hxp⟩) dL_put_25
  · by_cases hv0 : v = 0
    · refine g_if_eq (tgt := 17) C dL_put_10 (by decide) (fun _ => ?_) (fun h => absurd hv0 h)
      refine g_lconst C (lN 0) dL_put_17 (k := ?_)
      refine g_last (x := lN 0) C 26 0 (by omega) (ho v ct1 hp) ht (by decide) (by decide) dL_put_18 ?_
      refine g_ext 26 (va_up_self _ _ _) (g := fun _ => if v = 0 then lN 0 else lN 1) (fun k hk => by have : k = 0 := (by omega); subst this; simp [vp_updL, hv0]) ?_
      rw [bx_uu]
      refine g_goto (tgt := 26) C dL_put_19 (k := ?_)
      refine g_iconst C (nI 0) dL_put_26 (k := ?_)
      exact gC_iret C hr (Nat.le_of_ble_eq_true rfl) (Nat.le_of_ble_eq_true rfl) (Or.inl ⟨rfl, v, ct1, hp, rfl⟩) dL_put_27
    · refine g_if_eq (tgt := 17) C dL_put_10 (by decide) (fun h => absurd h hv0) (fun _ => ?_)
      refine g_lconst C (lN 1) dL_put_13 (k := ?_)
      refine g_goto (tgt := 18) C dL_put_14 (k := ?_)
      refine g_last (x := lN 1) C 26 0 (by omega) (ho v ct1 hp) ht (by decide) (by decide) dL_put_18 ?_
      refine g_ext 26 (va_up_self _ _ _) (g := fun _ => if v = 0 then lN 0 else lN 1) (fun k hk => by have : k = 0 := (by omega); subst this; simp [vp_updL, hv0]) ?_
      rw [bx_uu]
      refine g_goto (tgt := 26) C dL_put_19 (k := ?_)
      refine g_iconst C (nI 0) dL_put_26 (k := ?_)
      exact gC_iret C hr (Nat.le_of_ble_eq_true rfl) (Nat.le_of_ble_eq_true rfl) (Or.inl ⟨rfl, v, ct1, hp, rfl⟩) dL_put_27

abbrev rw_get : Room := { frames := 8, cells := 2, slots := 12, locals := 126 }
set_option maxRecDepth 100000 in
set_option maxHeartbeats 4000000 in
theorem w_get {l : Launch} {D : va_G} {tys : List (ClassId × FieldType)} {N : Nat} {ad : Nat → Nat} {ct : Nat → va_E} (hN : 27 ≤ N) {cJ : ClassId} {p : Nat} (e0 : ct 0 = obX p ad) (ht : tys[0]? = some (cJ, .long)) (x : Int32) (y : Int32) {post : Int64 → (Nat → va_E) → Prop} {xp : String → (Nat → va_E) → Prop} (hM : gTl l yX0_get wsX0_get rg_get 2 12 D vwCl tys N ad [.ref (ad 0), .int x, .int y] ct post xp) (hx : ∀ E ct1, xp E ct1 → E = xIO) {o : Nat → Int64} (ho : ∀ v ct1, post v ct1 → ct1 26 = LA cJ 1 o) :
    gCi l yL_get wsL_get rw_get 2 12 D vwCl tys N ad [.ref (ad 0), .int x, .int y, .ref (ad 26)] ct (fun r ct1 => (r = nI 0 ∧ ∃ v ct2, post v ct2 ∧ ct1 = va_up ct2 26 (LA cJ 1 (fun _ => v))) ∨ (r = nI 1 ∧ xp xIO ct1)) := by
  refine gofC (cc := cL_get) (maxL := 5) (hh := [(0, 9, 12, 26)]) (by decide) rfl (Nat.le_of_ble_eq_true rfl) ?_
  intro M sz C hlM hRM hr Y
  refine g_aload_n C dL_get_0 (k := ?_)
  refine g_iconst C (nI 0) dL_get_1 (k := ?_)
  refine g_aload_n C dL_get_2 (k := ?_)
  refine g_iload_n C dL_get_3 (k := ?_)
  refine g_iload_n C dL_get_4 (k := ?_)
  refine g_tryl (n := 2) (av := [.int x, .int y]) (rest := [.int (nI 0), .ref (ad 26)]) C Y 0 (by omega) e0 rfl (by rw [hlM]; exact hM) gL_get_X0_get rfl ⟨rfl, rfl⟩ (by rw [hRM]; exact ⟨Nat.le_of_ble_eq_true rfl, Nat.le_of_ble_eq_true rfl⟩) (by rw [hRM]; exact ⟨Nat.le_of_ble_eq_true rfl, Nat.le_of_ble_eq_true rfl⟩) (Nat.le_of_ble_eq_true rfl) (by decide +kernel) rfl dL_get_5 (fun E ct1 hxp => ?_) (fun v ct1 hp => ?_)
  · have hE := hx E ct1 hxp
    subst hE
    refine ⟨12, gCa_1 C Y (fun x hx => by have e := Option.some.inj hx; subst e; exact ⟨rfl, rfl, rfl⟩) (by decide) (by decide +kernel) (by decide +kernel), fun q9 => ?_⟩
    refine g_astore C dL_get_12 (k := ?_)
    refine g_iconst C (nI 1) dL_get_14 (k := ?_)
    exact gC_iret C hr (Nat.le_of_ble_eq_true rfl) (Nat.le_of_ble_eq_true rfl) (Or.inr ⟨rfl, hxp⟩) dL_get_15
  · refine g_last (x := v) C 26 0 (by omega) (ho v ct1 hp) ht (by decide) (by decide) dL_get_8 ?_
    refine g_ext 26 (va_up_self _ _ _) (g := fun _ => v) (fun k hk => by have : k = 0 := (by omega); subst this; simp [vp_updL]) ?_
    rw [bx_uu]
    refine g_goto (tgt := 16) C dL_get_9 (k := ?_)
    refine g_iconst C (nI 0) dL_get_16 (k := ?_)
    exact gC_iret C hr (Nat.le_of_ble_eq_true rfl) (Nat.le_of_ble_eq_true rfl) (Or.inl ⟨rfl, v, ct1, hp, rfl⟩) dL_get_17

abbrev rw_length : Room := { frames := 8, cells := 1, slots := 6, locals := 125 }
set_option maxRecDepth 100000 in
set_option maxHeartbeats 4000000 in
theorem w_length {l : Launch} {D : va_G} {tys : List (ClassId × FieldType)} {N : Nat} {ad : Nat → Nat} {ct : Nat → va_E} (hN : 27 ≤ N) {cJ : ClassId} {p : Nat} (e0 : ct 0 = obX p ad) (ht : tys[0]? = some (cJ, .long)) (x : Int32) {post : Int32 → (Nat → va_E) → Prop} {xp : String → (Nat → va_E) → Prop} (hM : gTi l yX0_length wsX0_length rg_length 1 6 D vwCl tys N ad [.ref (ad 0), .int x] ct post xp) (hx : ∀ E ct1, xp E ct1 → E = xIO) {o : Nat → Int64} (ho : ∀ v ct1, post v ct1 → ct1 26 = LA cJ 1 o) :
    gCi l yL_length wsL_length rw_length 1 6 D vwCl tys N ad [.ref (ad 0), .int x, .ref (ad 26)] ct (fun r ct1 => (r = nI 0 ∧ ∃ v ct2, post v ct2 ∧ ct1 = va_up ct2 26 (LA cJ 1 (fun _ => v.toInt64))) ∨ (r = nI 1 ∧ xp xIO ct1)) := by
  refine gofC (cc := cL_length) (maxL := 4) (hh := [(0, 9, 12, 26)]) (by decide) rfl (Nat.le_of_ble_eq_true rfl) ?_
  intro M sz C hlM hRM hr Y
  refine g_aload_n C dL_length_0 (k := ?_)
  refine g_iconst C (nI 0) dL_length_1 (k := ?_)
  refine g_aload_n C dL_length_2 (k := ?_)
  refine g_iload_n C dL_length_3 (k := ?_)
  refine g_tryi (n := 1) (av := [.int x]) (rest := [.int (nI 0), .ref (ad 26)]) C Y 0 (by omega) e0 rfl (by rw [hlM]; exact hM) gL_length_X0_length rfl ⟨rfl, rfl⟩ (by rw [hRM]; exact ⟨Nat.le_of_ble_eq_true rfl, Nat.le_of_ble_eq_true rfl⟩) (by rw [hRM]; exact ⟨Nat.le_of_ble_eq_true rfl, Nat.le_of_ble_eq_true rfl⟩) (Nat.le_of_ble_eq_true rfl) (by decide +kernel) rfl dL_length_4 (fun E ct1 hxp => ?_) (fun v ct1 hp => ?_)
  · have hE := hx E ct1 hxp
    subst hE
    refine ⟨12, gCa_1 C Y (fun x hx => by have e := Option.some.inj hx; subst e; exact ⟨rfl, rfl, rfl⟩) (by decide) (by decide +kernel) (by decide +kernel), fun q9 => ?_⟩
    refine g_astore_n C dL_length_12 (k := ?_)
    refine g_iconst C (nI 1) dL_length_13 (k := ?_)
    exact gC_iret C hr (Nat.le_of_ble_eq_true rfl) (Nat.le_of_ble_eq_true rfl) (Or.inr ⟨rfl, hxp⟩) dL_length_14
  · refine g_i2l C dL_length_7 ?_
    refine g_last (x := v.toInt64) C 26 0 (by omega) (ho v ct1 hp) ht (by decide) (by decide) dL_length_8 ?_
    refine g_ext 26 (va_up_self _ _ _) (g := fun _ => v.toInt64) (fun k hk => by have : k = 0 := (by omega); subst this; simp [vp_updL]) ?_
    rw [bx_uu]
    refine g_goto (tgt := 15) C dL_length_9 (k := ?_)
    refine g_iconst C (nI 0) dL_length_15 (k := ?_)
    exact gC_iret C hr (Nat.le_of_ble_eq_true rfl) (Nat.le_of_ble_eq_true rfl) (Or.inl ⟨rfl, v, ct1, hp, rfl⟩) dL_length_16

abbrev rw_turn : Room := { frames := 8, cells := 2, slots := 12, locals := 127 }
set_option maxRecDepth 100000 in
set_option maxHeartbeats 4000000 in
theorem w_turn {l : Launch} {D : va_G} {tys : List (ClassId × FieldType)} {N : Nat} {ad : Nat → Nat} {ct : Nat → va_E} (hN : 27 ≤ N) {cJ : ClassId} {p : Nat} (e0 : ct 0 = obX p ad) (ht : tys[0]? = some (cJ, .long)) (x : Int32) (y : Int32) (z : Int32) {post : (Nat → va_E) → Prop} {xp : String → (Nat → va_E) → Prop} (hM : gTv l yX0_turn wsX0_turn rtu 2 12 D vwCl tys N ad [.ref (ad 0), .int x, .int y, .int z] ct post xp) (hx : ∀ E ct1, xp E ct1 → E = xIO ∨ E = xIA) :
    gCi l yL_turn wsL_turn rw_turn 2 12 D vwCl tys N ad [.ref (ad 0), .int x, .int y, .int z] ct (fun r ct1 => (r = nI 0 ∧ post ct1) ∨ (r = nI 1 ∧ xp xIO ct1) ∨ (r = nI 2 ∧ xp xIA ct1)) := by
  refine gofC (cc := cL_turn) (maxL := 5) (hh := [(0, 7, 10, 26), (0, 7, 14, 13)]) (by decide) rfl (Nat.le_of_ble_eq_true rfl) ?_
  intro M sz C hlM hRM hr Y
  refine g_aload_n C dL_turn_0 (k := ?_)
  refine g_iload_n C dL_turn_1 (k := ?_)
  refine g_iload_n C dL_turn_2 (k := ?_)
  refine g_iload_n C dL_turn_3 (k := ?_)
  refine g_tryv (n := 3) (av := [.int x, .int y, .int z]) (rest := []) C Y 0 (by omega) e0 rfl (by rw [hlM]; exact hM) gL_turn_X0_turn rfl ⟨rfl, rfl⟩ (by rw [hRM]; exact ⟨Nat.le_of_ble_eq_true rfl, Nat.le_of_ble_eq_true rfl⟩) (by rw [hRM]; exact ⟨Nat.le_of_ble_eq_true rfl, Nat.le_of_ble_eq_true rfl⟩) (Nat.le_of_ble_eq_true rfl) (by decide +kernel) rfl dL_turn_4 (fun E ct1 hxp => ?_) (fun ct1 hp => ?_)
  · rcases hx E ct1 hxp with hE | hE
    · subst hE
      refine ⟨10, gCa_1 C Y (fun x hx => by have e := Option.some.inj hx; subst e; exact ⟨rfl, rfl, rfl⟩) (by decide) (by decide +kernel) (by decide +kernel), fun q9 => ?_⟩
      refine g_astore C dL_turn_10 (k := ?_)
      refine g_iconst C (nI 1) dL_turn_12 (k := ?_)
      exact gC_iret C hr (Nat.le_of_ble_eq_true rfl) (Nat.le_of_ble_eq_true rfl) (Or.inr (Or.inl ⟨rfl, hxp⟩)) dL_turn_13
    · subst hE
      refine ⟨14, gCa_2 C Y (fun x hx => by have e := Option.some.inj hx; subst e; exact ⟨rfl, rfl, rfl⟩) (fun x hx => by have e := Option.some.inj hx; subst e; rfl) (by decide) (by decide) (by decide +kernel) (by decide +kernel) Y.2.2.1 (by decide +kernel), fun q9 => ?_⟩
      refine g_astore C dL_turn_14 (k := ?_)
      refine g_iconst C (nI 2) dL_turn_16 (k := ?_)
      exact gC_iret C hr (Nat.le_of_ble_eq_true rfl) (Nat.le_of_ble_eq_true rfl) (Or.inr (Or.inr ⟨rfl, hxp⟩)) dL_turn_17
  · refine g_goto (tgt := 18) C dL_turn_7 (k := ?_)
    refine g_iconst C (nI 0) dL_turn_18 (k := ?_)
    exact gC_iret C hr (Nat.le_of_ble_eq_true rfl) (Nat.le_of_ble_eq_true rfl) (Or.inl ⟨rfl, hp⟩) dL_turn_19

abbrev rw_product : Room := { frames := 8, cells := 4, slots := 24, locals := 152 }
set_option maxRecDepth 100000 in
set_option maxHeartbeats 4000000 in
theorem w_product {l : Launch} {D : va_G} {tys : List (ClassId × FieldType)} {N : Nat} {ad : Nat → Nat} {ct : Nat → va_E} (hN : 27 ≤ N) {cJ : ClassId} {p : Nat} (e0 : ct 0 = obX p ad) (ht : tys[0]? = some (cJ, .long)) (x : Int32) (y : Int32) (z : Int32) {post : Int32 → (Nat → va_E) → Prop} {xp : String → (Nat → va_E) → Prop} (hM : gTi l yX0_product wsX0_product rpr 4 24 D vwCl tys N ad [.ref (ad 0), .int x, .int y, .int z] ct post xp) (hx : ∀ E ct1, xp E ct1 → E = xIO ∨ E = xUO) {o : Nat → Int64} (ho : ∀ v ct1, post v ct1 → ct1 26 = LA cJ 1 o) :
    gCi l yL_product wsL_product rw_product 4 24 D vwCl tys N ad [.ref (ad 0), .int x, .int y, .int z, .ref (ad 26)] ct (fun r ct1 => (r = nI 0 ∧ ∃ v ct2, post v ct2 ∧ ct1 = va_up ct2 26 (LA cJ 1 (fun _ => v.toInt64))) ∨ (r = nI 1 ∧ xp xIO ct1) ∨ (r = nI 2 ∧ xp xUO ct1)) := by
  refine gofC (cc := cL_product) (maxL := 6) (hh := [(0, 12, 15, 26), (0, 12, 19, 44)]) (by decide) rfl (Nat.le_of_ble_eq_true rfl) ?_
  intro M sz C hlM hRM hr Y
  refine g_aload C dL_product_0 (k := ?_)
  refine g_iconst C (nI 0) dL_product_2 (k := ?_)
  refine g_aload_n C dL_product_3 (k := ?_)
  refine g_iload_n C dL_product_4 (k := ?_)
  refine g_iload_n C dL_product_5 (k := ?_)
  refine g_iload_n C dL_product_6 (k := ?_)
  refine g_tryi (n := 3) (av := [.int x, .int y, .int z]) (rest := [.int (nI 0), .ref (ad 26)]) C Y 0 (by omega) e0 rfl (by rw [hlM]; exact hM) gL_product_X0_product rfl ⟨rfl, rfl⟩ (by rw [hRM]; exact ⟨Nat.le_of_ble_eq_true rfl, Nat.le_of_ble_eq_true rfl⟩) (by rw [hRM]; exact ⟨Nat.le_of_ble_eq_true rfl, Nat.le_of_ble_eq_true rfl⟩) (Nat.le_of_ble_eq_true rfl) (by decide +kernel) rfl dL_product_7 (fun E ct1 hxp => ?_) (fun v ct1 hp => ?_)
  · rcases hx E ct1 hxp with hE | hE
    · subst hE
      refine ⟨15, gCa_1 C Y (fun x hx => by have e := Option.some.inj hx; subst e; exact ⟨rfl, rfl, rfl⟩) (by decide) (by decide +kernel) (by decide +kernel), fun q9 => ?_⟩
      refine g_astore C dL_product_15 (k := ?_)
      refine g_iconst C (nI 1) dL_product_17 (k := ?_)
      exact gC_iret C hr (Nat.le_of_ble_eq_true rfl) (Nat.le_of_ble_eq_true rfl) (Or.inr (Or.inl ⟨rfl, hxp⟩)) dL_product_18
    · subst hE
      refine ⟨19, gCa_2 C Y (fun x hx => by have e := Option.some.inj hx; subst e; exact ⟨rfl, rfl, rfl⟩) (fun x hx => by have e := Option.some.inj hx; subst e; rfl) (by decide) (by decide) (by decide +kernel) (by decide +kernel) Y.2.2.2 (by decide +kernel), fun q9 => ?_⟩
      refine g_astore C dL_product_19 (k := ?_)
      refine g_iconst C (nI 2) dL_product_21 (k := ?_)
      exact gC_iret C hr (Nat.le_of_ble_eq_true rfl) (Nat.le_of_ble_eq_true rfl) (Or.inr (Or.inr ⟨rfl, hxp⟩)) dL_product_22
  · refine g_i2l C dL_product_10 ?_
    refine g_last (x := v.toInt64) C 26 0 (by omega) (ho v ct1 hp) ht (by decide) (by decide) dL_product_11 ?_
    refine g_ext 26 (va_up_self _ _ _) (g := fun _ => v.toInt64) (fun k hk => by have : k = 0 := (by omega); subst this; simp [vp_updL]) ?_
    rw [bx_uu]
    refine g_goto (tgt := 23) C dL_product_12 (k := ?_)
    refine g_iconst C (nI 0) dL_product_23 (k := ?_)
    exact gC_iret C hr (Nat.le_of_ble_eq_true rfl) (Nat.le_of_ble_eq_true rfl) (Or.inl ⟨rfl, v, ct1, hp, rfl⟩) dL_product_24

abbrev rw_at : Room := { frames := 8, cells := 1, slots := 6, locals := 133 }
set_option maxRecDepth 100000 in
set_option maxHeartbeats 4000000 in
theorem w_at {l : Launch} {D : va_G} {tys : List (ClassId × FieldType)} {N : Nat} {ad : Nat → Nat} {ct : Nat → va_E} (hN : 27 ≤ N) {cJ : ClassId} {p : Nat} (e0 : ct 0 = obX p ad) (ht : tys[0]? = some (cJ, .long)) (x : Int32) (y : Int64) {post : Int64 → (Nat → va_E) → Prop} {xp : String → (Nat → va_E) → Prop} (hM : gTl l yX0_at wsX0_at rat 1 6 D vwCl tys N ad [.ref (ad 0), .int x, .long y] ct post xp) (hx : ∀ E ct1, xp E ct1 → E = xIO) {o : Nat → Int64} (ho : ∀ v ct1, post v ct1 → ct1 26 = LA cJ 1 o) :
    gCi l yL_at wsL_at rw_at 1 6 D vwCl tys N ad [.ref (ad 0), .int x, .long y, .ref (ad 26)] ct (fun r ct1 => (r = nI 0 ∧ ∃ v ct2, post v ct2 ∧ ct1 = va_up ct2 26 (LA cJ 1 (fun _ => v))) ∨ (r = nI 1 ∧ xp xIO ct1)) := by
  refine gofC (cc := cL_at) (maxL := 6) (hh := [(0, 10, 13, 26)]) (by decide) rfl (Nat.le_of_ble_eq_true rfl) ?_
  intro M sz C hlM hRM hr Y
  refine g_aload C dL_at_0 (k := ?_)
  refine g_iconst C (nI 0) dL_at_2 (k := ?_)
  refine g_aload_n C dL_at_3 (k := ?_)
  refine g_iload_n C dL_at_4 (k := ?_)
  refine g_lload_n C dL_at_5 (k := ?_)
  refine g_tryl (n := 2) (av := [.int x, .long y]) (rest := [.int (nI 0), .ref (ad 26)]) C Y 0 (by omega) e0 rfl (by rw [hlM]; exact hM) gL_at_X0_at rfl ⟨rfl, rfl⟩ (by rw [hRM]; exact ⟨Nat.le_of_ble_eq_true rfl, Nat.le_of_ble_eq_true rfl⟩) (by rw [hRM]; exact ⟨Nat.le_of_ble_eq_true rfl, Nat.le_of_ble_eq_true rfl⟩) (Nat.le_of_ble_eq_true rfl) (by decide +kernel) rfl dL_at_6 (fun E ct1 hxp => ?_) (fun v ct1 hp => ?_)
  · have hE := hx E ct1 hxp
    subst hE
    refine ⟨13, gCa_1 C Y (fun x hx => by have e := Option.some.inj hx; subst e; exact ⟨rfl, rfl, rfl⟩) (by decide) (by decide +kernel) (by decide +kernel), fun q9 => ?_⟩
    refine g_astore C dL_at_13 (k := ?_)
    refine g_iconst C (nI 1) dL_at_15 (k := ?_)
    exact gC_iret C hr (Nat.le_of_ble_eq_true rfl) (Nat.le_of_ble_eq_true rfl) (Or.inr ⟨rfl, hxp⟩) dL_at_16
  · refine g_last (x := v) C 26 0 (by omega) (ho v ct1 hp) ht (by decide) (by decide) dL_at_9 ?_
    refine g_ext 26 (va_up_self _ _ _) (g := fun _ => v) (fun k hk => by have : k = 0 := (by omega); subst this; simp [vp_updL]) ?_
    rw [bx_uu]
    refine g_goto (tgt := 17) C dL_at_10 (k := ?_)
    refine g_iconst C (nI 0) dL_at_17 (k := ?_)
    exact gC_iret C hr (Nat.le_of_ble_eq_true rfl) (Nat.le_of_ble_eq_true rfl) (Or.inl ⟨rfl, v, ct1, hp, rfl⟩) dL_at_18

abbrev rw_word : Room := { frames := 8, cells := 2, slots := 12, locals := 132 }
set_option maxRecDepth 100000 in
set_option maxHeartbeats 4000000 in
theorem w_word {l : Launch} {D : va_G} {tys : List (ClassId × FieldType)} {N : Nat} {ad : Nat → Nat} {ct : Nat → va_E} (hN : 27 ≤ N) {cJ : ClassId} {p : Nat} (e0 : ct 0 = obX p ad) (ht : tys[0]? = some (cJ, .long)) (x : Int32) (y : Int32) (z : Int64) {post : Int32 → (Nat → va_E) → Prop} {xp : String → (Nat → va_E) → Prop} (hM : gTi l yX0_word wsX0_word rg_word 2 12 D vwCl tys N ad [.ref (ad 0), .int x, .int y, .long z] ct post xp) (hx : ∀ E ct1, xp E ct1 → E = xIO) {o : Nat → Int64} (ho : ∀ v ct1, post v ct1 → ct1 26 = LA cJ 1 o) :
    gCi l yL_word wsL_word rw_word 2 12 D vwCl tys N ad [.ref (ad 0), .int x, .int y, .long z, .ref (ad 26)] ct (fun r ct1 => (r = nI 0 ∧ ∃ v ct2, post v ct2 ∧ ct1 = va_up ct2 26 (LA cJ 1 (fun _ => if v = 0 then lN 0 else lN 1))) ∨ (r = nI 1 ∧ xp xIO ct1)) := by
  refine gofC (cc := cL_word) (maxL := 7) (hh := [(0, 19, 22, 26)]) (by decide) rfl (Nat.le_of_ble_eq_true rfl) ?_
  intro M sz C hlM hRM hr Y
  refine g_aload C dL_word_0 (k := ?_)
  refine g_iconst C (nI 0) dL_word_2 (k := ?_)
  refine g_aload_n C dL_word_3 (k := ?_)
  refine g_iload_n C dL_word_4 (k := ?_)
  refine g_iload_n C dL_word_5 (k := ?_)
  refine g_lload_n C dL_word_6 (k := ?_)
  refine g_tryi (n := 3) (av := [.int x, .int y, .long z]) (rest := [.int (nI 0), .ref (ad 26)]) C Y 0 (by omega) e0 rfl (by rw [hlM]; exact hM) gL_word_X0_word rfl ⟨rfl, rfl⟩ (by rw [hRM]; exact ⟨Nat.le_of_ble_eq_true rfl, Nat.le_of_ble_eq_true rfl⟩) (by rw [hRM]; exact ⟨Nat.le_of_ble_eq_true rfl, Nat.le_of_ble_eq_true rfl⟩) (Nat.le_of_ble_eq_true rfl) (by decide +kernel) rfl dL_word_7 (fun E ct1 hxp => ?_) (fun v ct1 hp => ?_)
  · have hE := hx E ct1 hxp
    subst hE
    refine ⟨22, gCa_1 C Y (fun x hx => by have e := Option.some.inj hx; subst e; exact ⟨rfl, rfl, rfl⟩) (by decide) (by decide +kernel) (by decide +kernel), fun q9 => ?_⟩
    refine g_astore C dL_word_22 (k := ?_)
    refine g_iconst C (nI 1) dL_word_24 (k := ?_)
    exact gC_iret C hr (Nat.le_of_ble_eq_true rfl) (Nat.le_of_ble_eq_true rfl) (Or.inr ⟨rfl, hxp⟩) dL_word_25
  · by_cases hv0 : v = 0
    · refine g_if_eq (tgt := 17) C dL_word_10 (by decide) (fun _ => ?_) (fun h => absurd hv0 h)
      refine g_lconst C (lN 0) dL_word_17 (k := ?_)
      refine g_last (x := lN 0) C 26 0 (by omega) (ho v ct1 hp) ht (by decide) (by decide) dL_word_18 ?_
      refine g_ext 26 (va_up_self _ _ _) (g := fun _ => if v = 0 then lN 0 else lN 1) (fun k hk => by have : k = 0 := (by omega); subst this; simp [vp_updL, hv0]) ?_
      rw [bx_uu]
      refine g_goto (tgt := 26) C dL_word_19 (k := ?_)
      refine g_iconst C (nI 0) dL_word_26 (k := ?_)
      exact gC_iret C hr (Nat.le_of_ble_eq_true rfl) (Nat.le_of_ble_eq_true rfl) (Or.inl ⟨rfl, v, ct1, hp, rfl⟩) dL_word_27
    · refine g_if_eq (tgt := 17) C dL_word_10 (by decide) (fun h => absurd h hv0) (fun _ => ?_)
      refine g_lconst C (lN 1) dL_word_13 (k := ?_)
      refine g_goto (tgt := 18) C dL_word_14 (k := ?_)
      refine g_last (x := lN 1) C 26 0 (by omega) (ho v ct1 hp) ht (by decide) (by decide) dL_word_18 ?_
      refine g_ext 26 (va_up_self _ _ _) (g := fun _ => if v = 0 then lN 0 else lN 1) (fun k hk => by have : k = 0 := (by omega); subst this; simp [vp_updL, hv0]) ?_
      rw [bx_uu]
      refine g_goto (tgt := 26) C dL_word_19 (k := ?_)
      refine g_iconst C (nI 0) dL_word_26 (k := ?_)
      exact gC_iret C hr (Nat.le_of_ble_eq_true rfl) (Nat.le_of_ble_eq_true rfl) (Or.inl ⟨rfl, v, ct1, hp, rfl⟩) dL_word_27

abbrev rw_wordAt : Room := { frames := 8, cells := 2, slots := 12, locals := 126 }
set_option maxRecDepth 100000 in
set_option maxHeartbeats 4000000 in
theorem w_wordAt {l : Launch} {D : va_G} {tys : List (ClassId × FieldType)} {N : Nat} {ad : Nat → Nat} {ct : Nat → va_E} (hN : 27 ≤ N) {cJ : ClassId} {p : Nat} (e0 : ct 0 = obX p ad) (ht : tys[0]? = some (cJ, .long)) (x : Int32) (y : Int32) {post : Int64 → (Nat → va_E) → Prop} {xp : String → (Nat → va_E) → Prop} (hM : gTl l yX0_wordAt wsX0_wordAt rg_wordAt 2 12 D vwCl tys N ad [.ref (ad 0), .int x, .int y] ct post xp) (hx : ∀ E ct1, xp E ct1 → E = xIO) {o : Nat → Int64} (ho : ∀ v ct1, post v ct1 → ct1 26 = LA cJ 1 o) :
    gCi l yL_wordAt wsL_wordAt rw_wordAt 2 12 D vwCl tys N ad [.ref (ad 0), .int x, .int y, .ref (ad 26)] ct (fun r ct1 => (r = nI 0 ∧ ∃ v ct2, post v ct2 ∧ ct1 = va_up ct2 26 (LA cJ 1 (fun _ => v))) ∨ (r = nI 1 ∧ xp xIO ct1)) := by
  refine gofC (cc := cL_wordAt) (maxL := 5) (hh := [(0, 9, 12, 26)]) (by decide) rfl (Nat.le_of_ble_eq_true rfl) ?_
  intro M sz C hlM hRM hr Y
  refine g_aload_n C dL_wordAt_0 (k := ?_)
  refine g_iconst C (nI 0) dL_wordAt_1 (k := ?_)
  refine g_aload_n C dL_wordAt_2 (k := ?_)
  refine g_iload_n C dL_wordAt_3 (k := ?_)
  refine g_iload_n C dL_wordAt_4 (k := ?_)
  refine g_tryl (n := 2) (av := [.int x, .int y]) (rest := [.int (nI 0), .ref (ad 26)]) C Y 0 (by omega) e0 rfl (by rw [hlM]; exact hM) gL_wordAt_X0_wordAt rfl ⟨rfl, rfl⟩ (by rw [hRM]; exact ⟨Nat.le_of_ble_eq_true rfl, Nat.le_of_ble_eq_true rfl⟩) (by rw [hRM]; exact ⟨Nat.le_of_ble_eq_true rfl, Nat.le_of_ble_eq_true rfl⟩) (Nat.le_of_ble_eq_true rfl) (by decide +kernel) rfl dL_wordAt_5 (fun E ct1 hxp => ?_) (fun v ct1 hp => ?_)
  · have hE := hx E ct1 hxp
    subst hE
    refine ⟨12, gCa_1 C Y (fun x hx => by have e := Option.some.inj hx; subst e; exact ⟨rfl, rfl, rfl⟩) (by decide) (by decide +kernel) (by decide +kernel), fun q9 => ?_⟩
    refine g_astore C dL_wordAt_12 (k := ?_)
    refine g_iconst C (nI 1) dL_wordAt_14 (k := ?_)
    exact gC_iret C hr (Nat.le_of_ble_eq_true rfl) (Nat.le_of_ble_eq_true rfl) (Or.inr ⟨rfl, hxp⟩) dL_wordAt_15
  · refine g_last (x := v) C 26 0 (by omega) (ho v ct1 hp) ht (by decide) (by decide) dL_wordAt_8 ?_
    refine g_ext 26 (va_up_self _ _ _) (g := fun _ => v) (fun k hk => by have : k = 0 := (by omega); subst this; simp [vp_updL]) ?_
    rw [bx_uu]
    refine g_goto (tgt := 16) C dL_wordAt_9 (k := ?_)
    refine g_iconst C (nI 0) dL_wordAt_16 (k := ?_)
    exact gC_iret C hr (Nat.le_of_ble_eq_true rfl) (Nat.le_of_ble_eq_true rfl) (Or.inl ⟨rfl, v, ct1, hp, rfl⟩) dL_wordAt_17

abbrev rw_size : Room := { frames := 8, cells := 1, slots := 6, locals := 125 }
set_option maxRecDepth 100000 in
set_option maxHeartbeats 4000000 in
theorem w_size {l : Launch} {D : va_G} {tys : List (ClassId × FieldType)} {N : Nat} {ad : Nat → Nat} {ct : Nat → va_E} (hN : 27 ≤ N) {cJ : ClassId} {p : Nat} (e0 : ct 0 = obX p ad) (ht : tys[0]? = some (cJ, .long)) (x : Int32) {post : Int32 → (Nat → va_E) → Prop} {xp : String → (Nat → va_E) → Prop} (hM : gTi l yX0_size wsX0_size rg_size 1 6 D vwCl tys N ad [.ref (ad 0), .int x] ct post xp) (hx : ∀ E ct1, xp E ct1 → E = xIO) {o : Nat → Int64} (ho : ∀ v ct1, post v ct1 → ct1 26 = LA cJ 1 o) :
    gCi l yL_size wsL_size rw_size 1 6 D vwCl tys N ad [.ref (ad 0), .int x, .ref (ad 26)] ct (fun r ct1 => (r = nI 0 ∧ ∃ v ct2, post v ct2 ∧ ct1 = va_up ct2 26 (LA cJ 1 (fun _ => v.toInt64))) ∨ (r = nI 1 ∧ xp xIO ct1)) := by
  refine gofC (cc := cL_size) (maxL := 4) (hh := [(0, 9, 12, 26)]) (by decide) rfl (Nat.le_of_ble_eq_true rfl) ?_
  intro M sz C hlM hRM hr Y
  refine g_aload_n C dL_size_0 (k := ?_)
  refine g_iconst C (nI 0) dL_size_1 (k := ?_)
  refine g_aload_n C dL_size_2 (k := ?_)
  refine g_iload_n C dL_size_3 (k := ?_)
  refine g_tryi (n := 1) (av := [.int x]) (rest := [.int (nI 0), .ref (ad 26)]) C Y 0 (by omega) e0 rfl (by rw [hlM]; exact hM) gL_size_X0_size rfl ⟨rfl, rfl⟩ (by rw [hRM]; exact ⟨Nat.le_of_ble_eq_true rfl, Nat.le_of_ble_eq_true rfl⟩) (by rw [hRM]; exact ⟨Nat.le_of_ble_eq_true rfl, Nat.le_of_ble_eq_true rfl⟩) (Nat.le_of_ble_eq_true rfl) (by decide +kernel) rfl dL_size_4 (fun E ct1 hxp => ?_) (fun v ct1 hp => ?_)
  · have hE := hx E ct1 hxp
    subst hE
    refine ⟨12, gCa_1 C Y (fun x hx => by have e := Option.some.inj hx; subst e; exact ⟨rfl, rfl, rfl⟩) (by decide) (by decide +kernel) (by decide +kernel), fun q9 => ?_⟩
    refine g_astore_n C dL_size_12 (k := ?_)
    refine g_iconst C (nI 1) dL_size_13 (k := ?_)
    exact gC_iret C hr (Nat.le_of_ble_eq_true rfl) (Nat.le_of_ble_eq_true rfl) (Or.inr ⟨rfl, hxp⟩) dL_size_14
  · refine g_i2l C dL_size_7 ?_
    refine g_last (x := v.toInt64) C 26 0 (by omega) (ho v ct1 hp) ht (by decide) (by decide) dL_size_8 ?_
    refine g_ext 26 (va_up_self _ _ _) (g := fun _ => v.toInt64) (fun k hk => by have : k = 0 := (by omega); subst this; simp [vp_updL]) ?_
    rw [bx_uu]
    refine g_goto (tgt := 15) C dL_size_9 (k := ?_)
    refine g_iconst C (nI 0) dL_size_15 (k := ?_)
    exact gC_iret C hr (Nat.le_of_ble_eq_true rfl) (Nat.le_of_ble_eq_true rfl) (Or.inl ⟨rfl, v, ct1, hp, rfl⟩) dL_size_16

abbrev rw_multiply : Room := { frames := 8, cells := 4, slots := 24, locals := 151 }
set_option maxRecDepth 100000 in
set_option maxHeartbeats 4000000 in
theorem w_multiply {l : Launch} {D : va_G} {tys : List (ClassId × FieldType)} {N : Nat} {ad : Nat → Nat} {ct : Nat → va_E} (hN : 27 ≤ N) {cJ : ClassId} {p : Nat} (e0 : ct 0 = obX p ad) (ht : tys[0]? = some (cJ, .long)) (x : Int32) (y : Int32) (z : Int32) {post : Int32 → (Nat → va_E) → Prop} {xp : String → (Nat → va_E) → Prop} (hM : gTi l yX0_multiply wsX0_multiply rmu 4 24 D vwCl tys N ad [.ref (ad 0), .int x, .int y, .int z] ct post xp) (hx : ∀ E ct1, xp E ct1 → E = xIO ∨ E = xUO) {o : Nat → Int64} (ho : ∀ v ct1, post v ct1 → ct1 26 = LA cJ 1 o) :
    gCi l yL_multiply wsL_multiply rw_multiply 4 24 D vwCl tys N ad [.ref (ad 0), .int x, .int y, .int z, .ref (ad 26)] ct (fun r ct1 => (r = nI 0 ∧ ∃ v ct2, post v ct2 ∧ ct1 = va_up ct2 26 (LA cJ 1 (fun _ => v.toInt64))) ∨ (r = nI 1 ∧ xp xIO ct1) ∨ (r = nI 2 ∧ xp xUO ct1)) := by
  refine gofC (cc := cL_multiply) (maxL := 6) (hh := [(0, 12, 15, 26), (0, 12, 19, 44)]) (by decide) rfl (Nat.le_of_ble_eq_true rfl) ?_
  intro M sz C hlM hRM hr Y
  refine g_aload C dL_multiply_0 (k := ?_)
  refine g_iconst C (nI 0) dL_multiply_2 (k := ?_)
  refine g_aload_n C dL_multiply_3 (k := ?_)
  refine g_iload_n C dL_multiply_4 (k := ?_)
  refine g_iload_n C dL_multiply_5 (k := ?_)
  refine g_iload_n C dL_multiply_6 (k := ?_)
  refine g_tryi (n := 3) (av := [.int x, .int y, .int z]) (rest := [.int (nI 0), .ref (ad 26)]) C Y 0 (by omega) e0 rfl (by rw [hlM]; exact hM) gL_multiply_X0_multiply rfl ⟨rfl, rfl⟩ (by rw [hRM]; exact ⟨Nat.le_of_ble_eq_true rfl, Nat.le_of_ble_eq_true rfl⟩) (by rw [hRM]; exact ⟨Nat.le_of_ble_eq_true rfl, Nat.le_of_ble_eq_true rfl⟩) (Nat.le_of_ble_eq_true rfl) (by decide +kernel) rfl dL_multiply_7 (fun E ct1 hxp => ?_) (fun v ct1 hp => ?_)
  · rcases hx E ct1 hxp with hE | hE
    · subst hE
      refine ⟨15, gCa_1 C Y (fun x hx => by have e := Option.some.inj hx; subst e; exact ⟨rfl, rfl, rfl⟩) (by decide) (by decide +kernel) (by decide +kernel), fun q9 => ?_⟩
      refine g_astore C dL_multiply_15 (k := ?_)
      refine g_iconst C (nI 1) dL_multiply_17 (k := ?_)
      exact gC_iret C hr (Nat.le_of_ble_eq_true rfl) (Nat.le_of_ble_eq_true rfl) (Or.inr (Or.inl ⟨rfl, hxp⟩)) dL_multiply_18
    · subst hE
      refine ⟨19, gCa_2 C Y (fun x hx => by have e := Option.some.inj hx; subst e; exact ⟨rfl, rfl, rfl⟩) (fun x hx => by have e := Option.some.inj hx; subst e; rfl) (by decide) (by decide) (by decide +kernel) (by decide +kernel) Y.2.2.2 (by decide +kernel), fun q9 => ?_⟩
      refine g_astore C dL_multiply_19 (k := ?_)
      refine g_iconst C (nI 2) dL_multiply_21 (k := ?_)
      exact gC_iret C hr (Nat.le_of_ble_eq_true rfl) (Nat.le_of_ble_eq_true rfl) (Or.inr (Or.inr ⟨rfl, hxp⟩)) dL_multiply_22
  · refine g_i2l C dL_multiply_10 ?_
    refine g_last (x := v.toInt64) C 26 0 (by omega) (ho v ct1 hp) ht (by decide) (by decide) dL_multiply_11 ?_
    refine g_ext 26 (va_up_self _ _ _) (g := fun _ => v.toInt64) (fun k hk => by have : k = 0 := (by omega); subst this; simp [vp_updL]) ?_
    rw [bx_uu]
    refine g_goto (tgt := 23) C dL_multiply_12 (k := ?_)
    refine g_iconst C (nI 0) dL_multiply_23 (k := ?_)
    exact gC_iret C hr (Nat.le_of_ble_eq_true rfl) (Nat.le_of_ble_eq_true rfl) (Or.inl ⟨rfl, v, ct1, hp, rfl⟩) dL_multiply_24

abbrev rw_sum : Room := { frames := 8, cells := 4, slots := 24, locals := 149 }
set_option maxRecDepth 100000 in
set_option maxHeartbeats 4000000 in
theorem w_sum {l : Launch} {D : va_G} {tys : List (ClassId × FieldType)} {N : Nat} {ad : Nat → Nat} {ct : Nat → va_E} (hN : 27 ≤ N) {cJ : ClassId} {p : Nat} (e0 : ct 0 = obX p ad) (ht : tys[0]? = some (cJ, .long)) (x : Int32) (y : Int32) (z : Int32) {post : Int32 → (Nat → va_E) → Prop} {xp : String → (Nat → va_E) → Prop} (hM : gTi l yX0_sum wsX0_sum rmu 4 24 D vwCl tys N ad [.ref (ad 0), .int x, .int y, .int z] ct post xp) (hx : ∀ E ct1, xp E ct1 → E = xIO ∨ E = xUO) {o : Nat → Int64} (ho : ∀ v ct1, post v ct1 → ct1 26 = LA cJ 1 o) :
    gCi l yL_sum wsL_sum rw_sum 4 24 D vwCl tys N ad [.ref (ad 0), .int x, .int y, .int z, .ref (ad 26)] ct (fun r ct1 => (r = nI 0 ∧ ∃ v ct2, post v ct2 ∧ ct1 = va_up ct2 26 (LA cJ 1 (fun _ => v.toInt64))) ∨ (r = nI 1 ∧ xp xIO ct1) ∨ (r = nI 2 ∧ xp xUO ct1)) := by
  refine gofC (cc := cL_sum) (maxL := 6) (hh := [(0, 12, 15, 26), (0, 12, 19, 44)]) (by decide) rfl (Nat.le_of_ble_eq_true rfl) ?_
  intro M sz C hlM hRM hr Y
  refine g_aload C dL_sum_0 (k := ?_)
  refine g_iconst C (nI 0) dL_sum_2 (k := ?_)
  refine g_aload_n C dL_sum_3 (k := ?_)
  refine g_iload_n C dL_sum_4 (k := ?_)
  refine g_iload_n C dL_sum_5 (k := ?_)
  refine g_iload_n C dL_sum_6 (k := ?_)
  refine g_tryi (n := 3) (av := [.int x, .int y, .int z]) (rest := [.int (nI 0), .ref (ad 26)]) C Y 0 (by omega) e0 rfl (by rw [hlM]; exact hM) gL_sum_X0_sum rfl ⟨rfl, rfl⟩ (by rw [hRM]; exact ⟨Nat.le_of_ble_eq_true rfl, Nat.le_of_ble_eq_true rfl⟩) (by rw [hRM]; exact ⟨Nat.le_of_ble_eq_true rfl, Nat.le_of_ble_eq_true rfl⟩) (Nat.le_of_ble_eq_true rfl) (by decide +kernel) rfl dL_sum_7 (fun E ct1 hxp => ?_) (fun v ct1 hp => ?_)
  · rcases hx E ct1 hxp with hE | hE
    · subst hE
      refine ⟨15, gCa_1 C Y (fun x hx => by have e := Option.some.inj hx; subst e; exact ⟨rfl, rfl, rfl⟩) (by decide) (by decide +kernel) (by decide +kernel), fun q9 => ?_⟩
      refine g_astore C dL_sum_15 (k := ?_)
      refine g_iconst C (nI 1) dL_sum_17 (k := ?_)
      exact gC_iret C hr (Nat.le_of_ble_eq_true rfl) (Nat.le_of_ble_eq_true rfl) (Or.inr (Or.inl ⟨rfl, hxp⟩)) dL_sum_18
    · subst hE
      refine ⟨19, gCa_2 C Y (fun x hx => by have e := Option.some.inj hx; subst e; exact ⟨rfl, rfl, rfl⟩) (fun x hx => by have e := Option.some.inj hx; subst e; rfl) (by decide) (by decide) (by decide +kernel) (by decide +kernel) Y.2.2.2 (by decide +kernel), fun q9 => ?_⟩
      refine g_astore C dL_sum_19 (k := ?_)
      refine g_iconst C (nI 2) dL_sum_21 (k := ?_)
      exact gC_iret C hr (Nat.le_of_ble_eq_true rfl) (Nat.le_of_ble_eq_true rfl) (Or.inr (Or.inr ⟨rfl, hxp⟩)) dL_sum_22
  · refine g_i2l C dL_sum_10 ?_
    refine g_last (x := v.toInt64) C 26 0 (by omega) (ho v ct1 hp) ht (by decide) (by decide) dL_sum_11 ?_
    refine g_ext 26 (va_up_self _ _ _) (g := fun _ => v.toInt64) (fun k hk => by have : k = 0 := (by omega); subst this; simp [vp_updL]) ?_
    rw [bx_uu]
    refine g_goto (tgt := 23) C dL_sum_12 (k := ?_)
    refine g_iconst C (nI 0) dL_sum_23 (k := ?_)
    exact gC_iret C hr (Nat.le_of_ble_eq_true rfl) (Nat.le_of_ble_eq_true rfl) (Or.inl ⟨rfl, v, ct1, hp, rfl⟩) dL_sum_24
