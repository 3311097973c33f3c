/-! the world at the start of the law -/
def adW (qx : Nat) (FX : Nat → Nat) (qm : Nat) (FM : Nat → Nat) (qo : Nat) : AD := fun k i => if k = 33 then qo else if k = 32 then FM i else if k = 31 then qm else adS qx FX k i
theorem inv_st0 : Inv st0 := by
  have h0 : ∀ f k, f ≠ 21 → f ≠ 10 → f ≠ 32 → st0 f k = 0 := fun f k h1 h2 h3 => by unfold st0; rw [if_neg h1, if_neg h2, if_neg h3]
  refine ⟨by decide, by decide, by decide, by decide, by decide, ⟨fun k => by rw [h0 1 k (by decide) (by decide) (by decide)]; decide, fun k => by rw [h0 3 k (by decide) (by decide) (by decide)]; decide, fun k => by rw [h0 5 k (by decide) (by decide) (by decide)]; decide, fun k => by rw [h0 7 k (by decide) (by decide) (by decide)]; decide, fun k => by rw [h0 11 k (by decide) (by decide) (by decide)]; decide⟩, fun i hi => ?_, fun i hi => ?_, fun i hi => ?_, fun c hc => ?_, fun t ht => ?_, fun j => ?_, fun l hl => ?_, fun i hi => ?_, fun l hl => ?_, fun j _ => h0 3 j (by decide) (by decide) (by decide), fun i _ _ k _ => h0 7 _ (by decide) (by decide) (by decide), fun t _ => ⟨h0 12 t (by decide) (by decide) (by decide), h0 13 t (by decide) (by decide) (by decide)⟩, fun j _ => h0 11 j (by decide) (by decide) (by decide), fun k c o _ _ _ _ => h0 14 _ (by decide) (by decide) (by decide), fun l _ => h0 17 l (by decide) (by decide) (by decide), fun j _ => h0 16 j (by decide) (by decide) (by decide)⟩
  · exact absurd hi (Nat.not_lt_zero i)
  · rw [h0 6 i (by decide) (by decide) (by decide)]
    exact ⟨by decide, fun k hk => absurd hk (Nat.not_lt_zero k)⟩
  · rw [h0 8 i (by decide) (by decide) (by decide)]
    exact ⟨by decide, fun k hk => absurd hk (Nat.not_lt_zero k)⟩
  · exact absurd hc (Nat.not_lt_zero c)
  · rw [h0 12 t (by decide) (by decide) (by decide), h0 13 t (by decide) (by decide) (by decide)]
    exact ⟨by decide, by decide, rfl⟩
  · rw [h0 14 j (by decide) (by decide) (by decide)]; decide
  · rw [h0 17 l (by decide) (by decide) (by decide)]
    exact ⟨by decide, fun k hk => absurd hk (Nat.not_lt_zero k)⟩
  · exact absurd hi (Nat.not_lt_zero i)
  · show (1 : Nat) ≤ 1000
    decide
theorem pag_st0 : Pag st0 := ⟨by decide, fun k => by show (0 : Nat) < 65536; decide⟩
set_option maxRecDepth 100000 in
set_option maxHeartbeats 4000000 in
theorem wC_st {qx qm qo : Nat} {FX FM : Nat → Nat} : ∀ k i, k ≤ 18 → wC st0 st0 (adS qx FX) k i = wC st0 st0 (adW qx FX qm FM qo) k i := by
  intro k i h
  match k, h with
  | 0, h => rfl
  | 1, h => rfl
  | 2, h => rfl
  | 3, h => rfl
  | 4, h => rfl
  | 5, h => rfl
  | 6, h => rfl
  | 7, h => rfl
  | 8, h => rfl
  | 9, h => rfl
  | 10, h => rfl
  | 11, h => rfl
  | 12, h => rfl
  | 13, h => rfl
  | 14, h => rfl
  | 15, h => rfl
  | 16, h => rfl
  | 17, h => rfl
  | 18, h => rfl
  | k + 19, h => exact absurd h (by omega)
theorem out0 : (fun _ => 0 : Nat → Int64) = (fun j => if j = 0 then (nI (st0 40 0)).toInt64 else 0) := by
  funext j
  by_cases h : j = 0
  · rw [if_pos h]; exact (show (0 : Int64) = (nI 0).toInt64 by decide +kernel)
  · rw [if_neg h]
abbrev LX : List Nat := [14, 13, 12, 11, 10, 9, 8, 7, 6, 5, 4, 3, 2, 1]
abbrev LM : List Nat := [25, 22, 21, 20, 19, 17, 16, 14, 13, 12, 11, 10, 8, 7, 6, 5, 4, 3, 1]
theorem mArr_LM : ∀ f, mArr f = true → f ∈ LM := fun f h => by
  have h26 : f < 26 := by
    rcases Nat.lt_or_ge f 26 with q | q
    · exact q
    · exfalso
      match f, q, h with
      | n + 26, q, h => cases h
  have all : ∀ f, f < 26 → mArr f = true → f ∈ LM := by decide
  exact all f h26 h
/-- whose number a role has, at the start -/
def psX (e k i : Nat) : Prop := (1 ≤ e ∧ e ≤ 14 ∧ k = e ∧ i = 0) ∨ (100 ≤ e ∧ e < 148 ∧ k = 17 + e % 2 ∧ i = (e - 100) / 2)
set_option maxRecDepth 100000 in
set_option maxHeartbeats 4000000 in
theorem lv_st {qx qm qo : Nat} {FX FM : Nat → Nat} {k i : Nat} (h : lvw st0 k i) : (k = 0 ∧ i = 0 ∧ adW qx FX qm FM qo k i = qx) ∨ (∃ e, psX e k i ∧ adW qx FX qm FM qo k i = FX e) ∨ (k = 31 ∧ i = 0 ∧ adW qx FX qm FM qo k i = qm) ∨ (k = 32 ∧ mArr i = true ∧ adW qx FX qm FM qo k i = FM i) ∨ (k = 33 ∧ i = 0 ∧ adW qx FX qm FM qo k i = qo) := by
  match k, h with
  | 0, h => exact Or.inl ⟨rfl, h, rfl⟩
  | 1, h => exact Or.inr (Or.inl ⟨1, Or.inl ⟨by decide, by decide, rfl, h⟩, rfl⟩)
  | 2, h => exact Or.inr (Or.inl ⟨2, Or.inl ⟨by decide, by decide, rfl, h⟩, rfl⟩)
  | 3, h => exact Or.inr (Or.inl ⟨3, Or.inl ⟨by decide, by decide, rfl, h⟩, rfl⟩)
  | 4, h => exact Or.inr (Or.inl ⟨4, Or.inl ⟨by decide, by decide, rfl, h⟩, rfl⟩)
  | 5, h => exact Or.inr (Or.inl ⟨5, Or.inl ⟨by decide, by decide, rfl, h⟩, rfl⟩)
  | 6, h => exact Or.inr (Or.inl ⟨6, Or.inl ⟨by decide, by decide, rfl, h⟩, rfl⟩)
  | 7, h => exact Or.inr (Or.inl ⟨7, Or.inl ⟨by decide, by decide, rfl, h⟩, rfl⟩)
  | 8, h => exact Or.inr (Or.inl ⟨8, Or.inl ⟨by decide, by decide, rfl, h⟩, rfl⟩)
  | 9, h => exact Or.inr (Or.inl ⟨9, Or.inl ⟨by decide, by decide, rfl, h⟩, rfl⟩)
  | 10, h => exact Or.inr (Or.inl ⟨10, Or.inl ⟨by decide, by decide, rfl, h⟩, rfl⟩)
  | 11, h => exact Or.inr (Or.inl ⟨11, Or.inl ⟨by decide, by decide, rfl, h⟩, rfl⟩)
  | 12, h => exact Or.inr (Or.inl ⟨12, Or.inl ⟨by decide, by decide, rfl, h⟩, rfl⟩)
  | 13, h => exact Or.inr (Or.inl ⟨13, Or.inl ⟨by decide, by decide, rfl, h⟩, rfl⟩)
  | 14, h => exact Or.inr (Or.inl ⟨14, Or.inl ⟨by decide, by decide, rfl, h⟩, rfl⟩)
  | 15, h => exact absurd h (Nat.not_lt_zero i)
  | 16, h => exact absurd h (Nat.not_lt_zero i)
  | 17, h => 
    have h2 : i < 24 := h
    exact Or.inr (Or.inl ⟨100 + 2 * i, Or.inr ⟨by omega, by omega, by omega, by omega⟩, rfl⟩)
  | 18, h =>
    have h2 : i < 24 := h
    exact Or.inr (Or.inl ⟨101 + 2 * i, Or.inr ⟨by omega, by omega, by omega, by omega⟩, rfl⟩)
  | 19, h => exact absurd rfl h.2
  | 20, h => exact absurd rfl h.2
  | 21, h => exact absurd h (Nat.not_lt_zero i)
  | 22, h => exact absurd h (Nat.not_lt_zero i)
  | 23, h => exact absurd h (Nat.not_lt_zero i)
  | 24, h => exact absurd h (Nat.not_lt_zero i)
  | 25, h => exact absurd h (Nat.not_lt_zero i)
  | 26, h => exact absurd h (Nat.not_lt_zero i)
  | 27, h => exact absurd h (Nat.not_lt_zero i)
  | 28, h => exact absurd h (Nat.not_lt_zero i)
  | 29, h => exact absurd h (Nat.not_lt_zero i)
  | 30, h => exact absurd h (Nat.not_lt_zero i)
  | 31, h => exact Or.inr (Or.inr (Or.inl ⟨rfl, h, rfl⟩))
  | 32, h => exact Or.inr (Or.inr (Or.inr (Or.inl ⟨rfl, h, rfl⟩)))
  | 33, h => exact Or.inr (Or.inr (Or.inr (Or.inr ⟨rfl, h, rfl⟩)))
  | k + 34, h => exact h.elim
theorem psX_US {e k i : Nat} (h : psX e k i) : US LX 148 e := by
  rcases h with q | q
  · refine Or.inl ?_
    have h2 : e = 1 ∨ e = 2 ∨ e = 3 ∨ e = 4 ∨ e = 5 ∨ e = 6 ∨ e = 7 ∨ e = 8 ∨ e = 9 ∨ e = 10 ∨ e = 11 ∨ e = 12 ∨ e = 13 ∨ e = 14 := by omega
    rcases h2 with r | r | r | r | r | r | r | r | r | r | r | r | r | r <;> rw [r] <;> decide
  · exact Or.inr ⟨q.1, q.2.1⟩
theorem psX_inj {e k i k' i' : Nat} (h : psX e k i) (h' : psX e k' i') : k = k' ∧ i = i' := by
  unfold psX at h h'
  omega
theorem w_start {qx qm qo : Nat} {G0 Ga Gb : GH} {rawX rawM : LC} {FX FM : Nat → Nat} (HX : NI (va_up G0 qx (some rawX)) Ga qx LX 148 FX) (HC : ∀ k i, lv0 k i → Ga (adS qx FX k i) = some (wC st0 st0 (adS qx FX) k i)) (hqm : Ga qm = none) (HM : NI (va_up Ga qm (some rawM)) Gb qm LM 100 FM) (HM1 : Gb qm = some (.inr (9, mF st0 (fun _ i => FM i)))) (HM2 : ∀ f, mArr f = true → Gb (FM f) = some (mA st0 f)) (hqo : Gb qo = none) : World st0 st0 (adW qx FX qm FM qo) (va_up Gb qo (some (.inl (.long, 1, .inr (.inl (fun _ => 0)))))) := by
  have kGb : ∀ x c, Ga x = some c → Gb x = some c := fun x c hx => HM.2.2.2.1 x c (up_n (cx_nf hx hqm) hx) (cx_nf hx hqm)
  have k4 : ∀ x c, Gb x = some c → va_up Gb qo (some (.inl (.long, 1, .inr (.inl (fun _ => 0))))) x = some c := fun x c hx => up_n (cx_nf hx hqo) hx
  have hqx : ∃ c, Ga qx = some c := HX.2.2.2.2.2
  have hFX : ∀ e, US LX 148 e → ∃ c, Ga (FX e) = some c := HX.2.1
  have hXx : ∀ e, US LX 148 e → FX e ≠ qx := fun e he r => by
    have h1 := HX.1 e he
    rw [r, up_s] at h1; cases h1
  have hFM : ∀ f, mArr f = true → Ga (FM f) = none := fun f hf => by
    have h1 := HM.1 f (Or.inl (mArr_LM f hf))
    have h2 : FM f ≠ qm := fun r => by rw [r, up_s] at h1; cases h1
    unfold va_up at h1
    rw [if_neg h2] at h1; exact h1
  have hFMm : ∀ f, mArr f = true → FM f ≠ qm := fun f hf r => by
    have h1 := HM.1 f (Or.inl (mArr_LM f hf))
    rw [r, up_s] at h1; cases h1
  have ne1 : ∀ x y : Nat, (∃ c, Ga x = some c) → Ga y = none → x ≠ y := fun x y hx hy r => by
    obtain ⟨c, hc⟩ := hx
    rw [r, hy] at hc; cases hc
  have ne2 : ∀ x : Nat, (∃ c, Gb x = some c) → x ≠ qo := fun x hx r => by
    obtain ⟨c, hc⟩ := hx
    rw [r, hqo] at hc; cases hc
  have up : ∀ x : Nat, (∃ c, Ga x = some c) → ∃ c, Gb x = some c := fun x hx => by
    obtain ⟨c, hc⟩ := hx
    exact ⟨c, kGb x c hc⟩
  refine ⟨fun k i hk => ?_, fun k i k' i' h1 h2 e => ?_⟩
  · by_cases h18 : k ≤ 18
    · have hh := HC k i ⟨h18, hk⟩
      have ha : adW qx FX qm FM qo k i = adS qx FX k i := by unfold adW; rw [if_neg (by omega), if_neg (by omega), if_neg (by omega)]
      rw [ha, ← wC_st (qx := qx) (FX := FX) (qm := qm) (FM := FM) (qo := qo) k i h18]
      exact k4 _ _ (kGb _ _ hh)
    · rcases lv_st (qx := qx) (FX := FX) (qm := qm) (FM := FM) (qo := qo) hk with ⟨q, _⟩ | ⟨e, q, _⟩ | ⟨q, q2, q3⟩ | ⟨q, q2, q3⟩ | ⟨q, q2, q3⟩
      · omega
      · unfold psX at q; omega
      · rw [q3, q, q2]; exact k4 _ _ HM1
      · rw [q3, q]; exact k4 _ _ (HM2 i q2)
      · rw [q3, q, q2]
        refine up_s.trans ?_
        rw [out0]; rfl
  · rcases lv_st (qx := qx) (FX := FX) (qm := qm) (FM := FM) (qo := qo) h1 with ⟨p, p2, p3⟩ | ⟨e1, p, p3⟩ | ⟨p, p2, p3⟩ | ⟨p, p2, p3⟩ | ⟨p, p2, p3⟩ <;> rcases lv_st (qx := qx) (FX := FX) (qm := qm) (FM := FM) (qo := qo) h2 with ⟨r, r2, r3⟩ | ⟨e2, r, r3⟩ | ⟨r, r2, r3⟩ | ⟨r, r2, r3⟩ | ⟨r, r2, r3⟩ <;> rw [p3, r3] at e
    · exact ⟨by omega, by omega⟩
    · exact absurd e.symm (hXx e2 (psX_US r))
    · exact absurd e (ne1 _ _ hqx hqm)
    · exact absurd e (ne1 _ _ hqx (hFM i' r2))
    · exact absurd e (ne2 _ (up _ hqx))
    · exact absurd e (hXx e1 (psX_US p))
    · have h3 := HX.2.2.1 e1 e2 (psX_US p) (psX_US r) e
      rw [h3] at p
      exact psX_inj p r
    · exact absurd e (ne1 _ _ (hFX e1 (psX_US p)) hqm)
    · exact absurd e (ne1 _ _ (hFX e1 (psX_US p)) (hFM i' r2))
    · exact absurd e (ne2 _ (up _ (hFX e1 (psX_US p))))
    · exact absurd e.symm (ne1 _ _ hqx hqm)
    · exact absurd e.symm (ne1 _ _ (hFX e2 (psX_US r)) hqm)
    · exact ⟨by omega, by omega⟩
    · exact absurd e.symm (hFMm i' r2)
    · exact absurd e (ne2 _ ⟨_, HM1⟩)
    · exact absurd e.symm (ne1 _ _ hqx (hFM i p2))
    · exact absurd e.symm (ne1 _ _ (hFX e2 (psX_US r)) (hFM i p2))
    · exact absurd e (hFMm i p2)
    · have h3 := HM.2.2.1 i i' (Or.inl (mArr_LM i p2)) (Or.inl (mArr_LM i' r2)) e
      exact ⟨by omega, h3⟩
    · exact absurd e (ne2 _ ⟨_, HM2 i p2⟩)
    · exact absurd e.symm (ne2 _ (up _ hqx))
    · exact absurd e.symm (ne2 _ (up _ (hFX e2 (psX_US r))))
    · exact absurd e.symm (ne2 _ ⟨_, HM1⟩)
    · exact absurd e.symm (ne2 _ ⟨_, HM2 i' r2⟩)
    · exact ⟨by omega, by omega⟩
