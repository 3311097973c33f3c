/-! faults and signs -/
section LN
variable {A : ST}
/-- the first place whose text is not there or not approved -/
def fst1 (A : ST) (l e g : Nat) : Nat → Nat
  | 0 => 0
  | k + 1 => if fst1 A l e g k ≠ 0 then fst1 A l e g k else if meB A e (cla A l k) = true then (if A 12 (3 * cla A l k + g) = 0 then 10 * k + 1 else if A 13 (3 * cla A l k + g) = 0 then 10 * k + 2 else 0) else 0
def hTx (A : ST) (l e g : Nat) : Nat → Bool
  | 0 => false
  | k + 1 => hTx A l e g k || isL A l e g k
theorem fap_le (l t g k p : Nat) : fap A l t g k p ≤ 4 := by
  unfold fap fau
  repeat' split
  all_goals omega
/-- the fault: none, or the first place's -/
theorem fof_cases (l t g k : Nat) : ∀ n, n ≤ A 17 l → (fof A l t g k n = 0 ∧ ∀ p, A 17 l - n ≤ p → p < A 17 l → fap A l t g k p = 0) ∨ ∃ p, A 17 l - n ≤ p ∧ p < A 17 l ∧ fof A l t g k n = 10 * p + fap A l t g k p ∧ fap A l t g k p ≠ 0 ∧ ∀ q, A 17 l - n ≤ q → q < p → fap A l t g k q = 0
  | 0, _ => Or.inl ⟨rfl, fun p h1 h2 => by omega⟩
  | n + 1, hn => by
    have e : fof A l t g k (n + 1) = (if fap A l t g k (A 17 l - (n + 1)) = 0 then fof A l t g k n else 10 * (A 17 l - (n + 1)) + fap A l t g k (A 17 l - (n + 1))) := rfl
    rw [e]
    by_cases c : fap A l t g k (A 17 l - (n + 1)) = 0
    · rw [if_pos c]
      rcases fof_cases l t g k n (by omega) with ⟨h1, h2⟩ | ⟨p, h1, h2, h3, h4, h5⟩
      · refine Or.inl ⟨h1, fun p h3 h4 => ?_⟩
        by_cases q : p = A 17 l - (n + 1)
        · rw [q]; exact c
        · exact h2 p (by omega) h4
      · refine Or.inr ⟨p, by omega, h2, h3, h4, fun q h6 h7 => ?_⟩
        by_cases r : q = A 17 l - (n + 1)
        · rw [r]; exact c
        · exact h5 q (by omega) h7
    · rw [if_neg c]
      exact Or.inr ⟨A 17 l - (n + 1), Nat.le_refl _, by omega, rfl, c, fun q h6 h7 => by omega⟩
theorem fst1_z (l e g k : Nat) (hk : ∀ p, p < k → ∀ cn, fap A l e g cn p = 0) : fst1 A l e g k = 0 := by
  induction k with
  | zero => rfl
  | succ k ih =>
    have h0 := ih (fun p hp cn => hk p (by omega) cn)
    have h1 := hk k (by omega) 0
    show (if fst1 A l e g k ≠ 0 then fst1 A l e g k else if meB A e (cla A l k) = true then (if A 12 (3 * cla A l k + g) = 0 then 10 * k + 1 else if A 13 (3 * cla A l k + g) = 0 then 10 * k + 2 else 0) else 0) = 0
    rw [if_neg (fun q => q h0)]
    unfold fap fau at h1
    by_cases m : meB A e (cla A l k) = true
    · rw [if_pos m] at h1 ⊢
      by_cases c1 : A 12 (3 * cla A l k + g) = 0
      · rw [if_pos c1] at h1; exact absurd h1 (by decide)
      · rw [if_neg c1] at h1 ⊢
        by_cases c2 : A 13 (3 * cla A l k + g) = 0
        · rw [if_pos c2] at h1; exact absurd h1 (by decide)
        · rw [if_neg c2]
    · rw [if_neg m]
/-- what fst1 is: 0, or ten times a place and 1 or 2, as its fault is -/
theorem fst1_cases (l e g cn : Nat) : ∀ n, (fst1 A l e g n = 0 ∧ ∀ p, p < n → fap A l e g cn p ≠ 1 ∧ fap A l e g cn p ≠ 2) ∨ ∃ p, p < n ∧ fst1 A l e g n = 10 * p + fap A l e g cn p ∧ (fap A l e g cn p = 1 ∨ fap A l e g cn p = 2) ∧ ∀ q, q < p → fap A l e g cn q ≠ 1 ∧ fap A l e g cn q ≠ 2
  | 0 => Or.inl ⟨rfl, fun p hp => absurd hp (Nat.not_lt_zero p)⟩
  | n + 1 => by
    have e0 : fst1 A l e g (n + 1) = (if fst1 A l e g n ≠ 0 then fst1 A l e g n else if meB A e (cla A l n) = true then (if A 12 (3 * cla A l n + g) = 0 then 10 * n + 1 else if A 13 (3 * cla A l n + g) = 0 then 10 * n + 2 else 0) else 0) := rfl
    have ef : fap A l e g cn n = if meB A e (cla A l n) = true then fau A l e (cla A l n) g cn else 0 := rfl
    rw [e0]
    rcases fst1_cases l e g cn n with ⟨h1, h2⟩ | ⟨p, h1, h2, h3, h4⟩
    · rw [if_neg (fun q => q h1)]
      have hall : (fap A l e g cn n ≠ 1 ∧ fap A l e g cn n ≠ 2) → ∀ p, p < n + 1 → fap A l e g cn p ≠ 1 ∧ fap A l e g cn p ≠ 2 := fun hq p hp => by
        by_cases r : p = n
        · rw [r]; exact hq
        · exact h2 p (by omega)
      by_cases m : meB A e (cla A l n) = true
      · rw [if_pos m]
        rw [if_pos m] at ef
        unfold fau at ef
        by_cases c1 : A 12 (3 * cla A l n + g) = 0
        · rw [if_pos c1] at ef ⊢
          exact Or.inr ⟨n, by omega, by rw [ef], Or.inl ef, h2⟩
        · rw [if_neg c1] at ef ⊢
          by_cases c2 : A 13 (3 * cla A l n + g) = 0
          · rw [if_pos c2] at ef ⊢
            exact Or.inr ⟨n, by omega, by rw [ef], Or.inr ef, h2⟩
          · rw [if_neg c2] at ef ⊢
            refine Or.inl ⟨rfl, hall ?_⟩
            rw [ef]
            repeat' split
            all_goals decide
      · rw [if_neg m]
        rw [if_neg m] at ef
        exact Or.inl ⟨rfl, hall (by rw [ef]; decide)⟩
    · rw [if_pos (by rcases h3 with h3 | h3 <;> omega)]
      exact Or.inr ⟨p, by omega, h2, h3, h4⟩
/-- what the law asks of a fault and of the first place without approved text -/
theorem fault_ok {l e g cn : Nat} : (fof A l e g cn (A 17 l) = 0 ∧ fst1 A l e g (A 17 l) = 0) ∨ ∃ p a, p < A 17 l ∧ fof A l e g cn (A 17 l) = 10 * p + a ∧ 1 ≤ a ∧ a ≤ 4 ∧ meB A e (cla A l p) = true ∧ (a ≤ 2 → fst1 A l e g (A 17 l) = 10 * p + a) ∧ (2 < a → fst1 A l e g (A 17 l) = 0 ∨ p ≤ fst1 A l e g (A 17 l) / 10) := by
  rcases fof_cases (A := A) l e g cn (A 17 l) (Nat.le_refl _) with ⟨h1, h2⟩ | ⟨p, -, h2, h3, h4, h5⟩
  · left
    refine ⟨h1, ?_⟩
    rcases fst1_cases (A := A) l e g cn (A 17 l) with ⟨g1, -⟩ | ⟨q, g1, g2, g3, -⟩
    · exact g1
    · have := h2 q (by omega) g1
      omega
  · right
    have h6 := fap_le (A := A) l e g cn p
    refine ⟨p, fap A l e g cn p, h2, h3, by omega, h6, ?_, fun ha => ?_, fun ha => ?_⟩
    · cases m : meB A e (cla A l p) with
      | true => rfl
      | false =>
        exfalso
        apply h4
        unfold fap
        rw [m]; rfl
    · rcases fst1_cases (A := A) l e g cn (A 17 l) with ⟨g1, g2⟩ | ⟨q, g1, g2, g3, g4⟩
      · have := g2 p h2
        omega
      · have hqp : q = p := by
          rcases Nat.lt_trichotomy q p with r | r | r
          · have := h5 q (by omega) r
            omega
          · exact r
          · have := g4 p r
            omega
        rw [g2, hqp]
    · rcases fst1_cases (A := A) l e g cn (A 17 l) with ⟨g1, g2⟩ | ⟨q, g1, g2, g3, g4⟩
      · exact Or.inl g1
      · right
        have hqp : p ≤ q := by
          rcases Nat.lt_or_ge q p with r | r
          · have := h5 q (by omega) r
            omega
          · exact r
        omega
/-! signs -/
theorem bld_g2 : ∀ (L : List Nat) (o : Bool) (k : Nat), k < L.length → (bld o L).getD k 0 = capN (opn o (L.take k)) (L.getD k 0)
  | [], _, k, h => absurd h (Nat.not_lt_zero k)
  | x :: r, o, 0, _ => rfl
  | x :: r, o, k + 1, h => by
    show (bld (nxo o x) r).getD k 0 = capN (opn o (x :: r.take k)) (r.getD k 0)
    rw [bld_g2 r (nxo o x) k (by simpa using h)]
    rfl
theorem opn_take : ∀ (L : List Nat) (o : Bool) (k : Nat), k < L.length → opn o (L.take (k + 1)) = nxo (opn o (L.take k)) (L.getD k 0)
  | [], _, k, h => absurd h (Nat.not_lt_zero k)
  | x :: r, o, 0, _ => by simp [opn]
  | x :: r, o, k + 1, h => by
    show opn (nxo o x) (r.take (k + 1)) = nxo (opn (nxo o x) (r.take k)) (r.getD k 0)
    exact opn_take r (nxo o x) k (by simpa using h)
theorem getD_mem {L : List Nat} {k : Nat} (h : k < L.length) : L.getD k 0 ∈ L := by
  rw [List.getD_eq_getElem?_getD, List.getElem?_eq_getElem h]
  exact List.getElem_mem h
theorem hTx_nil {l e g : Nat} (hI : Inv A) (hl : l < A 15 0) (he : e < A 18 0) (hg : g < 3) : ∀ n, n ≤ A 17 l → (ltL A l e g n = [] ↔ hTx A l e g n = false)
  | 0, _ => ⟨fun _ => rfl, fun _ => rfl⟩
  | n + 1, hn => by
    have ih := hTx_nil hI hl he hg n (by omega)
    have e1 : ltL A l e g (n + 1) = (if isL A l e g n = true then (if ltL A l e g n = [] then txL A (3 * cla A l n + g) e g 60 0 else ltL A l e g n ++ 32 :: txL A (3 * cla A l n + g) e g 60 0) else ltL A l e g n) := rfl
    have e2 : hTx A l e g (n + 1) = (hTx A l e g n || isL A l e g n) := rfl
    rw [e1, e2]
    cases hi : isL A l e g n with
    | false => rw [if_neg (by decide), Bool.or_false]; exact ih
    | true =>
      rw [if_pos rfl, Bool.or_true]
      refine ⟨fun h => ?_, fun h => by cases h⟩
      exfalso
      by_cases c : ltL A l e g n = []
      · rw [if_pos c] at h
        have hb15 := hI.b15
        have hb9 := hI.b9
        have hcl := ((hI.ro l (by omega)).2 n (by omega)).1
        have hne : A 12 (3 * cla A l n + g) ≠ 0 := by
          unfold isL at hi
          rw [Bool.and_eq_true] at hi
          exact of_decide_eq_true hi.2
        have := (txL_ok hI (t := 3 * cla A l n + g) (e := e) (g := g) (by show 3 * A 16 (6 * l + n) + g < 30; omega) he hg 60 0 rfl (Nat.zero_le _)).2.2 (by omega) (by decide)
        rw [h] at this
        exact absurd this (by decide)
      · rw [if_neg c] at h
        exact absurd (List.append_eq_nil_iff.mp h).1 c
/-- letters at a place of a built letter -/
def ltN (x : Nat) : Bool := decide (x ≠ 32) && decide (x ≠ 46)
theorem lB_n {x : Nat} (h : x < 65536) : lB (nI x) = ltN x := by
  unfold lB ltN
  by_cases a : x = 32
  · rw [a]; rfl
  · by_cases b : x = 46
    · rw [b]; rfl
    · rw [decide_eq_false (show ¬ nI x = 32 from fun q => a (ni_eq (b := 32) (by omega) (by decide) q)), decide_eq_false (show ¬ nI x = 46 from fun q => b (ni_eq (b := 46) (by omega) (by decide) q)), decide_eq_true a, decide_eq_true b]; rfl
theorem wcs_mono (f : Nat → Int32) : ∀ m n, n ≤ m → (wcs f n).1 ≤ (wcs f m).1
  | 0, n, h => by rw [show n = 0 by omega]; exact Nat.le_refl _
  | m + 1, n, h => by
    by_cases c : n = m + 1
    · rw [c]; exact Nat.le_refl _
    · have h1 := wcs_mono f m n (by omega)
      have h2 : (wcs f (m + 1)).1 = (wcs f m).1 + (if lB (f m) && !(wcs f m).2 then 1 else 0) := rfl
      omega
theorem wcL_le (L : List Nat) : wcL L ≤ L.length := wcs_le _ _
end LN
