/-! what the law asks of samples, faults and signs, as mathematics -/
section LM
variable {A : ST}
/-- one of the first k clauses of the letter asks a condition -/
def hasC (A : ST) (i : Nat) : Nat → Bool
  | 0 => false
  | k + 1 => hasC A i k || decide (A 10 (cla A i k) ≠ 0)
abbrev smV (A : ST) (i p : Nat) : Int32 := smF A i p (A 18 0)
def chs (A : ST) (i : Nat) : Nat → Nat → Bool
  | 0 => fun _ => false
  | p + 1 => fun j => chs A i p j || decide (smV A i p = nI j)
def ovr (A : ST) (i : Nat) : Nat → Bool
  | 0 => false
  | p + 1 => decide (smV A i p = -1)
theorem cvF_up (A : ST) (i j : Nat) : ∀ n m, n ≤ m → cvF A i n j = true → cvF A i m j = true := by
  intro n m hm h
  induction m with
  | zero => rw [show n = 0 by omega] at h; exact h
  | succ m ih =>
    by_cases e : n = m + 1
    · rw [← e]; exact h
    · show (cvF A i m j || _) = true
      rw [ih (by omega)]; rfl
theorem mb_nm {A : ST} {i : Nat} {f : Nat → Bool} {n : Nat} (h : ¬ (mbF A i f n).1 = -1) : ∃ t, t < n ∧ (mbF A i f n).1 = nI t ∧ 0 < nws A i f t := by
  induction n with
  | zero => exact absurd rfl h
  | succ n ih =>
    have e : mbF A i f (n + 1) = (if nws A i f n ≤ (mbF A i f n).2 then mbF A i f n else (nI n, nws A i f n)) := rfl
    rw [e] at h ⊢
    by_cases c : nws A i f n ≤ (mbF A i f n).2
    · rw [if_pos c] at h ⊢
      obtain ⟨t, h1, h2, h3⟩ := ih h
      exact ⟨t, by omega, h2, h3⟩
    · rw [if_neg c]
      exact ⟨n, by omega, rfl, by omega⟩
theorem mb_ge {A : ST} {i : Nat} {f : Nat → Bool} : ∀ n t, t < n → nws A i f t ≤ (mbF A i f n).2
  | 0, t, h => absurd h (Nat.not_lt_zero t)
  | n + 1, t, h => by
    have e : mbF A i f (n + 1) = (if nws A i f n ≤ (mbF A i f n).2 then mbF A i f n else (nI n, nws A i f n)) := rfl
    rw [e]
    by_cases c : nws A i f n ≤ (mbF A i f n).2
    · rw [if_pos c]
      by_cases q : t = n
      · rw [q]; exact c
      · exact mb_ge n t (by omega)
    · rw [if_neg c]
      show nws A i f t ≤ nws A i f n
      by_cases q : t = n
      · rw [q]; exact Nat.le_refl _
      · have := mb_ge (A := A) (i := i) (f := f) n t (by omega)
        omega
theorem mb_z {A : ST} {i : Nat} {f : Nat → Bool} : ∀ n, n < 2 ^ 31 → (mbF A i f n).1 = -1 → (mbF A i f n).2 = 0
  | 0, _, _ => rfl
  | n + 1, hn, h => by
    have e : mbF A i f (n + 1) = (if nws A i f n ≤ (mbF A i f n).2 then mbF A i f n else (nI n, nws A i f n)) := rfl
    rw [e] at h ⊢
    by_cases c : nws A i f n ≤ (mbF A i f n).2
    · rw [if_pos c] at h ⊢
      exact mb_z n (by omega) h
    · rw [if_neg c] at h
      exact absurd h (nI_nm (by omega))
/-- the samples: none, or the best of its turn, with new branches -/
theorem sm_in {i : Nat} (h31 : A 18 0 < 2 ^ 31) (k : Nat) : ∀ n, n ≤ A 18 0 → A 18 0 - n ≤ k → smF A i k n = -1 ∨ (k < A 18 0 ∧ smF A i k n = bsI A i k ∧ (∀ c, A 18 0 - n ≤ c → c ≤ k → ¬ bsI A i c = -1))
  | 0, _, _ => Or.inl rfl
  | n + 1, hn, hk => by
    have e : smF A i k (n + 1) = (if bsI A i (A 18 0 - (n + 1)) = -1 then -1 else if A 18 0 - (n + 1) = k then bsI A i (A 18 0 - (n + 1)) else smF A i k n) := rfl
    rw [e]
    by_cases c1 : bsI A i (A 18 0 - (n + 1)) = -1
    · rw [if_pos c1]; exact Or.inl rfl
    · rw [if_neg c1]
      by_cases c2 : A 18 0 - (n + 1) = k
      · rw [if_pos c2, c2]
        refine Or.inr ⟨by omega, rfl, fun c h1 h2 => ?_⟩
        rw [show c = A 18 0 - (n + 1) by omega]; exact c1
      · rw [if_neg c2]
        rcases sm_in h31 k n (by omega) (by omega) with h | ⟨h1, h2, h3⟩
        · exact Or.inl h
        · refine Or.inr ⟨h1, h2, fun c h4 h5 => ?_⟩
          by_cases q : c = A 18 0 - (n + 1)
          · rw [q]; exact c1
          · exact h3 c (by omega) h5
theorem sm_no {i k p : Nat} (hp : p ≤ k) (hb : bsI A i p = -1 ∨ A 18 0 ≤ p) : ∀ n, n ≤ A 18 0 → A 18 0 - n ≤ p ∨ A 18 0 ≤ p → smF A i k n = -1
  | 0, _, _ => rfl
  | n + 1, hn, h => by
    have e : smF A i k (n + 1) = (if bsI A i (A 18 0 - (n + 1)) = -1 then -1 else if A 18 0 - (n + 1) = k then bsI A i (A 18 0 - (n + 1)) else smF A i k n) := rfl
    rw [e]
    by_cases c1 : bsI A i (A 18 0 - (n + 1)) = -1
    · rw [if_pos c1]
    · rw [if_neg c1]
      by_cases q : p = A 18 0 - (n + 1)
      · rcases hb with hb | hb
        · rw [q] at hb; exact absurd hb c1
        · omega
      · rw [if_neg (by omega)]
        exact sm_no hp hb n (by omega) (by omega)
theorem smV_cases {i : Nat} (h31 : A 18 0 < 2 ^ 31) (p : Nat) : smV A i p = -1 ∨ (p < A 18 0 ∧ smV A i p = bsI A i p ∧ ∃ t, t < A 18 0 ∧ smV A i p = nI t ∧ 0 < nws A i (cvF A i p) t) := by
  rcases sm_in (A := A) (i := i) h31 p (A 18 0) (Nat.le_refl _) (by omega) with h | ⟨h1, h2, h3⟩
  · exact Or.inl h
  · obtain ⟨t, g1, g2, g3⟩ := mb_nm (h3 p (by omega) (Nat.le_refl _))
    exact Or.inr ⟨h1, h2, t, g1, h2.trans g2, g3⟩
theorem smV_up {i : Nat} (h31 : A 18 0 < 2 ^ 31) {p q : Nat} (hpq : p ≤ q) (h : smV A i p = -1) : smV A i q = -1 := by
  rcases smV_cases (A := A) (i := i) h31 q with h2 | ⟨g1, g2, t, g3, g4, g5⟩
  · exact h2
  · rcases sm_in (A := A) (i := i) h31 q (A 18 0) (Nat.le_refl _) (by omega) with h3 | ⟨k1, k2, k3⟩
    · exact h3
    · exfalso
      rcases sm_in (A := A) (i := i) h31 p (A 18 0) (Nat.le_refl _) (by omega) with h4 | ⟨l1, l2, l3⟩
      · -- p is told none though its best is there
        have : ∀ n, n ≤ A 18 0 → A 18 0 - n ≤ p → smF A i p n = bsI A i p := by
          intro n
          induction n with
          | zero => intro _ hn; omega
          | succ n ih =>
            intro hn hn2
            have e : smF A i p (n + 1) = (if bsI A i (A 18 0 - (n + 1)) = -1 then -1 else if A 18 0 - (n + 1) = p then bsI A i (A 18 0 - (n + 1)) else smF A i p n) := rfl
            rw [e, if_neg (k3 _ (by omega) (by omega))]
            by_cases c : A 18 0 - (n + 1) = p
            · rw [if_pos c, c]
            · rw [if_neg c]; exact ih (by omega) (by omega)
        have h5 := this (A 18 0) (Nat.le_refl _) (by omega)
        exact k3 p (by omega) hpq (h5.symm.trans h4)
      · exact l3 p (by omega) (Nat.le_refl _) (l2.symm.trans h)
theorem smV_ne {i : Nat} (h31 : A 18 0 < 2 ^ 31) {p q t : Nat} (ht : t < A 18 0) (hpq : p < q) (hp : smV A i p = nI t) : ¬ smV A i q = nI t := fun hq => by
  rcases smV_cases (A := A) (i := i) h31 q with h2 | ⟨g1, g2, t2, g3, g4, g5⟩
  · rw [h2] at hq; exact nI_nm (show t < 2 ^ 31 by omega) hq.symm
  · have e : t2 = t := ni_eq (by omega) (by omega) (g4.symm.trans hq)
    rw [e] at g5
    rcases smV_cases (A := A) (i := i) h31 p with h3 | ⟨k1, k2, -⟩
    · rw [h3] at hp; exact nI_nm (show t < 2 ^ 31 by omega) hp.symm
    · have hb : bsI A i p = nI t := k2.symm.trans hp
      have hz : nws A i (cvF A i q) t = 0 := by
        refine cnt_0 12 (fun j _ => ?_)
        cases hj : brF A i t (A 17 i) j with
        | false => rfl
        | true =>
          have h6 : cvF A i (p + 1) j = true := by
            rw [cvF_s (by omega) hb]
            show (cvF A i p j || brF A i t (A 17 i) j) = true
            rw [hj, Bool.or_true]
          rw [cvF_up A i j (p + 1) q (by omega) h6]; rfl
      omega
theorem chs_no {i : Nat} (h31 : A 18 0 < 2 ^ 31) {t p : Nat} (ht : t < A 18 0) (hp : smV A i p = nI t) : ∀ q, q ≤ p → chs A i q t = false
  | 0, _ => rfl
  | q + 1, hq => by
    show (chs A i q t || decide (smV A i q = nI t)) = false
    rw [chs_no h31 ht hp q (by omega), decide_eq_false (fun e => smV_ne h31 ht (show q < p by omega) e hp)]; rfl
theorem ovr_no {i : Nat} (h31 : A 18 0 < 2 ^ 31) {t p : Nat} (ht : t < A 18 0) (hp : smV A i p = nI t) : ovr A i p = false := by
  cases p with
  | zero => rfl
  | succ p =>
    show decide (smV A i p = -1) = false
    refine decide_eq_false (fun e => ?_)
    have := smV_up h31 (show p ≤ p + 1 by omega) e
    rw [this] at hp
    exact nI_nm (show t < 2 ^ 31 by omega) hp.symm
theorem hasC_ex {i : Nat} : ∀ n, hasC A i n = true → ∃ p, p < n ∧ A 10 (cla A i p) ≠ 0
  | 0, h => by cases h
  | n + 1, h => by
    have h2 : (hasC A i n || decide (A 10 (cla A i n) ≠ 0)) = true := h
    rcases Bool.or_eq_true _ _ ▸ h2 with h3 | h3
    · obtain ⟨p, h4, h5⟩ := hasC_ex n h3
      exact ⟨p, by omega, h5⟩
    · exact ⟨n, by omega, of_decide_eq_true h3⟩
theorem hasC_no {i : Nat} : ∀ n, hasC A i n = false → ∀ p, p < n → A 10 (cla A i p) = 0
  | 0, _, p, hp => absurd hp (Nat.not_lt_zero p)
  | n + 1, h, p, hp => by
    have h2 : (hasC A i n || decide (A 10 (cla A i n) ≠ 0)) = false := h
    obtain ⟨h3, h4⟩ := Bool.or_eq_false_iff.mp h2
    by_cases q : p = n
    · rw [q]
      have h5 := of_decide_eq_false h4
      omega
    · exact hasC_no n h3 p (by omega)
/-- the first sample is there just if a clause asks a condition and there are data -/
theorem sm_first {i : Nat} (h31 : A 18 0 < 2 ^ 31) (h17 : A 17 i ≤ 6) (h : smV A i 0 = -1) : hasC A i (A 17 i) = false ∨ A 18 0 = 0 := by
  by_cases h0 : A 18 0 = 0
  · exact Or.inr h0
  · left
    cases hc : hasC A i (A 17 i) with
    | false => rfl
    | true =>
      exfalso
      obtain ⟨p, h1, h2⟩ := hasC_ex _ hc
      have hb : bsI A i 0 = -1 := by
        rcases sm_in (A := A) (i := i) h31 0 (A 18 0) (Nat.le_refl _) (by omega) with h4 | ⟨-, l2, -⟩
        · obtain ⟨n, hn⟩ : ∃ n, A 18 0 = n + 1 := ⟨A 18 0 - 1, by omega⟩
          have e : smF A i 0 (n + 1) = (if bsI A i (A 18 0 - (n + 1)) = -1 then -1 else if A 18 0 - (n + 1) = 0 then bsI A i (A 18 0 - (n + 1)) else smF A i 0 n) := rfl
          have h5 : smF A i 0 (n + 1) = -1 := by rw [← hn]; exact h
          rw [e, show A 18 0 - (n + 1) = 0 by omega, if_pos rfl] at h5
          by_cases c : bsI A i 0 = -1
          · exact c
          · rw [if_neg c] at h5; exact h5
        · exact l2.symm.trans h
      have hz := mb_z (A := A) (i := i) (f := cvF A i 0) (A 18 0) h31 hb
      have hg := mb_ge (A := A) (i := i) (f := cvF A i 0) (A 18 0) 0 (by omega)
      rw [hz] at hg
      have hn0 : nws A i (cvF A i 0) 0 = 0 := by omega
      have hm := cnt_0m 12 hn0 (2 * p + b2n (meB A 0 (cla A i p))) (by
        have hb2 := b2n_lt (meB A 0 (cla A i p))
        omega)
      have hbr : brF A i 0 (A 17 i) (2 * p + b2n (meB A 0 (cla A i p))) = true := by
        rw [brF_at (b2n_lt _), decide_eq_true h1, decide_eq_true h2]
        cases meB A 0 (cla A i p) <;> rfl
      rw [hbr] at hm
      have h9 : true = false := hm
      cases h9
theorem sm_firstT {i : Nat} (h31 : A 18 0 < 2 ^ 31) {t : Nat} (ht : t < A 18 0) (h : smV A i 0 = nI t) : hasC A i (A 17 i) = true := by
  cases hc : hasC A i (A 17 i) with
  | true => rfl
  | false =>
    exfalso
    rcases smV_cases (A := A) (i := i) h31 0 with h2 | ⟨g1, g2, t2, g3, g4, g5⟩
    · rw [h2] at h; exact nI_nm (show t < 2 ^ 31 by omega) h.symm
    · have hz : nws A i (cvF A i 0) t2 = 0 := by
        refine cnt_0 12 (fun j _ => ?_)
        have : brF A i t2 (A 17 i) j = false := by
          unfold brF
          by_cases q : j / 2 < A 17 i
          · rw [hasC_no _ hc _ q, decide_eq_false (show ¬ (0 : Nat) ≠ 0 from fun x => x rfl), Bool.false_and, Bool.and_false]
          · rw [decide_eq_false q]; rfl
        rw [this]; rfl
      omega
theorem bitOk_all : (List.range 8).all (fun t => (List.range 64).all (fun a => (List.range 64).all (fun b => decide (((nI (64 * a + b) >>> (nI t &&& 31)) &&& 1) = nI ((64 * a + b) / 2 ^ t % 2))))) = true := by decide +kernel
theorem bit_n {m t : Nat} (hm : m < 4096) (ht : t < 8) : ((nI m >>> (nI t &&& 31)) &&& 1) = nI (m / 2 ^ t % 2) := by
  have h1 := List.all_eq_true.mp bitOk_all t (List.mem_range.mpr ht)
  have h2 := List.all_eq_true.mp h1 (m / 64) (List.mem_range.mpr (by omega))
  have h3 := of_decide_eq_true (List.all_eq_true.mp h2 (m % 64) (List.mem_range.mpr (by omega)))
  rw [show 64 * (m / 64) + m % 64 = m by omega] at h3
  exact h3
theorem enc_at {f : Nat → Bool} {t : Nat} (ht : t < 8) (h : f t = false) : ((nI (enc f 12) >>> (nI t &&& 31)) &&& 1) = 0 := by
  rw [bit_n (enc_lt f 12) ht]
  have h1 := enc_bit f t 12
  rw [h, Bool.and_false, Nat.testBit_eq_decide_div_mod_eq] at h1
  have h2 := of_decide_eq_false h1
  rw [show enc f 12 / 2 ^ t % 2 = 0 by omega]
  rfl
theorem enc_chs0 (i p : Nat) (h : smV A i p = -1) : nI (enc (chs A i p) 12) ||| 0 = nI (enc (chs A i (p + 1)) 12) := by
  have e : enc (chs A i p) 12 = enc (chs A i (p + 1)) 12 := by
    apply Nat.eq_of_testBit_eq
    intro j
    rw [enc_bit, enc_bit]
    by_cases hj : j < 12
    · show _ = (decide (j < 12) && (chs A i p j || decide (smV A i p = nI j)))
      rw [h, decide_eq_false (show ¬ (-1 : Int32) = nI j from fun q => nI_nm (show j < 2 ^ 31 by omega) q.symm), Bool.or_false]
    · rw [decide_eq_false hj]; rfl
  rw [← e]
  exact Int32.or_zero
theorem enc_chs1 (i p t : Nat) (ht : t < 8) (h : smV A i p = nI t) : nI (enc (chs A i p) 12) ||| ((1 : Int32) <<< (nI t &&& 31)) = nI (enc (chs A i (p + 1)) 12) := by
  rw [enc_shl (by omega), enc_or]
  congr 1
  apply Nat.eq_of_testBit_eq
  intro j
  rw [enc_bit, enc_bit]
  by_cases hj : j < 12
  · show _ = (decide (j < 12) && (chs A i p j || decide (smV A i p = nI j)))
    rw [h]
    by_cases q : j = t
    · subst q
      rw [decide_eq_true (rfl : j = j), decide_eq_true (rfl : nI j = nI j)]
    · rw [decide_eq_false q, decide_eq_false (show ¬ nI t = nI j from fun e => q (ni_eq (by omega) (by omega) e.symm))]
  · rw [decide_eq_false hj]; rfl
end LM
