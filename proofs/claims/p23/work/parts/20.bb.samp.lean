theorem brF_at {A : ST} {l t n m b : Nat} (hb : b < 2) : brF A l t n (2 * m + b) = (decide (m < n) && (decide (A 10 (cla A l m) ≠ 0) && (decide (b = 1) == meB A t (cla A l m)))) := by
  unfold brF
  rw [show (2 * m + b) / 2 = m by omega, show (2 * m + b) % 2 = b by omega]
theorem cnt_0 {p : Nat → Bool} : ∀ n, (∀ k, k < n → p k = false) → cntB p n = 0
  | 0, _ => rfl
  | n + 1, h => by
    show cntB p n + (if p n then 1 else 0) = 0
    rw [cnt_0 n (fun k hk => h k (by omega)), h n (by omega)]; rfl
theorem cnt_0m {p : Nat → Bool} : ∀ n, cntB p n = 0 → ∀ k, k < n → p k = false
  | 0, _, k, hk => absurd hk (Nat.not_lt_zero k)
  | n + 1, h, k, hk => by
    have e : cntB p (n + 1) = cntB p n + (if p n then 1 else 0) := rfl
    rw [e] at h
    by_cases e0 : k = n
    · rw [e0]
      cases hp : p n with
      | false => rfl
      | true => rw [hp, if_pos rfl] at h; omega
    · exact cnt_0m n (by omega) k (by omega)
theorem cvF_s {B : ST} {l c t : Nat} (ht : t < 2 ^ 31) (h : bsI B l c = nI t) : cvF B l (c + 1) = fun j => cvF B l c j || brF B l t (B 17 l) j := by
  show (fun j => cvF B l c j || brF B l (mbF B l (cvF B l c) (B 18 0)).1.toNatClampNeg (B 17 l) j) = _
  rw [show (mbF B l (cvF B l c) (B 18 0)).1 = nI t from h, nI_cl ht]
theorem b2n_lt (b : Bool) : b2n b < 2 := by cases b <;> decide
