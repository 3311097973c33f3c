/-! what the small objects are -/
theorem vin {x : Int32} {n : Nat} (h0 : ¬ x < 0) (h1 : ¬ nI n ≤ x) (hn : n < 2 ^ 31) : vp_in x n := by
  obtain ⟨j, hj, hx, -⟩ := pk_mu h0 h1 hn
  rw [hx]
  exact vp_in_nI hj hn
abbrev sgC (arr len : Nat) : LC := .inr (5, [.ref arr, .int (nI len)])
abbrev chA (cap : Nat) (f : Nat → Int32) : LC := .inl (.char, (cap, .inl f))
abbrev inA (cap : Nat) (f : Nat → Int32) : LC := .inl (.int, (cap, .inl f))
/-- a row of signs: its array, its room, how many, which -/
abbrev SG (G : GH) (a arr cap len : Nat) (f : Nat → Int32) : Prop := G a = some (.inr (5, [.ref arr, .int (nI len)])) ∧ G arr = some (.inl (.char, (cap, .inl f))) ∧ len ≤ cap ∧ cap < 2000
theorem SG.ne {G : GH} {a arr cap len : Nat} {f : Nat → Int32} (h : SG G a arr cap len f) : a ≠ arr := cx_ne h.1 h.2.1 (by simp)
theorem SG.keep {G : GH} {a arr cap len : Nat} {f : Nat → Int32} (h : SG G a arr cap len f) {q : Nat} {e : Option LC} (h1 : a ≠ q) (h2 : arr ≠ q) : SG (va_up G q e) a arr cap len f := ⟨up_n h1 h.1, up_n h2 h.2.1, h.2.2⟩
theorem up_twice {G : GH} {a : Nat} {x y : Option LC} : va_up (va_up G a x) a y = va_up G a y := by
  funext q; unfold va_up; by_cases h : q = a
  · rw [if_pos h, if_pos h]
  · rw [if_neg h, if_neg h, if_neg h]
theorem up_swap {G : GH} {a b : Nat} {x y : Option LC} (h : a ≠ b) : va_up (va_up G a x) b y = va_up (va_up G b y) a x := by
  funext q; unfold va_up; by_cases h1 : q = a
  · have h2 : q ≠ b := fun e => h (h1.symm.trans e)
    rw [if_neg h2, if_pos h1, if_pos h1]
  · by_cases h2 : q = b
    · rw [if_pos h2, if_neg h1, if_pos h2]
    · rw [if_neg h2, if_neg h1, if_neg h1, if_neg h2]
theorem up_self {G : GH} {a : Nat} {x : Option LC} (h : G a = x) : va_up G a x = G := by
  funext q; unfold va_up; by_cases h1 : q = a
  · rw [if_pos h1, h1, h]
  · rw [if_neg h1]
theorem up_four {G : GH} {a b : Nat} {x y z w : Option LC} (h : a ≠ b) : va_up (va_up (va_up (va_up G a x) b y) a z) b w = va_up (va_up G a z) b w := by
  rw [up_swap (G := va_up G a x) (Ne.symm h), up_twice, up_twice]
/-- the first n of g, then f -/
def cpy (g f : Nat → Int32) (n : Nat) : Nat → Int32 := fun j => if j < n then g j else f j
theorem cpy_0 (g f : Nat → Int32) : cpy g f 0 = f := by funext j; unfold cpy; rw [if_neg (Nat.not_lt_zero j)]
theorem cpy_s (g f : Nat → Int32) (n : Nat) : upd (cpy g f n) n (g n) = cpy g f (n + 1) := by
  funext j; unfold upd cpy
  by_cases h : j = n
  · rw [if_pos h, if_pos (by omega), h]
  · rw [if_neg h]
    by_cases h2 : j < n
    · rw [if_pos h2, if_pos (by omega)]
    · rw [if_neg h2, if_neg (by omega)]
theorem nI_cl {n : Nat} (h : n < 2 ^ 31) : (nI n).toNatClampNeg = n := nI_clamp h
theorem ni_le {a b : Nat} (ha : a < 2 ^ 31) (hb : b < 2 ^ 31) (h : nI a ≤ nI b) : a ≤ b := (nI_leI ha hb).mp h
theorem ni_nle {a b : Nat} (ha : a < 2 ^ 31) (hb : b < 2 ^ 31) (h : ¬ nI a ≤ nI b) : b < a := Nat.not_le.mp fun q => h ((nI_leI ha hb).mpr q)
theorem ni_lt {a b : Nat} (ha : a < 2 ^ 31) (hb : b < 2 ^ 31) (h : nI a < nI b) : a < b := (nI_ltI ha hb).mp h
theorem ni_nlt {a b : Nat} (ha : a < 2 ^ 31) (hb : b < 2 ^ 31) (h : ¬ nI a < nI b) : b ≤ a := Nat.not_lt.mp fun q => h ((nI_ltI ha hb).mpr q)
theorem ni_eq {a b : Nat} (ha : a < 2 ^ 31) (hb : b < 2 ^ 31) (h : nI a = nI b) : a = b := (nI_eq ha hb).mp h
theorem ni_ne {a b : Nat} (ha : a < 2 ^ 31) (hb : b < 2 ^ 31) (h : ¬ nI a = nI b) : a ≠ b := fun q => h (by rw [q])
def allB (p : Nat → Bool) : Nat → Bool
  | 0 => true
  | n + 1 => allB p n && p n
def cntB (p : Nat → Bool) : Nat → Nat
  | 0 => 0
  | n + 1 => cntB p n + (if p n then 1 else 0)
theorem allB_iff (p : Nat → Bool) : ∀ n, allB p n = true ↔ ∀ k, k < n → p k = true
  | 0 => ⟨fun _ k hk => absurd hk (Nat.not_lt_zero k), fun _ => rfl⟩
  | n + 1 => by
    unfold allB
    rw [Bool.and_eq_true, allB_iff p n]
    refine ⟨fun h k hk => ?_, fun h => ⟨fun k hk => h k (by omega), h n (by omega)⟩⟩
    rcases Nat.lt_or_ge k n with q | q
    · exact h.1 k q
    · rw [show k = n by omega]; exact h.2
theorem allB_no {p : Nat → Bool} {n k : Nat} (hk : k < n) (h : p k = false) : allB p n = false := by
  cases hx : allB p n with
  | false => rfl
  | true => rw [((allB_iff p n).mp hx) k hk] at h; cases h
theorem allB_congr {p q : Nat → Bool} : ∀ {n : Nat}, (∀ k, k < n → p k = q k) → allB p n = allB q n
  | 0, _ => rfl
  | n + 1, h => by unfold allB; rw [allB_congr (fun k hk => h k (by omega)), h n (by omega)]
theorem cntB_le (p : Nat → Bool) : ∀ n, cntB p n ≤ n
  | 0 => Nat.le_refl 0
  | n + 1 => by
    have h := cntB_le p n
    unfold cntB
    split <;> omega
theorem cntB_congr {p q : Nat → Bool} : ∀ {n : Nat}, (∀ k, k < n → p k = q k) → cntB p n = cntB q n
  | 0, _ => rfl
  | n + 1, h => by unfold cntB; rw [cntB_congr (fun k hk => h k (by omega)), h n (by omega)]
def b2i (b : Bool) : Int32 := if b then 1 else 0
theorem b2i_Z {b : Bool} : isZ (b2i b) := by cases b <;> rfl
theorem b2i_t : b2i true = 1 := rfl
theorem b2i_f : b2i false = 0 := rfl
/-- a sign of a row; 0 beyond -/
def chr (f : Nat → Int32) (len k : Nat) : Int32 := if k < len then f k else 0
def smB (x : Int32) : Bool := !(decide (s_X8_isSmall x = 0))
theorem smB_t {x : Int32} (h : ¬ s_X8_isSmall x = 0) : smB x = true := by unfold smB; rw [decide_eq_false h]; rfl
theorem smB_f {x : Int32} (h : s_X8_isSmall x = 0) : smB x = false := by unfold smB; rw [decide_eq_true h]; rfl
theorem nI_up {a b : Nat} {x : Int32} (h : a ≤ b) (hb : b < 2 ^ 31) (q : nI b ≤ x) : nI a ≤ x := by
  have h1 := nI_le h hb
  exact Int32.le_trans h1 q
theorem up_three {G : GH} {q r : Nat} {x y z : Option LC} (h : r ≠ q) : va_up (va_up (va_up G q x) r y) q z = va_up (va_up G q z) r y := by
  rw [up_swap (G := va_up G q x) h, up_twice]
