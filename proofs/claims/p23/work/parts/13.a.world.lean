/-! THE WORLD: every object has a role (its kind k and its number i) and lies at ad k i; what it holds is told by A (the class's own) and B (the law's own rows) -/
abbrev ST : Type := Nat → Nat → Nat
abbrev AD : Type := Nat → Nat → Nat
def rg (A : ST) (f b n : Nat) : Nat → Int32 := fun k => if k < n then nI (A f (b + k)) else 0
def setA (A : ST) (f j v : Nat) : ST := fun g k => if g = f then (if k = j then v else A g k) else A g k
/-- n signs of the buffer are laid into the row f from b on -/
def cpyA (A : ST) (f b n : Nat) : ST := fun g k => if g = f then (if b ≤ k ∧ k < b + n then A 1 (k - b) else A g k) else A g k
def wC (A B : ST) (ad : AD) (k i : Nat) : LC := match k with
  | 0 => .inr (8, [.ref (ad 1 0), .ref (ad 3 0), .ref (ad 7 0), .ref (ad 8 0), .ref (ad 9 0), .ref (ad 10 0), .ref (ad 11 0), .ref (ad 14 0), .int (nI (A 9 0)), .int (nI (A 15 0)), .int (nI (A 18 0))])
  | 1 => sgC (ad 2 0) (A 0 0)
  | 2 => chA 60 (rg A 1 0 60)
  | 3 => .inr (7, [.ref (ad 4 0), .ref (ad 5 0), .ref (ad 6 0), .int (nI (A 2 0))])
  | 4 => .inl (.object RX5, 12, .inr (.inr (.inr (.inr (fun j => if j < A 2 0 then some (ad 15 j) else none)))))
  | 5 => .inl (.object RX5, 24, .inr (.inr (.inr (.inr (fun j => if j < 24 then some (ad 17 j) else none)))))
  | 6 => .inl (.object RX5, 288, .inr (.inr (.inr (.inr (fun j => if A 8 j = 0 then none else some (ad 19 j))))))
  | 7 => .inl (.object RX0, 10, .inr (.inr (.inr (.inr (fun j => if j < A 9 0 then some (ad 21 j) else none)))))
  | 8 => .inl (.object RX2, 6, .inr (.inr (.inr (.inr (fun j => if j < A 15 0 then some (ad 27 j) else none)))))
  | 9 => .inl (.object RX1, 8, .inr (.inr (.inr (.inr (fun j => if j < A 18 0 then some (ad 29 j) else none)))))
  | 10 => inA 3 (rg A 21 0 3)
  | 11 => pgC (ad 12 0) (nI (A 32 0))
  | 12 => sgC (ad 13 0) (A 31 0)
  | 13 => chA 1014 (rg A 30 0 1014)
  | 14 => .inr (4, [.int (nI (A 33 0)), .int (nI (A 34 0)), .int (nI (A 35 0))])
  | 15 => sgC (ad 16 i) (A 4 i)
  | 16 => chA 10 (rg A 3 (10 * i) 10)
  | 17 => sgC (ad 18 i) (A 6 i)
  | 18 => chA 4 (rg A 5 (4 * i) 4)
  | 19 => sgC (ad 20 i) (A 8 i)
  | 20 => chA 10 (rg A 7 (10 * i) 10)
  | 21 => .inr (0, [.int (nI (A 10 i) - 1), .ref (ad 22 i), .ref (ad 23 i)])
  | 22 => .inl (.object RX6, 3, .inr (.inr (.inr (.inr (fun j => if j < 3 then some (ad 24 (3 * i + j)) else none)))))
  | 23 => inA 40 (fun j => if j < 40 then nI (A 14 (100 * (j % 4) + 10 * i + j / 4)) else 0)
  | 24 => tpC (ad 25 i) (nI (A 13 i))
  | 25 => sgC (ad 26 i) (A 12 i)
  | 26 => chA 60 (rg A 11 (60 * i) 60)
  | 27 => ltC (ad 28 i) (A 17 i)
  | 28 => inA 6 (rg A 16 (6 * i) 6)
  | 29 => .inr (1, [.ref (ad 30 i), .int (nI (A 20 i))])
  | 30 => inA 5 (rg A 19 (5 * i) 5)
  | 31 => inA 5 (rg B 1 0 5)
  | 32 => inA 64 (rg B 2 0 64)
  | 33 => inA 42 (rg B 3 0 42)
  | 34 => inA 8 (rg B 4 0 8)
  | 35 => inA 3 (rg B 5 0 3)
  | _ => .inr (9, [])
def lvw (A : ST) (k i : Nat) : Prop := match k with
  | 0 => i = 0
  | 1 => i = 0
  | 2 => i = 0
  | 3 => i = 0
  | 4 => i = 0
  | 5 => i = 0
  | 6 => i = 0
  | 7 => i = 0
  | 8 => i = 0
  | 9 => i = 0
  | 10 => i = 0
  | 11 => i = 0
  | 12 => i = 0
  | 13 => i = 0
  | 14 => i = 0
  | 15 => i < A 2 0
  | 16 => i < A 2 0
  | 17 => i < 24
  | 18 => i < 24
  | 19 => i < 288 ∧ A 8 i ≠ 0
  | 20 => i < 288 ∧ A 8 i ≠ 0
  | 21 => i < A 9 0
  | 22 => i < A 9 0
  | 23 => i < A 9 0
  | 24 => i < 3 * A 9 0
  | 25 => i < 3 * A 9 0
  | 26 => i < 3 * A 9 0
  | 27 => i < A 15 0
  | 28 => i < A 15 0
  | 29 => i < A 18 0
  | 30 => i < A 18 0
  | 31 => i = 0
  | 32 => i = 0
  | 33 => i = 0
  | 34 => i = 0
  | 35 => i = 0
  | _ => False
def Inj (A : ST) (ad : AD) : Prop := ∀ k i k' i', lvw A k i → lvw A k' i' → ad k i = ad k' i' → k = k' ∧ i = i'
def World (A B : ST) (ad : AD) (G : GH) : Prop := (∀ k i, lvw A k i → G (ad k i) = some (wC A B ad k i)) ∧ Inj A ad
theorem setA_s {A : ST} {f j v : Nat} : setA A f j v f j = v := by unfold setA; rw [if_pos rfl, if_pos rfl]
theorem setA_n {A : ST} {f j v k : Nat} (h : k ≠ j) : setA A f j v f k = A f k := by unfold setA; rw [if_pos rfl, if_neg h]
theorem setA_f {A : ST} {f j v g k : Nat} (h : g ≠ f) : setA A f j v g k = A g k := by unfold setA; rw [if_neg h]
theorem cpyA_f {A : ST} {f b n g k : Nat} (h : g ≠ f) : cpyA A f b n g k = A g k := by unfold cpyA; rw [if_neg h]
theorem cpyA_in {A : ST} {f b n k : Nat} (h : b ≤ k ∧ k < b + n) : cpyA A f b n f k = A 1 (k - b) := by unfold cpyA; rw [if_pos rfl, if_pos h]
theorem cpyA_out {A : ST} {f b n k : Nat} (h : ¬ (b ≤ k ∧ k < b + n)) : cpyA A f b n f k = A f k := by unfold cpyA; rw [if_pos rfl, if_neg h]
theorem rg_set_f {A : ST} {f j v g b n : Nat} (h : g ≠ f) : rg (setA A f j v) g b n = rg A g b n := by
  funext k; unfold rg; rw [setA_f h]
theorem rg_set_n {A : ST} {f j v b n : Nat} (h : ∀ k, k < n → b + k ≠ j) : rg (setA A f j v) f b n = rg A f b n := by
  funext k; unfold rg
  by_cases hk : k < n
  · rw [if_pos hk, if_pos hk, setA_n (h k hk)]
  · rw [if_neg hk, if_neg hk]
theorem rg_set_s {A : ST} {f j v b n : Nat} (h : j < n) : rg (setA A f (b + j) v) f b n = upd (rg A f b n) j (nI v) := by
  funext k; dsimp only [rg, upd]
  by_cases hk : k = j
  · rw [if_pos hk, if_pos (by omega), hk, setA_s]
  · rw [if_neg hk]
    by_cases h2 : k < n
    · rw [if_pos h2, if_pos h2, setA_n (by omega)]
    · rw [if_neg h2, if_neg h2]
theorem rg_cpy_f {A : ST} {f b0 m g b n : Nat} (h : g ≠ f) : rg (cpyA A f b0 m) g b n = rg A g b n := by
  funext k; unfold rg; rw [cpyA_f h]
theorem rg_cpy_n {A : ST} {f b0 m b n : Nat} (h : ∀ k, k < n → ¬ (b0 ≤ b + k ∧ b + k < b0 + m)) : rg (cpyA A f b0 m) f b n = rg A f b n := by
  funext k; unfold rg
  by_cases hk : k < n
  · rw [if_pos hk, if_pos hk, cpyA_out (h k hk)]
  · rw [if_neg hk, if_neg hk]
theorem rg_cpy_s {A : ST} {f m b n : Nat} (h : m ≤ n) (h60 : m ≤ 60) : rg (cpyA A f b m) f b n = cpy (rg A 1 0 60) (rg A f b n) m := by
  funext k; dsimp only [rg, cpy]
  by_cases hk : k < m
  · rw [if_pos hk, if_pos (by omega), if_pos (by omega), cpyA_in (by omega), show b + k - b = 0 + k by omega]
  · rw [if_neg hk]
    by_cases h2 : k < n
    · rw [if_pos h2, if_pos h2, cpyA_out (by omega)]
    · rw [if_neg h2, if_neg h2]
theorem World.g {A B : ST} {ad : AD} {G : GH} (h : World A B ad G) (k i : Nat) (hl : lvw A k i) : G (ad k i) = some (wC A B ad k i) := h.1 k i hl
theorem World.put {A B A' B' : ST} {ad : AD} {G : GH} (h : World A B ad G) (k0 i0 : Nat) (h0 : lvw A k0 i0) (hl : ∀ k i, lvw A' k i → lvw A k i) (hc : ∀ k i, lvw A k i → (k = k0 ∧ i = i0) ∨ wC A' B' ad k i = wC A B ad k i) : World A' B' ad (va_up G (ad k0 i0) (some (wC A' B' ad k0 i0))) := by
  refine ⟨fun k i hk => ?_, fun k i k' i' h1 h2 e => h.2 k i k' i' (hl k i h1) (hl k' i' h2) e⟩
  have hk' := hl k i hk
  by_cases he : k = k0 ∧ i = i0
  · rw [he.1, he.2]; exact up_s
  · rcases hc k i hk' with hc | hc
    · exact absurd hc he
    · rw [hc]
      exact up_n (fun e => he (h.2 k i k0 i0 hk' h0 e)) (h.g k i hk')
theorem World.ne {A B : ST} {ad : AD} {G : GH} (h : World A B ad G) (k i k' i' : Nat) (h1 : lvw A k i) (h2 : lvw A k' i') (hn : k ≠ k' ∨ i ≠ i') : ad k i ≠ ad k' i' := fun e => by
  obtain ⟨e1, e2⟩ := h.2 k i k' i' h1 h2 e
  rcases hn with hn | hn
  · exact hn e1
  · exact hn e2
