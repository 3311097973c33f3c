/-! what always holds of the class's numbers -/
def sml (n : Nat) : Prop := 97 ≤ n ∧ n ≤ 122
/-- where one is behind a sign of a text: 0 beyond slots, 1 to 4 within one, 5 it cannot stand there -/
def nxt (w c : Nat) : Nat :=
  if w = 0 then (if c = 91 then 1 else if (97 ≤ c ∧ c ≤ 122) ∨ c = 32 ∨ c = 46 then 0 else 5)
  else if w = 1 then (if 48 ≤ c ∧ c ≤ 52 then 2 else 5)
  else if w = 2 then (if c = 110 ∨ c = 103 ∨ c = 100 ∨ c = 97 then 3 else 5)
  else if w = 3 then (if c = 115 ∨ c = 112 then 4 else 5)
  else if w = 4 then (if c = 93 then 0 else 5)
  else 5
def pw (f : Nat → Nat) : Nat → Nat
  | 0 => 0
  | n + 1 => nxt (pw f n) (f n)
def Inv (A : ST) : Prop :=
  A 0 0 ≤ 60 ∧ A 2 0 ≤ 12 ∧ A 9 0 ≤ 10 ∧ A 15 0 ≤ 6 ∧ A 18 0 ≤ 8 ∧
  ((∀ k, A 1 k < 65536) ∧ (∀ k, A 3 k < 65536) ∧ (∀ k, A 5 k < 65536) ∧ (∀ k, A 7 k < 65536) ∧ (∀ k, A 11 k < 65536)) ∧
  (∀ i, i < A 2 0 → 1 ≤ A 4 i ∧ A 4 i ≤ 10 ∧ ∀ k, k < A 4 i → sml (A 3 (10 * i + k))) ∧
  (∀ i, i < 24 → A 6 i ≤ 4 ∧ ∀ k, k < A 6 i → sml (A 5 (4 * i + k))) ∧
  (∀ i, i < 288 → A 8 i ≤ 10 ∧ ∀ k, k < A 8 i → sml (A 7 (10 * i + k))) ∧
  (∀ c, c < A 9 0 → A 10 c ≤ 8) ∧
  (∀ t, t < 30 → A 12 t ≤ 60 ∧ A 13 t ≤ 1 ∧ pw (fun k => A 11 (60 * t + k)) (A 12 t) = 0) ∧
  (∀ j, A 14 j ≤ 2) ∧
  (∀ l, l < 6 → A 17 l ≤ 6 ∧ ∀ k, k < A 17 l → A 16 (6 * l + k) < A 9 0 ∧ ∀ j, j < k → A 16 (6 * l + j) ≠ A 16 (6 * l + k)) ∧
  (∀ i, i < A 18 0 → A 20 i ≤ 255 ∧ ∀ k, k < 5 → A 19 (5 * i + k) < A 2 0) ∧
  (∀ l, l < 3 → A 21 l ≤ 1000) ∧
  ((∀ j, 10 * A 2 0 ≤ j → A 3 j = 0) ∧ (∀ i, i < 288 → A 8 i = 0 → ∀ k, k < 10 → A 7 (10 * i + k) = 0) ∧ (∀ t, 3 * A 9 0 ≤ t → A 12 t = 0 ∧ A 13 t = 0) ∧ (∀ j, 180 * A 9 0 ≤ j → A 11 j = 0) ∧
   (∀ k c o, k < 4 → A 9 0 ≤ c → c < 10 → o < 10 → A 14 (100 * k + 10 * c + o) = 0) ∧ (∀ l, A 15 0 ≤ l → A 17 l = 0) ∧ (∀ j, 6 * A 15 0 ≤ j → A 16 j = 0))
def Pag (A : ST) : Prop := A 31 0 ≤ 1014 ∧ ∀ k, A 30 k < 65536
section INV
variable {A : ST} (h : Inv A)
theorem Inv.b0 (h : Inv A) : A 0 0 ≤ 60 := h.1
theorem Inv.b2 (h : Inv A) : A 2 0 ≤ 12 := h.2.1
theorem Inv.b9 (h : Inv A) : A 9 0 ≤ 10 := h.2.2.1
theorem Inv.b15 (h : Inv A) : A 15 0 ≤ 6 := h.2.2.2.1
theorem Inv.b18 (h : Inv A) : A 18 0 ≤ 8 := h.2.2.2.2.1
theorem Inv.ch (h : Inv A) : (∀ k, A 1 k < 65536) ∧ (∀ k, A 3 k < 65536) ∧ (∀ k, A 5 k < 65536) ∧ (∀ k, A 7 k < 65536) ∧ (∀ k, A 11 k < 65536) := h.2.2.2.2.2.1
theorem Inv.st (h : Inv A) : ∀ i, i < A 2 0 → 1 ≤ A 4 i ∧ A 4 i ≤ 10 ∧ ∀ k, k < A 4 i → sml (A 3 (10 * i + k)) := h.2.2.2.2.2.2.1
theorem Inv.en (h : Inv A) : ∀ i, i < 24 → A 6 i ≤ 4 ∧ ∀ k, k < A 6 i → sml (A 5 (4 * i + k)) := h.2.2.2.2.2.2.2.1
theorem Inv.ow (h : Inv A) : ∀ i, i < 288 → A 8 i ≤ 10 ∧ ∀ k, k < A 8 i → sml (A 7 (10 * i + k)) := h.2.2.2.2.2.2.2.2.1
theorem Inv.co (h : Inv A) : ∀ c, c < A 9 0 → A 10 c ≤ 8 := h.2.2.2.2.2.2.2.2.2.1
theorem Inv.tx (h : Inv A) : ∀ t, t < 30 → A 12 t ≤ 60 ∧ A 13 t ≤ 1 ∧ pw (fun k => A 11 (60 * t + k)) (A 12 t) = 0 := h.2.2.2.2.2.2.2.2.2.2.1
theorem Inv.re (h : Inv A) : ∀ j, A 14 j ≤ 2 := h.2.2.2.2.2.2.2.2.2.2.2.1
theorem Inv.ro (h : Inv A) : ∀ l, l < 6 → A 17 l ≤ 6 ∧ ∀ k, k < A 17 l → A 16 (6 * l + k) < A 9 0 ∧ ∀ j, j < k → A 16 (6 * l + j) ≠ A 16 (6 * l + k) := h.2.2.2.2.2.2.2.2.2.2.2.2.1
theorem Inv.da (h : Inv A) : ∀ i, i < A 18 0 → A 20 i ≤ 255 ∧ ∀ k, k < 5 → A 19 (5 * i + k) < A 2 0 := h.2.2.2.2.2.2.2.2.2.2.2.2.2.1
theorem Inv.pr (h : Inv A) : ∀ l, l < 3 → A 21 l ≤ 1000 := h.2.2.2.2.2.2.2.2.2.2.2.2.2.2.1
theorem Inv.ze (h : Inv A) : (∀ j, 10 * A 2 0 ≤ j → A 3 j = 0) ∧ (∀ i, i < 288 → A 8 i = 0 → ∀ k, k < 10 → A 7 (10 * i + k) = 0) ∧ (∀ t, 3 * A 9 0 ≤ t → A 12 t = 0 ∧ A 13 t = 0) ∧ (∀ j, 180 * A 9 0 ≤ j → A 11 j = 0) ∧
   (∀ k c o, k < 4 → A 9 0 ≤ c → c < 10 → o < 10 → A 14 (100 * k + 10 * c + o) = 0) ∧ (∀ l, A 15 0 ≤ l → A 17 l = 0) ∧ (∀ j, 6 * A 15 0 ≤ j → A 16 j = 0) := h.2.2.2.2.2.2.2.2.2.2.2.2.2.2.2
end INV
theorem rg_C {A : ST} {f b n : Nat} (h : ∀ k, A f k < 65536) : ∀ k, isC (rg A f b n k) := fun k => by
  dsimp only [rg]
  split
  · exact isC_nI (h _)
  · rfl
theorem chr_rg {A : ST} {f b n len k : Nat} (hl : len ≤ n) : chr (rg A f b n) len k = nI (if k < len then A f (b + k) else 0) := by
  dsimp only [chr, rg]
  by_cases h : k < len
  · rw [if_pos h, if_pos (by omega), if_pos h]
  · rw [if_neg h, if_neg h, nI_0]
section SGW
variable {A B : ST} {ad : AD} {G : GH}
theorem sg1 (hW : World A B ad G) (hI : Inv A) : SG G (ad 1 0) (ad 2 0) 60 (A 0 0) (rg A 1 0 60) := ⟨hW.g 1 0 rfl, hW.g 2 0 rfl, hI.b0, by decide⟩
theorem sg12 (hW : World A B ad G) (hI : Pag A) : SG G (ad 12 0) (ad 13 0) 1014 (A 31 0) (rg A 30 0 1014) := ⟨hW.g 12 0 rfl, hW.g 13 0 rfl, hI.1, by decide⟩
theorem sg15 (hW : World A B ad G) (hI : Inv A) {i : Nat} (hi : i < A 2 0) : SG G (ad 15 i) (ad 16 i) 10 (A 4 i) (rg A 3 (10 * i) 10) := ⟨hW.g 15 i hi, hW.g 16 i hi, (hI.st i hi).2.1, by decide⟩
theorem sg17 (hW : World A B ad G) (hI : Inv A) {i : Nat} (hi : i < 24) : SG G (ad 17 i) (ad 18 i) 4 (A 6 i) (rg A 5 (4 * i) 4) := ⟨hW.g 17 i hi, hW.g 18 i hi, (hI.en i hi).1, by decide⟩
theorem sg19 (hW : World A B ad G) (hI : Inv A) {i : Nat} (hi : i < 288 ∧ A 8 i ≠ 0) : SG G (ad 19 i) (ad 20 i) 10 (A 8 i) (rg A 7 (10 * i) 10) := ⟨hW.g 19 i hi, hW.g 20 i hi, (hI.ow i hi.1).1, by decide⟩
theorem tp24 (hW : World A B ad G) (hI : Inv A) {i : Nat} (hi : i < 3 * A 9 0) : TP G (ad 24 i) (ad 25 i) (ad 26 i) (A 12 i) (rg A 11 (60 * i) 60) (nI (A 13 i)) := by
  have h1 := hI.b9
  exact ⟨hW.g 24 i hi, hW.g 25 i hi, hW.g 26 i hi, (hI.tx i (by omega)).1, by decide⟩
theorem pg11 (hW : World A B ad G) (hI : Pag A) : PG G (ad 11 0) (ad 12 0) (ad 13 0) (A 31 0) (rg A 30 0 1014) (nI (A 32 0)) := ⟨hW.g 11 0 rfl, sg12 hW hI⟩
theorem lt27 (hW : World A B ad G) (hI : Inv A) {i : Nat} (hi : i < A 15 0) : LT G (ad 27 i) (ad 28 i) (A 17 i) (rg A 16 (6 * i) 6) := by
  have h1 := hI.b15
  exact ⟨hW.g 27 i hi, hW.g 28 i hi, (hI.ro i (by omega)).1⟩
theorem dt29 (hW : World A B ad G) {i : Nat} (hi : i < A 18 0) : DT G (ad 29 i) (ad 30 i) (nI (A 20 i)) (rg A 19 (5 * i) 5) := ⟨hW.g 29 i hi, hW.g 30 i hi⟩
end SGW
