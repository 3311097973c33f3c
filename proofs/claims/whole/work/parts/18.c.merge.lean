theorem rg_e {A A' : ST} {f b n : Nat} (h : A f = A' f) : rg A f b n = rg A' f b n := by unfold rg; rw [h]
set_option maxRecDepth 100000 in
set_option maxHeartbeats 4000000 in
theorem mA_c {B B' : ST} (hB : ∀ f, f < 27 ∨ f = 40 → B f = B' f) : ∀ i, mA B i = mA B' i := by
  intro i
  match i with
  | 0 => rfl
  | 1 => show ((.inl (.char, 60, .inl (rg B 1 0 60))) : LC) = (.inl (.char, 60, .inl (rg B' 1 0 60))); rw [rg_e (hB 1 (by decide))]
  | 2 => rfl
  | 3 => show ((.inl (.char, 120, .inl (rg B 3 0 120))) : LC) = (.inl (.char, 120, .inl (rg B' 3 0 120))); rw [rg_e (hB 3 (by decide))]
  | 4 => show ((.inl (.int, 12, .inl (rg B 4 0 12))) : LC) = (.inl (.int, 12, .inl (rg B' 4 0 12))); rw [rg_e (hB 4 (by decide))]
  | 5 => show ((.inl (.char, 96, .inl (rg B 5 0 96))) : LC) = (.inl (.char, 96, .inl (rg B' 5 0 96))); rw [rg_e (hB 5 (by decide))]
  | 6 => show ((.inl (.int, 24, .inl (rg B 6 0 24))) : LC) = (.inl (.int, 24, .inl (rg B' 6 0 24))); rw [rg_e (hB 6 (by decide))]
  | 7 => show ((.inl (.char, 2880, .inl (rg B 7 0 2880))) : LC) = (.inl (.char, 2880, .inl (rg B' 7 0 2880))); rw [rg_e (hB 7 (by decide))]
  | 8 => show ((.inl (.int, 288, .inl (rg B 8 0 288))) : LC) = (.inl (.int, 288, .inl (rg B' 8 0 288))); rw [rg_e (hB 8 (by decide))]
  | 9 => rfl
  | 10 => show ((.inl (.int, 10, .inl (fun k => if k < 10 then nI (B 10 k) - 1 else 0))) : LC) = (.inl (.int, 10, .inl (fun k => if k < 10 then nI (B' 10 k) - 1 else 0))); rw [hB 10 (by decide)]
  | 11 => show ((.inl (.char, 1800, .inl (rg B 11 0 1800))) : LC) = (.inl (.char, 1800, .inl (rg B' 11 0 1800))); rw [rg_e (hB 11 (by decide))]
  | 12 => show ((.inl (.int, 30, .inl (rg B 12 0 30))) : LC) = (.inl (.int, 30, .inl (rg B' 12 0 30))); rw [rg_e (hB 12 (by decide))]
  | 13 => show ((.inl (.boolean, 30, .inl (rg B 13 0 30))) : LC) = (.inl (.boolean, 30, .inl (rg B' 13 0 30))); rw [rg_e (hB 13 (by decide))]
  | 14 => show ((.inl (.int, 400, .inl (rg B 14 0 400))) : LC) = (.inl (.int, 400, .inl (rg B' 14 0 400))); rw [rg_e (hB 14 (by decide))]
  | 15 => rfl
  | 16 => show ((.inl (.int, 36, .inl (rg B 16 0 36))) : LC) = (.inl (.int, 36, .inl (rg B' 16 0 36))); rw [rg_e (hB 16 (by decide))]
  | 17 => show ((.inl (.int, 6, .inl (rg B 17 0 6))) : LC) = (.inl (.int, 6, .inl (rg B' 17 0 6))); rw [rg_e (hB 17 (by decide))]
  | 18 => rfl
  | 19 => show ((.inl (.int, 40, .inl (rg B 19 0 40))) : LC) = (.inl (.int, 40, .inl (rg B' 19 0 40))); rw [rg_e (hB 19 (by decide))]
  | 20 => show ((.inl (.int, 8, .inl (rg B 20 0 8))) : LC) = (.inl (.int, 8, .inl (rg B' 20 0 8))); rw [rg_e (hB 20 (by decide))]
  | 21 => show ((.inl (.int, 3, .inl (rg B 21 0 3))) : LC) = (.inl (.int, 3, .inl (rg B' 21 0 3))); rw [rg_e (hB 21 (by decide))]
  | 22 => show ((.inl (.char, 1100, .inl (rg B 22 0 1100))) : LC) = (.inl (.char, 1100, .inl (rg B' 22 0 1100))); rw [rg_e (hB 22 (by decide))]
  | 23 => rfl
  | 24 => rfl
  | 25 => show ((.inl (.boolean, 20, .inl (rg B 25 0 20))) : LC) = (.inl (.boolean, 20, .inl (rg B' 25 0 20))); rw [rg_e (hB 25 (by decide))]
  | n + 26 => rfl
theorem mF_c {B B' : ST} {ad : AD} (hB : ∀ f, f < 27 ∨ f = 40 → B f = B' f) : mF B ad = mF B' ad := by
  unfold mF
  rw [hB 0 (by decide), hB 2 (by decide), hB 9 (by decide), hB 15 (by decide), hB 18 (by decide), hB 23 (by decide), hB 24 (by decide), hB 26 (by decide)]
set_option maxRecDepth 100000 in
set_option maxHeartbeats 4000000 in
theorem wC_c {A A' B B' : ST} {ad : AD} (hA : ∀ f, f < 22 ∨ (30 ≤ f ∧ f < 40) → A f = A' f) (hB : ∀ f, f < 27 ∨ f = 40 → B f = B' f) : ∀ k i, wC A B ad k i = wC A' B' ad k i := by
  intro k i
  match k with
  | 0 => exact @Eq.trans LC _ (.inr (8, [.ref (ad 1 0), .ref (ad 3 0), .ref (ad 7 0), .ref (ad 8 0), .ref (ad 9 0), .ref (ad 10 0), .ref (ad 11 0), .ref (ad 14 0), .int (nI (A 9 0)), .int (nI (A 15 0)), .int (nI (A 18 0))])) _ rfl (@Eq.trans LC _ (.inr (8, [.ref (ad 1 0), .ref (ad 3 0), .ref (ad 7 0), .ref (ad 8 0), .ref (ad 9 0), .ref (ad 10 0), .ref (ad 11 0), .ref (ad 14 0), .int (nI (A' 9 0)), .int (nI (A' 15 0)), .int (nI (A' 18 0))])) _ (by rw [hA 9 (by decide), hA 15 (by decide), hA 18 (by decide)]) rfl)
  | 1 => exact @Eq.trans LC _ (sgC (ad 2 0) (A 0 0)) _ rfl (@Eq.trans LC _ (sgC (ad 2 0) (A' 0 0)) _ (by rw [hA 0 (by decide)]) rfl)
  | 2 => exact @Eq.trans LC _ (chA 60 (rg A 1 0 60)) _ rfl (@Eq.trans LC _ (chA 60 (rg A' 1 0 60)) _ (by rw [rg_e (hA 1 (by decide))]) rfl)
  | 3 => exact @Eq.trans LC _ (.inr (7, [.ref (ad 4 0), .ref (ad 5 0), .ref (ad 6 0), .int (nI (A 2 0))])) _ rfl (@Eq.trans LC _ (.inr (7, [.ref (ad 4 0), .ref (ad 5 0), .ref (ad 6 0), .int (nI (A' 2 0))])) _ (by rw [hA 2 (by decide)]) rfl)
  | 4 => exact @Eq.trans LC _ (.inl (.object RX5, 12, .inr (.inr (.inr (.inr (fun j => if j < A 2 0 then some (ad 15 j) else none)))))) _ rfl (@Eq.trans LC _ (.inl (.object RX5, 12, .inr (.inr (.inr (.inr (fun j => if j < A' 2 0 then some (ad 15 j) else none)))))) _ (by rw [hA 2 (by decide)]) rfl)
  | 5 => exact @Eq.trans LC _ (.inl (.object RX5, 24, .inr (.inr (.inr (.inr (fun j => if j < 24 then some (ad 17 j) else none)))))) _ rfl rfl
  | 6 => exact @Eq.trans LC _ (.inl (.object RX5, 288, .inr (.inr (.inr (.inr (fun j => if A 8 j = 0 then none else some (ad 19 j))))))) _ rfl (@Eq.trans LC _ (.inl (.object RX5, 288, .inr (.inr (.inr (.inr (fun j => if A' 8 j = 0 then none else some (ad 19 j))))))) _ (by rw [hA 8 (by decide)]) rfl)
  | 7 => exact @Eq.trans LC _ (.inl (.object RX0, 10, .inr (.inr (.inr (.inr (fun j => if j < A 9 0 then some (ad 21 j) else none)))))) _ rfl (@Eq.trans LC _ (.inl (.object RX0, 10, .inr (.inr (.inr (.inr (fun j => if j < A' 9 0 then some (ad 21 j) else none)))))) _ (by rw [hA 9 (by decide)]) rfl)
  | 8 => exact @Eq.trans LC _ (.inl (.object RX2, 6, .inr (.inr (.inr (.inr (fun j => if j < A 15 0 then some (ad 27 j) else none)))))) _ rfl (@Eq.trans LC _ (.inl (.object RX2, 6, .inr (.inr (.inr (.inr (fun j => if j < A' 15 0 then some (ad 27 j) else none)))))) _ (by rw [hA 15 (by decide)]) rfl)
  | 9 => exact @Eq.trans LC _ (.inl (.object RX1, 8, .inr (.inr (.inr (.inr (fun j => if j < A 18 0 then some (ad 29 j) else none)))))) _ rfl (@Eq.trans LC _ (.inl (.object RX1, 8, .inr (.inr (.inr (.inr (fun j => if j < A' 18 0 then some (ad 29 j) else none)))))) _ (by rw [hA 18 (by decide)]) rfl)
  | 10 => exact @Eq.trans LC _ (inA 3 (rg A 21 0 3)) _ rfl (@Eq.trans LC _ (inA 3 (rg A' 21 0 3)) _ (by rw [rg_e (hA 21 (by decide))]) rfl)
  | 11 => exact @Eq.trans LC _ (pgC (ad 12 0) (nI (A 32 0))) _ rfl (@Eq.trans LC _ (pgC (ad 12 0) (nI (A' 32 0))) _ (by rw [hA 32 (by decide)]) rfl)
  | 12 => exact @Eq.trans LC _ (sgC (ad 13 0) (A 31 0)) _ rfl (@Eq.trans LC _ (sgC (ad 13 0) (A' 31 0)) _ (by rw [hA 31 (by decide)]) rfl)
  | 13 => exact @Eq.trans LC _ (chA 1014 (rg A 30 0 1014)) _ rfl (@Eq.trans LC _ (chA 1014 (rg A' 30 0 1014)) _ (by rw [rg_e (hA 30 (by decide))]) rfl)
  | 14 => exact @Eq.trans LC _ (.inr (4, [.int (nI (A 33 0)), .int (nI (A 34 0)), .int (nI (A 35 0))])) _ rfl (@Eq.trans LC _ (.inr (4, [.int (nI (A' 33 0)), .int (nI (A' 34 0)), .int (nI (A' 35 0))])) _ (by rw [hA 33 (by decide), hA 34 (by decide), hA 35 (by decide)]) rfl)
  | 15 => exact @Eq.trans LC _ (sgC (ad 16 i) (A 4 i)) _ rfl (@Eq.trans LC _ (sgC (ad 16 i) (A' 4 i)) _ (by rw [hA 4 (by decide)]) rfl)
  | 16 => exact @Eq.trans LC _ (chA 10 (rg A 3 (10 * i) 10)) _ rfl (@Eq.trans LC _ (chA 10 (rg A' 3 (10 * i) 10)) _ (by rw [rg_e (hA 3 (by decide))]) rfl)
  | 17 => exact @Eq.trans LC _ (sgC (ad 18 i) (A 6 i)) _ rfl (@Eq.trans LC _ (sgC (ad 18 i) (A' 6 i)) _ (by rw [hA 6 (by decide)]) rfl)
  | 18 => exact @Eq.trans LC _ (chA 4 (rg A 5 (4 * i) 4)) _ rfl (@Eq.trans LC _ (chA 4 (rg A' 5 (4 * i) 4)) _ (by rw [rg_e (hA 5 (by decide))]) rfl)
  | 19 => exact @Eq.trans LC _ (sgC (ad 20 i) (A 8 i)) _ rfl (@Eq.trans LC _ (sgC (ad 20 i) (A' 8 i)) _ (by rw [hA 8 (by decide)]) rfl)
  | 20 => exact @Eq.trans LC _ (chA 10 (rg A 7 (10 * i) 10)) _ rfl (@Eq.trans LC _ (chA 10 (rg A' 7 (10 * i) 10)) _ (by rw [rg_e (hA 7 (by decide))]) rfl)
  | 21 => exact @Eq.trans LC _ (.inr (0, [.int (nI (A 10 i) - 1), .ref (ad 22 i), .ref (ad 23 i)])) _ rfl (@Eq.trans LC _ (.inr (0, [.int (nI (A' 10 i) - 1), .ref (ad 22 i), .ref (ad 23 i)])) _ (by rw [hA 10 (by decide)]) rfl)
  | 22 => exact @Eq.trans LC _ (.inl (.object RX6, 3, .inr (.inr (.inr (.inr (fun j => if j < 3 then some (ad 24 (3 * i + j)) else none)))))) _ rfl rfl
  | 23 => exact @Eq.trans LC _ (inA 40 (fun j => if j < 40 then nI (A 14 (100 * (j % 4) + 10 * i + j / 4)) else 0)) _ rfl (@Eq.trans LC _ (inA 40 (fun j => if j < 40 then nI (A' 14 (100 * (j % 4) + 10 * i + j / 4)) else 0)) _ (by rw [hA 14 (by decide)]) rfl)
  | 24 => exact @Eq.trans LC _ (tpC (ad 25 i) (nI (A 13 i))) _ rfl (@Eq.trans LC _ (tpC (ad 25 i) (nI (A' 13 i))) _ (by rw [hA 13 (by decide)]) rfl)
  | 25 => exact @Eq.trans LC _ (sgC (ad 26 i) (A 12 i)) _ rfl (@Eq.trans LC _ (sgC (ad 26 i) (A' 12 i)) _ (by rw [hA 12 (by decide)]) rfl)
  | 26 => exact @Eq.trans LC _ (chA 60 (rg A 11 (60 * i) 60)) _ rfl (@Eq.trans LC _ (chA 60 (rg A' 11 (60 * i) 60)) _ (by rw [rg_e (hA 11 (by decide))]) rfl)
  | 27 => exact @Eq.trans LC _ (ltC (ad 28 i) (A 17 i)) _ rfl (@Eq.trans LC _ (ltC (ad 28 i) (A' 17 i)) _ (by rw [hA 17 (by decide)]) rfl)
  | 28 => exact @Eq.trans LC _ (inA 6 (rg A 16 (6 * i) 6)) _ rfl (@Eq.trans LC _ (inA 6 (rg A' 16 (6 * i) 6)) _ (by rw [rg_e (hA 16 (by decide))]) rfl)
  | 29 => exact @Eq.trans LC _ (.inr (1, [.ref (ad 30 i), .int (nI (A 20 i))])) _ rfl (@Eq.trans LC _ (.inr (1, [.ref (ad 30 i), .int (nI (A' 20 i))])) _ (by rw [hA 20 (by decide)]) rfl)
  | 30 => exact @Eq.trans LC _ (inA 5 (rg A 19 (5 * i) 5)) _ rfl (@Eq.trans LC _ (inA 5 (rg A' 19 (5 * i) 5)) _ (by rw [rg_e (hA 19 (by decide))]) rfl)
  | 31 => exact @Eq.trans LC _ (.inr (9, mF B ad)) _ rfl (@Eq.trans LC _ (.inr (9, mF B' ad)) _ (by rw [mF_c hB]) rfl)
  | 32 => exact @Eq.trans LC _ (mA B i) _ rfl (@Eq.trans LC _ (mA B' i) _ (mA_c hB i) rfl)
  | 33 => exact @Eq.trans LC _ (.inl (.long, 1, .inr (.inl (fun j => if j = 0 then (nI (B 40 0)).toInt64 else 0)))) _ rfl (@Eq.trans LC _ (.inl (.long, 1, .inr (.inl (fun j => if j = 0 then (nI (B' 40 0)).toInt64 else 0)))) _ (by rw [hB 40 (by decide)]) rfl)
  | k + 34 => exact @Eq.trans LC _ (.inr (9, [])) _ rfl rfl
theorem lvw_c {A A' : ST} (hA : ∀ f, f < 22 ∨ (30 ≤ f ∧ f < 40) → A f = A' f) : ∀ k i, lvw A k i = lvw A' k i := by
  intro k i
  unfold lvw
  rw [hA 2 (by decide), hA 8 (by decide), hA 9 (by decide), hA 15 (by decide), hA 18 (by decide)]
theorem World.cg {A A' B B' : ST} {ad : AD} {G : GH} (h : World A B ad G) (hA : ∀ f, f < 22 ∨ (30 ≤ f ∧ f < 40) → A f = A' f) (hB : ∀ f, f < 27 ∨ f = 40 → B f = B' f) : World A' B' ad G := by
  refine ⟨fun k i hk => ?_, fun k i k' i' h1 h2 e => ?_⟩
  · rw [← lvw_c hA] at hk
    rw [← wC_c hA hB]; exact h.1 k i hk
  · rw [← lvw_c hA] at h1 h2
    exact h.2 k i k' i' h1 h2 e
/-- one row of numbers for both sides -/
def mg (A B : ST) : ST := fun f => if 30 ≤ f ∧ f < 40 then A f else B f
theorem World.merge {A B : ST} {ad : AD} {G : GH} (h : World A B ad G) (e : ∀ f, f < 22 → A f = B f) : World (mg A B) (mg A B) ad G := h.cg (fun f hf => by
  unfold mg
  by_cases h3 : 30 ≤ f ∧ f < 40
  · rw [if_pos h3]
  · rw [if_neg h3]; exact e f (by omega)) (fun f hf => by
  unfold mg
  rw [if_neg (by omega)])
