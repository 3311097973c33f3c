set_option maxRecDepth 100000 in
set_option maxHeartbeats 4000000 in
theorem wC_B {A B B1 : ST} {ad : AD} : ∀ k i, k < 31 → wC A B ad k i = wC A B1 ad k i := by
  intro k i h
  match k, h with
  | 0, h => exact @Eq.trans LC _ (.inr (8, [.ref (ad 1 0), .ref (ad 3 0), .ref (ad 7 0), .ref (ad 8 0), .ref (ad 9 0), .ref (ad 10 0), .ref (ad 11 0), .ref (ad 14 0), .int (nI (A 9 0)), .int (nI (A 15 0)), .int (nI (A 18 0))])) _ rfl rfl
  | 1, h => exact @Eq.trans LC _ (sgC (ad 2 0) (A 0 0)) _ rfl rfl
  | 2, h => exact @Eq.trans LC _ (chA 60 (rg A 1 0 60)) _ rfl rfl
  | 3, h => exact @Eq.trans LC _ (.inr (7, [.ref (ad 4 0), .ref (ad 5 0), .ref (ad 6 0), .int (nI (A 2 0))])) _ rfl rfl
  | 4, h => exact @Eq.trans LC _ (.inl (.object RX5, 12, .inr (.inr (.inr (.inr (fun j => if j < A 2 0 then some (ad 15 j) else none)))))) _ rfl rfl
  | 5, h => exact @Eq.trans LC _ (.inl (.object RX5, 24, .inr (.inr (.inr (.inr (fun j => if j < 24 then some (ad 17 j) else none)))))) _ rfl rfl
  | 6, h => exact @Eq.trans LC _ (.inl (.object RX5, 288, .inr (.inr (.inr (.inr (fun j => if A 8 j = 0 then none else some (ad 19 j))))))) _ rfl rfl
  | 7, h => exact @Eq.trans LC _ (.inl (.object RX0, 10, .inr (.inr (.inr (.inr (fun j => if j < A 9 0 then some (ad 21 j) else none)))))) _ rfl rfl
  | 8, h => exact @Eq.trans LC _ (.inl (.object RX2, 6, .inr (.inr (.inr (.inr (fun j => if j < A 15 0 then some (ad 27 j) else none)))))) _ rfl rfl
  | 9, h => exact @Eq.trans LC _ (.inl (.object RX1, 8, .inr (.inr (.inr (.inr (fun j => if j < A 18 0 then some (ad 29 j) else none)))))) _ rfl rfl
  | 10, h => exact @Eq.trans LC _ (inA 3 (rg A 21 0 3)) _ rfl rfl
  | 11, h => exact @Eq.trans LC _ (pgC (ad 12 0) (nI (A 32 0))) _ rfl rfl
  | 12, h => exact @Eq.trans LC _ (sgC (ad 13 0) (A 31 0)) _ rfl rfl
  | 13, h => exact @Eq.trans LC _ (chA 1014 (rg A 30 0 1014)) _ rfl rfl
  | 14, h => exact @Eq.trans LC _ (.inr (4, [.int (nI (A 33 0)), .int (nI (A 34 0)), .int (nI (A 35 0))])) _ rfl rfl
  | 15, h => exact @Eq.trans LC _ (sgC (ad 16 i) (A 4 i)) _ rfl rfl
  | 16, h => exact @Eq.trans LC _ (chA 10 (rg A 3 (10 * i) 10)) _ rfl rfl
  | 17, h => exact @Eq.trans LC _ (sgC (ad 18 i) (A 6 i)) _ rfl rfl
  | 18, h => exact @Eq.trans LC _ (chA 4 (rg A 5 (4 * i) 4)) _ rfl rfl
  | 19, h => exact @Eq.trans LC _ (sgC (ad 20 i) (A 8 i)) _ rfl rfl
  | 20, h => exact @Eq.trans LC _ (chA 10 (rg A 7 (10 * i) 10)) _ rfl rfl
  | 21, h => exact @Eq.trans LC _ (.inr (0, [.int (nI (A 10 i) - 1), .ref (ad 22 i), .ref (ad 23 i)])) _ rfl rfl
  | 22, h => exact @Eq.trans LC _ (.inl (.object RX6, 3, .inr (.inr (.inr (.inr (fun j => if j < 3 then some (ad 24 (3 * i + j)) else none)))))) _ rfl rfl
  | 23, h => exact @Eq.trans LC _ (inA 40 (fun j => if j < 40 then nI (A 14 (100 * (j % 4) + 10 * i + j / 4)) else 0)) _ rfl rfl
  | 24, h => exact @Eq.trans LC _ (tpC (ad 25 i) (nI (A 13 i))) _ rfl rfl
  | 25, h => exact @Eq.trans LC _ (sgC (ad 26 i) (A 12 i)) _ rfl rfl
  | 26, h => exact @Eq.trans LC _ (chA 60 (rg A 11 (60 * i) 60)) _ rfl rfl
  | 27, h => exact @Eq.trans LC _ (ltC (ad 28 i) (A 17 i)) _ rfl rfl
  | 28, h => exact @Eq.trans LC _ (inA 6 (rg A 16 (6 * i) 6)) _ rfl rfl
  | 29, h => exact @Eq.trans LC _ (.inr (1, [.ref (ad 30 i), .int (nI (A 20 i))])) _ rfl rfl
  | 30, h => exact @Eq.trans LC _ (inA 5 (rg A 19 (5 * i) 5)) _ rfl rfl
  | k + 31, h => exact absurd h (by omega)
