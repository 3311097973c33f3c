set_option maxRecDepth 100000 in
set_option maxHeartbeats 4000000 in
theorem wC_B {A B B1 : ST} {ad : AD} : ∀ k i, k < 31 → wC A B ad k i = wC A B1 ad k i := by
  intro k i h
  match k, h with
  | 0, h => exact @Eq.trans LC _ (.inr (8, [.ref (ad 1 0), .ref (ad 3 0), .ref (ad 7 0), .ref (ad 8 0), .ref (ad 9 0), .ref (ad 10 0), .ref (ad 11 0), .ref (ad 14 0), .int (nI (A 9 0)), .int (nI (A 15 0)), .int (nI (A 18 0))])) _ rfl rfl
  | 1, h => exact @Eq.trans LC _ (sgC (ad 2 0) (A 0 0)) _ rfl rfl
  | 2, h => exact @Eq.trans LC _ (chA 60 (rg A 1 0 60)) _ rfl rfl
  | 3, h => exact @Eq.trans LC _ (.inr (7, [.ref (ad 4 0), .ref (ad 5 0), .ref (ad 6 0), .int (nI (A 2 0))])) _ rfl rfl
  | 4, h => exact @Eq.trans LC _ (.inl (.object RX5, 12, .inr (.inr (.inr (.inr (fun j => if j < A 2 0 then some (ad 15 j) else none)))))) _ rfl rfl
  | 5, h => exact @Eq.trans LC _ (.inl (.object RX5, 24, .inr (.inr (.inr (.inr (fun j => if j < 24 then some (ad 17 j) else none)))))) _ rfl rfl
  | 6, h => exact @Eq.trans LC _ (.inl (.object RX5, 288, .inr (.inr (.inr (.inr (fun j => if A 8 j = 0 then none else some (ad 19 j))))))) _ rfl rfl
  | 7, h => exact @Eq.trans LC _ (.inl (.object RX0, 10, .inr (.inr (.inr (.inr (fun j => if j < A 9 0 then some (ad 21 j) else none)))))) _ rfl rfl
  | 8, h => exact @Eq.trans LC _ (.inl (.object RX2, 6, .inr (.inr (.inr (.inr (fun j => if j < A 15 0 then some (ad 27 j) else none)))))) _ rfl rfl
  | 9, h => exact @Eq.trans LC _ (.inl (.object RX1, 8, .inr (.inr (.inr (.inr (fun j => if j < A 18 0 then some (ad 29 j) else none)))))) _ rfl rfl
  | 10, h => exact @Eq.trans LC _ (inA 3 (rg A 21 0 3)) _ rfl rfl
  | 11, h => exact @Eq.trans LC _ (pgC (ad 12 0) (nI (A 32 0))) _ rfl rfl
  | 12, h => exact @Eq.trans LC _ (sgC (ad 13 0) (A 31 0)) _ rfl rfl
  | 13, h => exact @Eq.trans LC _ (chA 1014 (rg A 30 0 1014)) _ rfl rfl
  | 14, h => exact @Eq.trans LC _ (.inr (4, [.int (nI (A 33 0)), .int (nI (A 34 0)), .int (nI (A 35 0))])) _ rfl rfl
  | 15, h => exact @Eq.trans LC _ (sgC (ad 16 i) (A 4 i)) _ rfl rfl
  | 16, h => exact @Eq.trans LC _ (chA 10 (rg A 3 (10 * i) 10)) _ rfl rfl
  | 17, h => exact @Eq.trans LC _ (sgC (ad 18 i) (A 6 i)) _ rfl rfl
  | 18, h => exact @Eq.trans LC _ (chA 4 (rg A 5 (4 * i) 4)) _ rfl rfl
  | 19, h => exact @Eq.trans LC _ (sgC (ad 20 i) (A 8 i)) _ rfl rfl
  | 20, h => exact @Eq.trans LC _ (chA 10 (rg A 7 (10 * i) 10)) _ rfl rfl
  | 21, h => exact @Eq.trans LC _ (.inr (0, [.int (nI (A 10 i) - 1), .ref (ad 22 i), .ref (ad 23 i)])) _ rfl rfl
  | 22, h => exact @Eq.trans LC _ (.inl (.object RX6, 3, .inr (.inr (.inr (.inr (fun j => if j < 3 then some (ad 24 (3 * i + j)) else none)))))) _ rfl rfl
  | 23, h => exact @Eq.trans LC _ (inA 40 (fun j => if j < 40 then nI (A 14 (100 * (j % 4) + 10 * i + j / 4)) else 0)) _ rfl rfl
  | 24, h => exact @Eq.trans LC _ (tpC (ad 25 i) (nI (A 13 i))) _ rfl rfl
  | 25, h => exact @Eq.trans LC _ (sgC (ad 26 i) (A 12 i)) _ rfl rfl
  | 26, h => exact @Eq.trans LC _ (chA 60 (rg A 11 (60 * i) 60)) _ rfl rfl
  | 27, h => exact @Eq.trans LC _ (ltC (ad 28 i) (A 17 i)) _ rfl rfl
  | 28, h => exact @Eq.trans LC _ (inA 6 (rg A 16 (6 * i) 6)) _ rfl rfl
  | 29, h => exact @Eq.trans LC _ (.inr (1, [.ref (ad 30 i), .int (nI (A 20 i))])) _ rfl rfl
  | 30, h => exact @Eq.trans LC _ (inA 5 (rg A 19 (5 * i) 5)) _ rfl rfl
  | k + 31, h => exact absurd h (by omega)
set_option maxRecDepth 100000 in
set_option maxHeartbeats 4000000 in
theorem w_out {A B : ST} {ad : AD} {G : GH} (hW : World A B ad G) (v : Nat) : World (A) (setA B 40 0 v) ad (va_up G (ad 33 0) (some (.inl (.long, 1, .inr (.inl (vp_updL (fun j => if j = 0 then (nI (B 40 0)).toInt64 else 0) 0 (nI v).toInt64)))))) := by
  have hc : .inl (.long, 1, .inr (.inl (vp_updL (fun j => if j = 0 then (nI (B 40 0)).toInt64 else 0) 0 (nI v).toInt64))) = wC (A) (setA B 40 0 v) ad 33 0 := by
    show _ = (.inl (.long, 1, .inr (.inl (fun j => if j = 0 then (nI (setA B 40 0 v 40 0)).toInt64 else 0))) : LC)
    rw [setA_s]
    congr 5
    funext j
    dsimp only [vp_updL]
    by_cases h9 : j = 0
    · rw [if_pos h9, if_pos h9]
    · rw [if_neg h9, if_neg h9, if_neg h9]
  rw [hc]
  exact hW.put 33 0 rfl (fun k i hk => hk) (fun k i hk => by
    match k, hk with
    | 0, hk => exact Or.inr (wC_B 0 i (by decide))
    | 1, hk => exact Or.inr (wC_B 1 i (by decide))
    | 2, hk => exact Or.inr (wC_B 2 i (by decide))
    | 3, hk => exact Or.inr (wC_B 3 i (by decide))
    | 4, hk => exact Or.inr (wC_B 4 i (by decide))
    | 5, hk => exact Or.inr (wC_B 5 i (by decide))
    | 6, hk => exact Or.inr (wC_B 6 i (by decide))
    | 7, hk => exact Or.inr (wC_B 7 i (by decide))
    | 8, hk => exact Or.inr (wC_B 8 i (by decide))
    | 9, hk => exact Or.inr (wC_B 9 i (by decide))
    | 10, hk => exact Or.inr (wC_B 10 i (by decide))
    | 11, hk => exact Or.inr (wC_B 11 i (by decide))
    | 12, hk => exact Or.inr (wC_B 12 i (by decide))
    | 13, hk => exact Or.inr (wC_B 13 i (by decide))
    | 14, hk => exact Or.inr (wC_B 14 i (by decide))
    | 15, hk => exact Or.inr (wC_B 15 i (by decide))
    | 16, hk => exact Or.inr (wC_B 16 i (by decide))
    | 17, hk => exact Or.inr (wC_B 17 i (by decide))
    | 18, hk => exact Or.inr (wC_B 18 i (by decide))
    | 19, hk => exact Or.inr (wC_B 19 i (by decide))
    | 20, hk => exact Or.inr (wC_B 20 i (by decide))
    | 21, hk => exact Or.inr (wC_B 21 i (by decide))
    | 22, hk => exact Or.inr (wC_B 22 i (by decide))
    | 23, hk => exact Or.inr (wC_B 23 i (by decide))
    | 24, hk => exact Or.inr (wC_B 24 i (by decide))
    | 25, hk => exact Or.inr (wC_B 25 i (by decide))
    | 26, hk => exact Or.inr (wC_B 26 i (by decide))
    | 27, hk => exact Or.inr (wC_B 27 i (by decide))
    | 28, hk => exact Or.inr (wC_B 28 i (by decide))
    | 29, hk => exact Or.inr (wC_B 29 i (by decide))
    | 30, hk => exact Or.inr (wC_B 30 i (by decide))
    | 31, hk => exact (by
      refine Or.inr ?_
      show (.inr (9, mF (setA B 40 0 v) ad) : LC) = .inr (9, mF B ad)
      unfold mF
      rw [setA_f (g := 0) (by decide), setA_f (g := 2) (by decide), setA_f (g := 9) (by decide), setA_f (g := 15) (by decide), setA_f (g := 18) (by decide), setA_f (g := 23) (by decide), setA_f (g := 24) (by decide), setA_f (g := 26) (by decide)])
    | 32, hk => exact Or.inr (mA_n (fun h9 => by
      have hm : mArr i = true := hk
      rw [h9] at hm; cases hm))
    | 33, hk => exact Or.inl ⟨rfl, hk⟩
    | k + 34, hk => exact (False.elim hk))
