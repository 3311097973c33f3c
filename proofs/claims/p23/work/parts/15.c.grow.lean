/-- one address more -/
def adx (ad : AD) (k0 i0 q : Nat) : AD := fun k i => if k = k0 then (if i = i0 then q else ad k i) else ad k i
theorem adx_s {ad : AD} {k i q : Nat} : adx ad k i q k i = q := by unfold adx; rw [if_pos rfl, if_pos rfl]
theorem adx_n {ad : AD} {k i q j : Nat} (h : j ≠ i) : adx ad k i q k j = ad k j := by unfold adx; rw [if_pos rfl, if_neg h]
theorem adx_k {ad : AD} {k0 i0 q k i : Nat} (h : k ≠ k0) : adx ad k0 i0 q k i = ad k i := by unfold adx; rw [if_neg h]
theorem World.grow {A B A' : ST} {ad ad' : AD} {G G' : GH} (hW : World A B ad G) (N : Nat → Nat → Prop) (hl : ∀ k i, lvw A' k i → lvw A k i ∨ N k i) (hk : ∀ k i, lvw A k i → ad' k i = ad k i) (hn : ∀ k i, N k i → G (ad' k i) = none) (hd : ∀ k i k' i', N k i → N k' i' → ad' k i = ad' k' i' → k = k' ∧ i = i') (hc : ∀ k i, lvw A' k i → G' (ad' k i) = some (wC A' B ad' k i)) : World A' B ad' G' := by
  refine ⟨hc, fun k i k' i' h1 h2 e => ?_⟩
  rcases hl k i h1 with a | a <;> rcases hl k' i' h2 with b | b
  · rw [hk k i a, hk k' i' b] at e
    exact hW.2 k i k' i' a b e
  · have h3 := hn k' i' b
    rw [← e, hk k i a, hW.g k i a] at h3
    cases h3
  · have h3 := hn k i a
    rw [e, hk k' i' b, hW.g k' i' b] at h3
    cases h3
  · exact hd k i k' i' a b e
def fillA (A : ST) (n w : Nat) : ST := fun f k => if f = 19 then (if 5 * n ≤ k ∧ k < 5 * n + 5 then w else A f k) else A f k
theorem rg_zero {A : ST} {f b n : Nat} (h : ∀ k, k < n → A f (b + k) = 0) : rg A f b n = fun _ => 0 := by
  funext k; dsimp only [rg]
  by_cases hk : k < n
  · rw [if_pos hk, h k hk, nI_0]
  · rw [if_neg hk]
theorem up1 {f : Nat → Option Nat} {a : Nat} {e : Option Nat} : va_up f a e a = e := by unfold va_up; rw [if_pos rfl]
theorem up2 {f : Nat → Option Nat} {a q : Nat} {e : Option Nat} (h : q ≠ a) : va_up f a e q = f q := by unfold va_up; rw [if_neg h]
set_option maxRecDepth 100000 in
set_option maxHeartbeats 4000000 in
theorem g_stem {A B : ST} {ad : AD} {G G' : GH} (hW : World A B ad G) (hI : Inv A)  {q qa : Nat} (hf1 : G q = none) (hf2 : G qa = none) (hne : q ≠ qa) (hold : ∀ x c, G x = some c → x ≠ ad 4 0 → x ≠ ad 3 0 → G' x = some c) (h4 : G' (ad 4 0) = some (.inl (.object RX5, 12, .inr (.inr (.inr (.inr (va_up (fun j => if j < A 2 0 then some (ad 15 j) else none) (A 2 0) (some q)))))))) (h3 : G' (ad 3 0) = some (.inr (7, [.ref (ad 4 0), .ref (ad 5 0), .ref (ad 6 0), .int (nI (A 2 0 + 1))]))) (hq : G' q = some (sgC qa (A 0 0))) (hqa : G' qa = some (chA 10 (cpy (rg A 1 0 60) (fun _ => 0) (A 0 0)))) (hlen : A 0 0 ≤ 10) : World (setA (setA (cpyA A 3 (10 * A 2 0) (A 0 0)) 4 (A 2 0) (A 0 0)) 2 0 (A 2 0 + 1)) B (adx (adx ad 16 (A 2 0) qa) 15 (A 2 0) q) G' := by
  refine hW.grow (fun k i => (k = 15 ∨ k = 16) ∧ i = A 2 0) (fun k i hk => ?_) (fun k i hk => ?_) ?_ ?_ (fun k i hk => ?_)
  · match k, hk with
    | 0, hk => exact Or.inl hk
    | 1, hk => exact Or.inl hk
    | 2, hk => exact Or.inl hk
    | 3, hk => exact Or.inl hk
    | 4, hk => exact Or.inl hk
    | 5, hk => exact Or.inl hk
    | 6, hk => exact Or.inl hk
    | 7, hk => exact Or.inl hk
    | 8, hk => exact Or.inl hk
    | 9, hk => exact Or.inl hk
    | 10, hk => exact Or.inl hk
    | 11, hk => exact Or.inl hk
    | 12, hk => exact Or.inl hk
    | 13, hk => exact Or.inl hk
    | 14, hk => exact Or.inl hk
    | 15, hk => exact (by
      by_cases h9 : i = A 2 0
      · exact Or.inr ⟨by decide, h9⟩
      · exact Or.inl (show i < A 2 0 by have hk2 : i < A 2 0 + 1 := hk; omega))
    | 16, hk => exact (by
      by_cases h9 : i = A 2 0
      · exact Or.inr ⟨by decide, h9⟩
      · exact Or.inl (show i < A 2 0 by have hk2 : i < A 2 0 + 1 := hk; omega))
    | 17, hk => exact Or.inl hk
    | 18, hk => exact Or.inl hk
    | 19, hk => exact Or.inl hk
    | 20, hk => exact Or.inl hk
    | 21, hk => exact Or.inl hk
    | 22, hk => exact Or.inl hk
    | 23, hk => exact Or.inl hk
    | 24, hk => exact Or.inl hk
    | 25, hk => exact Or.inl hk
    | 26, hk => exact Or.inl hk
    | 27, hk => exact Or.inl hk
    | 28, hk => exact Or.inl hk
    | 29, hk => exact Or.inl hk
    | 30, hk => exact Or.inl hk
    | 31, hk => exact Or.inl hk
    | 32, hk => exact Or.inl hk
    | 33, hk => exact Or.inl hk
    | 34, hk => exact Or.inl hk
    | 35, hk => exact Or.inl hk
    | k + 36, hk => exact (False.elim hk)
  · match k, hk with
    | 0, hk => exact rfl
    | 1, hk => exact rfl
    | 2, hk => exact rfl
    | 3, hk => exact rfl
    | 4, hk => exact rfl
    | 5, hk => exact rfl
    | 6, hk => exact rfl
    | 7, hk => exact rfl
    | 8, hk => exact rfl
    | 9, hk => exact rfl
    | 10, hk => exact rfl
    | 11, hk => exact rfl
    | 12, hk => exact rfl
    | 13, hk => exact rfl
    | 14, hk => exact rfl
    | 15, hk => exact (by
      have hk3 : i ≠ A 2 0 := (Nat.ne_of_lt hk)
      exact (adx_n hk3).trans (adx_k (by decide)))
    | 16, hk => exact (by
      have hk3 : i ≠ A 2 0 := (Nat.ne_of_lt hk)
      exact (adx_k (by decide)).trans (adx_n hk3))
    | 17, hk => exact rfl
    | 18, hk => exact rfl
    | 19, hk => exact rfl
    | 20, hk => exact rfl
    | 21, hk => exact rfl
    | 22, hk => exact rfl
    | 23, hk => exact rfl
    | 24, hk => exact rfl
    | 25, hk => exact rfl
    | 26, hk => exact rfl
    | 27, hk => exact rfl
    | 28, hk => exact rfl
    | 29, hk => exact rfl
    | 30, hk => exact rfl
    | 31, hk => exact rfl
    | 32, hk => exact rfl
    | 33, hk => exact rfl
    | 34, hk => exact rfl
    | 35, hk => exact rfl
    | k + 36, hk => exact (False.elim hk)
  · rintro k i ⟨h1 | h1, h2⟩
    · rw [h1, h2, (show (adx (adx ad 16 (A 2 0) qa) 15 (A 2 0) q) 15 (A 2 0) = q from adx_s)]; exact hf1
    · rw [h1, h2, (show (adx (adx ad 16 (A 2 0) qa) 15 (A 2 0) q) 16 (A 2 0) = qa from (adx_k (by decide)).trans adx_s)]; exact hf2
  · rintro k i k' i' ⟨h1 | h1, h2⟩ ⟨h3 | h3, h4⟩ e
    · exact ⟨h1.trans h3.symm, h2.trans h4.symm⟩
    · rw [h1, h2, h3, h4, (show (adx (adx ad 16 (A 2 0) qa) 15 (A 2 0) q) 15 (A 2 0) = q from adx_s), (show (adx (adx ad 16 (A 2 0) qa) 15 (A 2 0) q) 16 (A 2 0) = qa from (adx_k (by decide)).trans adx_s)] at e; exact absurd e hne
    · rw [h1, h2, h3, h4, (show (adx (adx ad 16 (A 2 0) qa) 15 (A 2 0) q) 15 (A 2 0) = q from adx_s), (show (adx (adx ad 16 (A 2 0) qa) 15 (A 2 0) q) 16 (A 2 0) = qa from (adx_k (by decide)).trans adx_s)] at e; exact absurd e (Ne.symm hne)
    · exact ⟨h1.trans h3.symm, h2.trans h4.symm⟩
  · match k, hk with
    | 0, hk => exact (hold _ _ (hW.g 0 i hk) (hW.ne 0 i 4 0 hk rfl (Or.inl (by decide))) (hW.ne 0 i 3 0 hk rfl (Or.inl (by decide))))
    | 1, hk => exact (hold _ _ (hW.g 1 i hk) (hW.ne 1 i 4 0 hk rfl (Or.inl (by decide))) (hW.ne 1 i 3 0 hk rfl (Or.inl (by decide))))
    | 2, hk => exact (hold _ _ (hW.g 2 i hk) (hW.ne 2 i 4 0 hk rfl (Or.inl (by decide))) (hW.ne 2 i 3 0 hk rfl (Or.inl (by decide))))
    | 3, hk => exact (by have h0 : i = 0 := hk; rw [h0]; exact h3)
    | 4, hk => exact (by
      have h0 : i = 0 := hk
      rw [h0]
      refine h4.trans ?_
      show some (Sum.inl (_, _, Sum.inr (Sum.inr (Sum.inr (Sum.inr _)))) : LC) = some (Sum.inl (_, _, Sum.inr (Sum.inr (Sum.inr (Sum.inr (fun j => if j < A 2 0 + 1 then some ((adx (adx ad 16 (A 2 0) qa) 15 (A 2 0) q) 15 j) else none))))))
      congr 8
      funext j
      by_cases h9 : j = A 2 0
      · rw [h9, if_pos (Nat.lt_succ_self _)]
        exact up1.trans (by rw [show (adx (adx ad 16 (A 2 0) qa) 15 (A 2 0) q) 15 (A 2 0) = q from adx_s])
      · have hu : va_up (fun j => if j < A 2 0 then some (ad 15 j) else none) (A 2 0) (some q) j = (if j < A 2 0 then some (ad 15 j) else none) := up2 h9
        rw [hu]
        by_cases h7 : j < A 2 0
        · rw [if_pos h7, if_pos (by omega)]
          exact (congrArg some (show (adx (adx ad 16 (A 2 0) qa) 15 (A 2 0) q) 15 j = ad 15 j from (adx_n h9).trans (adx_k (by decide)))).symm
        · rw [if_neg h7, if_neg (by omega)])
    | 5, hk => exact (hold _ _ (hW.g 5 i hk) (hW.ne 5 i 4 0 hk rfl (Or.inl (by decide))) (hW.ne 5 i 3 0 hk rfl (Or.inl (by decide))))
    | 6, hk => exact (hold _ _ (hW.g 6 i hk) (hW.ne 6 i 4 0 hk rfl (Or.inl (by decide))) (hW.ne 6 i 3 0 hk rfl (Or.inl (by decide))))
    | 7, hk => exact (hold _ _ (hW.g 7 i hk) (hW.ne 7 i 4 0 hk rfl (Or.inl (by decide))) (hW.ne 7 i 3 0 hk rfl (Or.inl (by decide))))
    | 8, hk => exact (hold _ _ (hW.g 8 i hk) (hW.ne 8 i 4 0 hk rfl (Or.inl (by decide))) (hW.ne 8 i 3 0 hk rfl (Or.inl (by decide))))
    | 9, hk => exact (hold _ _ (hW.g 9 i hk) (hW.ne 9 i 4 0 hk rfl (Or.inl (by decide))) (hW.ne 9 i 3 0 hk rfl (Or.inl (by decide))))
    | 10, hk => exact (hold _ _ (hW.g 10 i hk) (hW.ne 10 i 4 0 hk rfl (Or.inl (by decide))) (hW.ne 10 i 3 0 hk rfl (Or.inl (by decide))))
    | 11, hk => exact (hold _ _ (hW.g 11 i hk) (hW.ne 11 i 4 0 hk rfl (Or.inl (by decide))) (hW.ne 11 i 3 0 hk rfl (Or.inl (by decide))))
    | 12, hk => exact (hold _ _ (hW.g 12 i hk) (hW.ne 12 i 4 0 hk rfl (Or.inl (by decide))) (hW.ne 12 i 3 0 hk rfl (Or.inl (by decide))))
    | 13, hk => exact (hold _ _ (hW.g 13 i hk) (hW.ne 13 i 4 0 hk rfl (Or.inl (by decide))) (hW.ne 13 i 3 0 hk rfl (Or.inl (by decide))))
    | 14, hk => exact (hold _ _ (hW.g 14 i hk) (hW.ne 14 i 4 0 hk rfl (Or.inl (by decide))) (hW.ne 14 i 3 0 hk rfl (Or.inl (by decide))))
    | 15, hk => exact (by
      by_cases h9 : i = A 2 0
      · rw [h9, (show (adx (adx ad 16 (A 2 0) qa) 15 (A 2 0) q) 15 (A 2 0) = q from adx_s)]; refine hq.trans ?_
        show some (sgC qa (A 0 0)) = some (sgC ((adx (adx ad 16 (A 2 0) qa) 15 (A 2 0) q) 16 (A 2 0)) (setA (cpyA A 3 (10 * A 2 0) (A 0 0)) 4 (A 2 0) (A 0 0) 4 (A 2 0)))
        rw [setA_s, show (adx (adx ad 16 (A 2 0) qa) 15 (A 2 0) q) 16 (A 2 0) = qa from (adx_k (by decide)).trans adx_s]
      · have h8 : lvw A 15 i := (show i < A 2 0 by have hk2 : i < A 2 0 + 1 := hk; omega)
        rw [(show (adx (adx ad 16 (A 2 0) qa) 15 (A 2 0) q) 15 i = ad 15 i from (adx_n h9).trans (adx_k (by decide)))]; refine (hold _ _ (hW.g 15 i h8) (hW.ne 15 i 4 0 h8 rfl (Or.inl (by decide))) (hW.ne 15 i 3 0 h8 rfl (Or.inl (by decide)))).trans ?_
        show some (sgC (ad 16 i) (A 4 i)) = some (sgC ((adx (adx ad 16 (A 2 0) qa) 15 (A 2 0) q) 16 i) (setA (cpyA A 3 (10 * A 2 0) (A 0 0)) 4 (A 2 0) (A 0 0) 4 i))
        rw [setA_n h9, (show (adx (adx ad 16 (A 2 0) qa) 15 (A 2 0) q) 16 i = ad 16 i from (adx_k (by decide)).trans (adx_n h9))]; rfl)
    | 16, hk => exact (by
      by_cases h9 : i = A 2 0
      · rw [h9, (show (adx (adx ad 16 (A 2 0) qa) 15 (A 2 0) q) 16 (A 2 0) = qa from (adx_k (by decide)).trans adx_s)]; refine hqa.trans ?_
        show some (chA 10 _) = some (chA 10 (rg (cpyA A 3 (10 * A 2 0) (A 0 0)) 3 (10 * A 2 0) 10))
        rw [rg_cpy_s hlen (by omega), rg_zero (fun k _ => hI.ze.1 _ (by omega))]
      · have h8 : lvw A 16 i := (show i < A 2 0 by have hk2 : i < A 2 0 + 1 := hk; omega)
        rw [(show (adx (adx ad 16 (A 2 0) qa) 15 (A 2 0) q) 16 i = ad 16 i from (adx_k (by decide)).trans (adx_n h9))]; refine (hold _ _ (hW.g 16 i h8) (hW.ne 16 i 4 0 h8 rfl (Or.inl (by decide))) (hW.ne 16 i 3 0 h8 rfl (Or.inl (by decide)))).trans ?_
        show some (chA 10 (rg A 3 (10 * i) 10)) = some (chA 10 (rg (cpyA A 3 (10 * A 2 0) (A 0 0)) 3 (10 * i) 10))
        rw [rg_cpy_n (fun k hk => by have hk2 : i < A 2 0 := h8; omega)])
    | 17, hk => exact (hold _ _ (hW.g 17 i hk) (hW.ne 17 i 4 0 hk rfl (Or.inl (by decide))) (hW.ne 17 i 3 0 hk rfl (Or.inl (by decide))))
    | 18, hk => exact (hold _ _ (hW.g 18 i hk) (hW.ne 18 i 4 0 hk rfl (Or.inl (by decide))) (hW.ne 18 i 3 0 hk rfl (Or.inl (by decide))))
    | 19, hk => exact (hold _ _ (hW.g 19 i hk) (hW.ne 19 i 4 0 hk rfl (Or.inl (by decide))) (hW.ne 19 i 3 0 hk rfl (Or.inl (by decide))))
    | 20, hk => exact (hold _ _ (hW.g 20 i hk) (hW.ne 20 i 4 0 hk rfl (Or.inl (by decide))) (hW.ne 20 i 3 0 hk rfl (Or.inl (by decide))))
    | 21, hk => exact (hold _ _ (hW.g 21 i hk) (hW.ne 21 i 4 0 hk rfl (Or.inl (by decide))) (hW.ne 21 i 3 0 hk rfl (Or.inl (by decide))))
    | 22, hk => exact (hold _ _ (hW.g 22 i hk) (hW.ne 22 i 4 0 hk rfl (Or.inl (by decide))) (hW.ne 22 i 3 0 hk rfl (Or.inl (by decide))))
    | 23, hk => exact (hold _ _ (hW.g 23 i hk) (hW.ne 23 i 4 0 hk rfl (Or.inl (by decide))) (hW.ne 23 i 3 0 hk rfl (Or.inl (by decide))))
    | 24, hk => exact (hold _ _ (hW.g 24 i hk) (hW.ne 24 i 4 0 hk rfl (Or.inl (by decide))) (hW.ne 24 i 3 0 hk rfl (Or.inl (by decide))))
    | 25, hk => exact (hold _ _ (hW.g 25 i hk) (hW.ne 25 i 4 0 hk rfl (Or.inl (by decide))) (hW.ne 25 i 3 0 hk rfl (Or.inl (by decide))))
    | 26, hk => exact (hold _ _ (hW.g 26 i hk) (hW.ne 26 i 4 0 hk rfl (Or.inl (by decide))) (hW.ne 26 i 3 0 hk rfl (Or.inl (by decide))))
    | 27, hk => exact (hold _ _ (hW.g 27 i hk) (hW.ne 27 i 4 0 hk rfl (Or.inl (by decide))) (hW.ne 27 i 3 0 hk rfl (Or.inl (by decide))))
    | 28, hk => exact (hold _ _ (hW.g 28 i hk) (hW.ne 28 i 4 0 hk rfl (Or.inl (by decide))) (hW.ne 28 i 3 0 hk rfl (Or.inl (by decide))))
    | 29, hk => exact (hold _ _ (hW.g 29 i hk) (hW.ne 29 i 4 0 hk rfl (Or.inl (by decide))) (hW.ne 29 i 3 0 hk rfl (Or.inl (by decide))))
    | 30, hk => exact (hold _ _ (hW.g 30 i hk) (hW.ne 30 i 4 0 hk rfl (Or.inl (by decide))) (hW.ne 30 i 3 0 hk rfl (Or.inl (by decide))))
    | 31, hk => exact (hold _ _ (hW.g 31 i hk) (hW.ne 31 i 4 0 hk rfl (Or.inl (by decide))) (hW.ne 31 i 3 0 hk rfl (Or.inl (by decide))))
    | 32, hk => exact (hold _ _ (hW.g 32 i hk) (hW.ne 32 i 4 0 hk rfl (Or.inl (by decide))) (hW.ne 32 i 3 0 hk rfl (Or.inl (by decide))))
    | 33, hk => exact (hold _ _ (hW.g 33 i hk) (hW.ne 33 i 4 0 hk rfl (Or.inl (by decide))) (hW.ne 33 i 3 0 hk rfl (Or.inl (by decide))))
    | 34, hk => exact (hold _ _ (hW.g 34 i hk) (hW.ne 34 i 4 0 hk rfl (Or.inl (by decide))) (hW.ne 34 i 3 0 hk rfl (Or.inl (by decide))))
    | 35, hk => exact (hold _ _ (hW.g 35 i hk) (hW.ne 35 i 4 0 hk rfl (Or.inl (by decide))) (hW.ne 35 i 3 0 hk rfl (Or.inl (by decide))))
    | k + 36, hk => exact (False.elim hk)
set_option maxRecDepth 100000 in
set_option maxHeartbeats 4000000 in
theorem g_own {A B : ST} {ad : AD} {G G' : GH} (hW : World A B ad G) (hI : Inv A) {i0 : Nat} (hi : i0 < 288) (h80 : A 8 i0 = 0) (hnl : ¬ (i0 < 288 ∧ A 8 i0 ≠ 0)) (hlen0 : A 0 0 ≠ 0) {q qa : Nat} (hf1 : G q = none) (hf2 : G qa = none) (hne : q ≠ qa) (hold : ∀ x c, G x = some c → x ≠ ad 6 0 → G' x = some c) (h6 : G' (ad 6 0) = some (.inl (.object RX5, 288, .inr (.inr (.inr (.inr (va_up (fun j => if A 8 j = 0 then none else some (ad 19 j)) i0 (some q)))))))) (hq : G' q = some (sgC qa (A 0 0))) (hqa : G' qa = some (chA 10 (cpy (rg A 1 0 60) (fun _ => 0) (A 0 0)))) (hlen : A 0 0 ≤ 10) : World (setA (cpyA A 7 (10 * i0) (A 0 0)) 8 i0 (A 0 0)) B (adx (adx ad 20 (i0) qa) 19 (i0) q) G' := by
  refine hW.grow (fun k i => (k = 19 ∨ k = 20) ∧ i = i0) (fun k i hk => ?_) (fun k i hk => ?_) ?_ ?_ (fun k i hk => ?_)
  · match k, hk with
    | 0, hk => exact Or.inl hk
    | 1, hk => exact Or.inl hk
    | 2, hk => exact Or.inl hk
    | 3, hk => exact Or.inl hk
    | 4, hk => exact Or.inl hk
    | 5, hk => exact Or.inl hk
    | 6, hk => exact Or.inl hk
    | 7, hk => exact Or.inl hk
    | 8, hk => exact Or.inl hk
    | 9, hk => exact Or.inl hk
    | 10, hk => exact Or.inl hk
    | 11, hk => exact Or.inl hk
    | 12, hk => exact Or.inl hk
    | 13, hk => exact Or.inl hk
    | 14, hk => exact Or.inl hk
    | 15, hk => exact Or.inl hk
    | 16, hk => exact Or.inl hk
    | 17, hk => exact Or.inl hk
    | 18, hk => exact Or.inl hk
    | 19, hk => exact (by
      by_cases h9 : i = i0
      · exact Or.inr ⟨by decide, h9⟩
      · exact Or.inl (show i < 288 ∧ A 8 i ≠ 0 from ⟨hk.1, by have h5 := hk.2; have h6 : setA (cpyA A 7 (10 * i0) (A 0 0)) 8 i0 (A 0 0) 8 i = A 8 i := setA_n h9; intro h7; exact h5 (h6.trans h7)⟩))
    | 20, hk => exact (by
      by_cases h9 : i = i0
      · exact Or.inr ⟨by decide, h9⟩
      · exact Or.inl (show i < 288 ∧ A 8 i ≠ 0 from ⟨hk.1, by have h5 := hk.2; have h6 : setA (cpyA A 7 (10 * i0) (A 0 0)) 8 i0 (A 0 0) 8 i = A 8 i := setA_n h9; intro h7; exact h5 (h6.trans h7)⟩))
    | 21, hk => exact Or.inl hk
    | 22, hk => exact Or.inl hk
    | 23, hk => exact Or.inl hk
    | 24, hk => exact Or.inl hk
    | 25, hk => exact Or.inl hk
    | 26, hk => exact Or.inl hk
    | 27, hk => exact Or.inl hk
    | 28, hk => exact Or.inl hk
    | 29, hk => exact Or.inl hk
    | 30, hk => exact Or.inl hk
    | 31, hk => exact Or.inl hk
    | 32, hk => exact Or.inl hk
    | 33, hk => exact Or.inl hk
    | 34, hk => exact Or.inl hk
    | 35, hk => exact Or.inl hk
    | k + 36, hk => exact (False.elim hk)
  · match k, hk with
    | 0, hk => exact rfl
    | 1, hk => exact rfl
    | 2, hk => exact rfl
    | 3, hk => exact rfl
    | 4, hk => exact rfl
    | 5, hk => exact rfl
    | 6, hk => exact rfl
    | 7, hk => exact rfl
    | 8, hk => exact rfl
    | 9, hk => exact rfl
    | 10, hk => exact rfl
    | 11, hk => exact rfl
    | 12, hk => exact rfl
    | 13, hk => exact rfl
    | 14, hk => exact rfl
    | 15, hk => exact rfl
    | 16, hk => exact rfl
    | 17, hk => exact rfl
    | 18, hk => exact rfl
    | 19, hk => exact (by
      have hk3 : i ≠ i0 := (fun e9 => hnl (by rw [← e9]; exact hk))
      exact (adx_n hk3).trans (adx_k (by decide)))
    | 20, hk => exact (by
      have hk3 : i ≠ i0 := (fun e9 => hnl (by rw [← e9]; exact hk))
      exact (adx_k (by decide)).trans (adx_n hk3))
    | 21, hk => exact rfl
    | 22, hk => exact rfl
    | 23, hk => exact rfl
    | 24, hk => exact rfl
    | 25, hk => exact rfl
    | 26, hk => exact rfl
    | 27, hk => exact rfl
    | 28, hk => exact rfl
    | 29, hk => exact rfl
    | 30, hk => exact rfl
    | 31, hk => exact rfl
    | 32, hk => exact rfl
    | 33, hk => exact rfl
    | 34, hk => exact rfl
    | 35, hk => exact rfl
    | k + 36, hk => exact (False.elim hk)
  · rintro k i ⟨h1 | h1, h2⟩
    · rw [h1, h2, (show (adx (adx ad 20 (i0) qa) 19 (i0) q) 19 (i0) = q from adx_s)]; exact hf1
    · rw [h1, h2, (show (adx (adx ad 20 (i0) qa) 19 (i0) q) 20 (i0) = qa from (adx_k (by decide)).trans adx_s)]; exact hf2
  · rintro k i k' i' ⟨h1 | h1, h2⟩ ⟨h3 | h3, h4⟩ e
    · exact ⟨h1.trans h3.symm, h2.trans h4.symm⟩
    · rw [h1, h2, h3, h4, (show (adx (adx ad 20 (i0) qa) 19 (i0) q) 19 (i0) = q from adx_s), (show (adx (adx ad 20 (i0) qa) 19 (i0) q) 20 (i0) = qa from (adx_k (by decide)).trans adx_s)] at e; exact absurd e hne
    · rw [h1, h2, h3, h4, (show (adx (adx ad 20 (i0) qa) 19 (i0) q) 19 (i0) = q from adx_s), (show (adx (adx ad 20 (i0) qa) 19 (i0) q) 20 (i0) = qa from (adx_k (by decide)).trans adx_s)] at e; exact absurd e (Ne.symm hne)
    · exact ⟨h1.trans h3.symm, h2.trans h4.symm⟩
  · match k, hk with
    | 0, hk => exact (hold _ _ (hW.g 0 i hk) (hW.ne 0 i 6 0 hk rfl (Or.inl (by decide))))
    | 1, hk => exact (hold _ _ (hW.g 1 i hk) (hW.ne 1 i 6 0 hk rfl (Or.inl (by decide))))
    | 2, hk => exact (hold _ _ (hW.g 2 i hk) (hW.ne 2 i 6 0 hk rfl (Or.inl (by decide))))
    | 3, hk => exact (hold _ _ (hW.g 3 i hk) (hW.ne 3 i 6 0 hk rfl (Or.inl (by decide))))
    | 4, hk => exact (hold _ _ (hW.g 4 i hk) (hW.ne 4 i 6 0 hk rfl (Or.inl (by decide))))
    | 5, hk => exact (hold _ _ (hW.g 5 i hk) (hW.ne 5 i 6 0 hk rfl (Or.inl (by decide))))
    | 6, hk => exact (by
      have h0 : i = 0 := hk
      rw [h0]
      refine h6.trans ?_
      show some (Sum.inl (_, _, Sum.inr (Sum.inr (Sum.inr (Sum.inr _)))) : LC) = some (Sum.inl (_, _, Sum.inr (Sum.inr (Sum.inr (Sum.inr (fun j => if setA (cpyA A 7 (10 * i0) (A 0 0)) 8 i0 (A 0 0) 8 j = 0 then none else some ((adx (adx ad 20 (i0) qa) 19 (i0) q) 19 j)))))))
      congr 8
      funext j
      by_cases h9 : j = i0
      · rw [h9, setA_s, if_neg hlen0]
        exact up1.trans (by rw [show (adx (adx ad 20 (i0) qa) 19 (i0) q) 19 (i0) = q from adx_s])
      · have hu : va_up (fun j => if A 8 j = 0 then none else some (ad 19 j)) i0 (some q) j = (if A 8 j = 0 then none else some (ad 19 j)) := up2 h9
        rw [hu, setA_n h9, show (adx (adx ad 20 (i0) qa) 19 (i0) q) 19 j = ad 19 j from (adx_n h9).trans (adx_k (by decide))]; rfl)
    | 7, hk => exact (hold _ _ (hW.g 7 i hk) (hW.ne 7 i 6 0 hk rfl (Or.inl (by decide))))
    | 8, hk => exact (hold _ _ (hW.g 8 i hk) (hW.ne 8 i 6 0 hk rfl (Or.inl (by decide))))
    | 9, hk => exact (hold _ _ (hW.g 9 i hk) (hW.ne 9 i 6 0 hk rfl (Or.inl (by decide))))
    | 10, hk => exact (hold _ _ (hW.g 10 i hk) (hW.ne 10 i 6 0 hk rfl (Or.inl (by decide))))
    | 11, hk => exact (hold _ _ (hW.g 11 i hk) (hW.ne 11 i 6 0 hk rfl (Or.inl (by decide))))
    | 12, hk => exact (hold _ _ (hW.g 12 i hk) (hW.ne 12 i 6 0 hk rfl (Or.inl (by decide))))
    | 13, hk => exact (hold _ _ (hW.g 13 i hk) (hW.ne 13 i 6 0 hk rfl (Or.inl (by decide))))
    | 14, hk => exact (hold _ _ (hW.g 14 i hk) (hW.ne 14 i 6 0 hk rfl (Or.inl (by decide))))
    | 15, hk => exact (hold _ _ (hW.g 15 i hk) (hW.ne 15 i 6 0 hk rfl (Or.inl (by decide))))
    | 16, hk => exact (hold _ _ (hW.g 16 i hk) (hW.ne 16 i 6 0 hk rfl (Or.inl (by decide))))
    | 17, hk => exact (hold _ _ (hW.g 17 i hk) (hW.ne 17 i 6 0 hk rfl (Or.inl (by decide))))
    | 18, hk => exact (hold _ _ (hW.g 18 i hk) (hW.ne 18 i 6 0 hk rfl (Or.inl (by decide))))
    | 19, hk => exact (by
      by_cases h9 : i = i0
      · rw [h9, (show (adx (adx ad 20 (i0) qa) 19 (i0) q) 19 (i0) = q from adx_s)]; refine hq.trans ?_
        show some (sgC qa (A 0 0)) = some (sgC ((adx (adx ad 20 (i0) qa) 19 (i0) q) 20 i0) (setA (cpyA A 7 (10 * i0) (A 0 0)) 8 i0 (A 0 0) 8 i0))
        rw [setA_s, show (adx (adx ad 20 (i0) qa) 19 (i0) q) 20 i0 = qa from (adx_k (by decide)).trans adx_s]
      · have h8 : lvw A 19 i := (show i < 288 ∧ A 8 i ≠ 0 from ⟨hk.1, by have h5 := hk.2; have h6 : setA (cpyA A 7 (10 * i0) (A 0 0)) 8 i0 (A 0 0) 8 i = A 8 i := setA_n h9; intro h7; exact h5 (h6.trans h7)⟩)
        rw [(show (adx (adx ad 20 (i0) qa) 19 (i0) q) 19 i = ad 19 i from (adx_n h9).trans (adx_k (by decide)))]; refine (hold _ _ (hW.g 19 i h8) (hW.ne 19 i 6 0 h8 rfl (Or.inl (by decide)))).trans ?_
        show some (sgC (ad 20 i) (A 8 i)) = some (sgC ((adx (adx ad 20 (i0) qa) 19 (i0) q) 20 i) (setA (cpyA A 7 (10 * i0) (A 0 0)) 8 i0 (A 0 0) 8 i))
        rw [setA_n h9, (show (adx (adx ad 20 (i0) qa) 19 (i0) q) 20 i = ad 20 i from (adx_k (by decide)).trans (adx_n h9))]; rfl)
    | 20, hk => exact (by
      by_cases h9 : i = i0
      · rw [h9, (show (adx (adx ad 20 (i0) qa) 19 (i0) q) 20 (i0) = qa from (adx_k (by decide)).trans adx_s)]; refine hqa.trans ?_
        show some (chA 10 _) = some (chA 10 (rg (cpyA A 7 (10 * i0) (A 0 0)) 7 (10 * i0) 10))
        rw [rg_cpy_s hlen (by omega), rg_zero (fun k hk => hI.ze.2.1 _ hi h80 k hk)]
      · have h8 : lvw A 20 i := (show i < 288 ∧ A 8 i ≠ 0 from ⟨hk.1, by have h5 := hk.2; have h6 : setA (cpyA A 7 (10 * i0) (A 0 0)) 8 i0 (A 0 0) 8 i = A 8 i := setA_n h9; intro h7; exact h5 (h6.trans h7)⟩)
        rw [(show (adx (adx ad 20 (i0) qa) 19 (i0) q) 20 i = ad 20 i from (adx_k (by decide)).trans (adx_n h9))]; refine (hold _ _ (hW.g 20 i h8) (hW.ne 20 i 6 0 h8 rfl (Or.inl (by decide)))).trans ?_
        show some (chA 10 (rg A 7 (10 * i) 10)) = some (chA 10 (rg (cpyA A 7 (10 * i0) (A 0 0)) 7 (10 * i) 10))
        rw [rg_cpy_n (fun k hk => by omega)])
    | 21, hk => exact (hold _ _ (hW.g 21 i hk) (hW.ne 21 i 6 0 hk rfl (Or.inl (by decide))))
    | 22, hk => exact (hold _ _ (hW.g 22 i hk) (hW.ne 22 i 6 0 hk rfl (Or.inl (by decide))))
    | 23, hk => exact (hold _ _ (hW.g 23 i hk) (hW.ne 23 i 6 0 hk rfl (Or.inl (by decide))))
    | 24, hk => exact (hold _ _ (hW.g 24 i hk) (hW.ne 24 i 6 0 hk rfl (Or.inl (by decide))))
    | 25, hk => exact (hold _ _ (hW.g 25 i hk) (hW.ne 25 i 6 0 hk rfl (Or.inl (by decide))))
    | 26, hk => exact (hold _ _ (hW.g 26 i hk) (hW.ne 26 i 6 0 hk rfl (Or.inl (by decide))))
    | 27, hk => exact (hold _ _ (hW.g 27 i hk) (hW.ne 27 i 6 0 hk rfl (Or.inl (by decide))))
    | 28, hk => exact (hold _ _ (hW.g 28 i hk) (hW.ne 28 i 6 0 hk rfl (Or.inl (by decide))))
    | 29, hk => exact (hold _ _ (hW.g 29 i hk) (hW.ne 29 i 6 0 hk rfl (Or.inl (by decide))))
    | 30, hk => exact (hold _ _ (hW.g 30 i hk) (hW.ne 30 i 6 0 hk rfl (Or.inl (by decide))))
    | 31, hk => exact (hold _ _ (hW.g 31 i hk) (hW.ne 31 i 6 0 hk rfl (Or.inl (by decide))))
    | 32, hk => exact (hold _ _ (hW.g 32 i hk) (hW.ne 32 i 6 0 hk rfl (Or.inl (by decide))))
    | 33, hk => exact (hold _ _ (hW.g 33 i hk) (hW.ne 33 i 6 0 hk rfl (Or.inl (by decide))))
    | 34, hk => exact (hold _ _ (hW.g 34 i hk) (hW.ne 34 i 6 0 hk rfl (Or.inl (by decide))))
    | 35, hk => exact (hold _ _ (hW.g 35 i hk) (hW.ne 35 i 6 0 hk rfl (Or.inl (by decide))))
    | k + 36, hk => exact (False.elim hk)
set_option maxRecDepth 100000 in
set_option maxHeartbeats 4000000 in
theorem g_letter {A B : ST} {ad : AD} {G G' : GH} (hW : World A B ad G) (hI : Inv A)  {q qa : Nat} (hf1 : G q = none) (hf2 : G qa = none) (hne : q ≠ qa) (hold : ∀ x c, G x = some c → x ≠ ad 8 0 → x ≠ ad 0 0 → G' x = some c) (h8 : G' (ad 8 0) = some (.inl (.object RX2, 6, .inr (.inr (.inr (.inr (va_up (fun j => if j < A 15 0 then some (ad 27 j) else none) (A 15 0) (some q)))))))) (hz0 : G' (ad 0 0) = some (.inr (8, [.ref (ad 1 0), .ref (ad 3 0), .ref (ad 7 0), .ref (ad 8 0), .ref (ad 9 0), .ref (ad 10 0), .ref (ad 11 0), .ref (ad 14 0), .int (nI (A 9 0)), .int (nI (A 15 0 + 1)), .int (nI (A 18 0))]))) (hq : G' q = some (ltC qa 0)) (hqa : G' qa = some (inA 6 (fun _ => 0))) : World (setA A 15 0 (A 15 0 + 1)) B (adx (adx ad 28 (A 15 0) qa) 27 (A 15 0) q) G' := by
  refine hW.grow (fun k i => (k = 27 ∨ k = 28) ∧ i = A 15 0) (fun k i hk => ?_) (fun k i hk => ?_) ?_ ?_ (fun k i hk => ?_)
  · match k, hk with
    | 0, hk => exact Or.inl hk
    | 1, hk => exact Or.inl hk
    | 2, hk => exact Or.inl hk
    | 3, hk => exact Or.inl hk
    | 4, hk => exact Or.inl hk
    | 5, hk => exact Or.inl hk
    | 6, hk => exact Or.inl hk
    | 7, hk => exact Or.inl hk
    | 8, hk => exact Or.inl hk
    | 9, hk => exact Or.inl hk
    | 10, hk => exact Or.inl hk
    | 11, hk => exact Or.inl hk
    | 12, hk => exact Or.inl hk
    | 13, hk => exact Or.inl hk
    | 14, hk => exact Or.inl hk
    | 15, hk => exact Or.inl hk
    | 16, hk => exact Or.inl hk
    | 17, hk => exact Or.inl hk
    | 18, hk => exact Or.inl hk
    | 19, hk => exact Or.inl hk
    | 20, hk => exact Or.inl hk
    | 21, hk => exact Or.inl hk
    | 22, hk => exact Or.inl hk
    | 23, hk => exact Or.inl hk
    | 24, hk => exact Or.inl hk
    | 25, hk => exact Or.inl hk
    | 26, hk => exact Or.inl hk
    | 27, hk => exact (by
      by_cases h9 : i = A 15 0
      · exact Or.inr ⟨by decide, h9⟩
      · exact Or.inl (show i < A 15 0 by have hk2 : i < A 15 0 + 1 := hk; omega))
    | 28, hk => exact (by
      by_cases h9 : i = A 15 0
      · exact Or.inr ⟨by decide, h9⟩
      · exact Or.inl (show i < A 15 0 by have hk2 : i < A 15 0 + 1 := hk; omega))
    | 29, hk => exact Or.inl hk
    | 30, hk => exact Or.inl hk
    | 31, hk => exact Or.inl hk
    | 32, hk => exact Or.inl hk
    | 33, hk => exact Or.inl hk
    | 34, hk => exact Or.inl hk
    | 35, hk => exact Or.inl hk
    | k + 36, hk => exact (False.elim hk)
  · match k, hk with
    | 0, hk => exact rfl
    | 1, hk => exact rfl
    | 2, hk => exact rfl
    | 3, hk => exact rfl
    | 4, hk => exact rfl
    | 5, hk => exact rfl
    | 6, hk => exact rfl
    | 7, hk => exact rfl
    | 8, hk => exact rfl
    | 9, hk => exact rfl
    | 10, hk => exact rfl
    | 11, hk => exact rfl
    | 12, hk => exact rfl
    | 13, hk => exact rfl
    | 14, hk => exact rfl
    | 15, hk => exact rfl
    | 16, hk => exact rfl
    | 17, hk => exact rfl
    | 18, hk => exact rfl
    | 19, hk => exact rfl
    | 20, hk => exact rfl
    | 21, hk => exact rfl
    | 22, hk => exact rfl
    | 23, hk => exact rfl
    | 24, hk => exact rfl
    | 25, hk => exact rfl
    | 26, hk => exact rfl
    | 27, hk => exact (by
      have hk3 : i ≠ A 15 0 := (Nat.ne_of_lt hk)
      exact (adx_n hk3).trans (adx_k (by decide)))
    | 28, hk => exact (by
      have hk3 : i ≠ A 15 0 := (Nat.ne_of_lt hk)
      exact (adx_k (by decide)).trans (adx_n hk3))
    | 29, hk => exact rfl
    | 30, hk => exact rfl
    | 31, hk => exact rfl
    | 32, hk => exact rfl
    | 33, hk => exact rfl
    | 34, hk => exact rfl
    | 35, hk => exact rfl
    | k + 36, hk => exact (False.elim hk)
  · rintro k i ⟨h1 | h1, h2⟩
    · rw [h1, h2, (show (adx (adx ad 28 (A 15 0) qa) 27 (A 15 0) q) 27 (A 15 0) = q from adx_s)]; exact hf1
    · rw [h1, h2, (show (adx (adx ad 28 (A 15 0) qa) 27 (A 15 0) q) 28 (A 15 0) = qa from (adx_k (by decide)).trans adx_s)]; exact hf2
  · rintro k i k' i' ⟨h1 | h1, h2⟩ ⟨h3 | h3, h4⟩ e
    · exact ⟨h1.trans h3.symm, h2.trans h4.symm⟩
    · rw [h1, h2, h3, h4, (show (adx (adx ad 28 (A 15 0) qa) 27 (A 15 0) q) 27 (A 15 0) = q from adx_s), (show (adx (adx ad 28 (A 15 0) qa) 27 (A 15 0) q) 28 (A 15 0) = qa from (adx_k (by decide)).trans adx_s)] at e; exact absurd e hne
    · rw [h1, h2, h3, h4, (show (adx (adx ad 28 (A 15 0) qa) 27 (A 15 0) q) 27 (A 15 0) = q from adx_s), (show (adx (adx ad 28 (A 15 0) qa) 27 (A 15 0) q) 28 (A 15 0) = qa from (adx_k (by decide)).trans adx_s)] at e; exact absurd e (Ne.symm hne)
    · exact ⟨h1.trans h3.symm, h2.trans h4.symm⟩
  · match k, hk with
    | 0, hk => exact (by have h0 : i = 0 := hk; rw [h0]; exact hz0)
    | 1, hk => exact (hold _ _ (hW.g 1 i hk) (hW.ne 1 i 8 0 hk rfl (Or.inl (by decide))) (hW.ne 1 i 0 0 hk rfl (Or.inl (by decide))))
    | 2, hk => exact (hold _ _ (hW.g 2 i hk) (hW.ne 2 i 8 0 hk rfl (Or.inl (by decide))) (hW.ne 2 i 0 0 hk rfl (Or.inl (by decide))))
    | 3, hk => exact (hold _ _ (hW.g 3 i hk) (hW.ne 3 i 8 0 hk rfl (Or.inl (by decide))) (hW.ne 3 i 0 0 hk rfl (Or.inl (by decide))))
    | 4, hk => exact (hold _ _ (hW.g 4 i hk) (hW.ne 4 i 8 0 hk rfl (Or.inl (by decide))) (hW.ne 4 i 0 0 hk rfl (Or.inl (by decide))))
    | 5, hk => exact (hold _ _ (hW.g 5 i hk) (hW.ne 5 i 8 0 hk rfl (Or.inl (by decide))) (hW.ne 5 i 0 0 hk rfl (Or.inl (by decide))))
    | 6, hk => exact (hold _ _ (hW.g 6 i hk) (hW.ne 6 i 8 0 hk rfl (Or.inl (by decide))) (hW.ne 6 i 0 0 hk rfl (Or.inl (by decide))))
    | 7, hk => exact (hold _ _ (hW.g 7 i hk) (hW.ne 7 i 8 0 hk rfl (Or.inl (by decide))) (hW.ne 7 i 0 0 hk rfl (Or.inl (by decide))))
    | 8, hk => exact (by
      have h0 : i = 0 := hk
      rw [h0]
      refine h8.trans ?_
      show some (Sum.inl (_, _, Sum.inr (Sum.inr (Sum.inr (Sum.inr _)))) : LC) = some (Sum.inl (_, _, Sum.inr (Sum.inr (Sum.inr (Sum.inr (fun j => if j < A 15 0 + 1 then some ((adx (adx ad 28 (A 15 0) qa) 27 (A 15 0) q) 27 j) else none))))))
      congr 8
      funext j
      by_cases h9 : j = A 15 0
      · rw [h9, if_pos (Nat.lt_succ_self _)]
        exact up1.trans (by rw [show (adx (adx ad 28 (A 15 0) qa) 27 (A 15 0) q) 27 (A 15 0) = q from adx_s])
      · have hu : va_up (fun j => if j < A 15 0 then some (ad 27 j) else none) (A 15 0) (some q) j = (if j < A 15 0 then some (ad 27 j) else none) := up2 h9
        rw [hu]
        by_cases h7 : j < A 15 0
        · rw [if_pos h7, if_pos (by omega)]
          exact (congrArg some (show (adx (adx ad 28 (A 15 0) qa) 27 (A 15 0) q) 27 j = ad 27 j from (adx_n h9).trans (adx_k (by decide)))).symm
        · rw [if_neg h7, if_neg (by omega)])
    | 9, hk => exact (hold _ _ (hW.g 9 i hk) (hW.ne 9 i 8 0 hk rfl (Or.inl (by decide))) (hW.ne 9 i 0 0 hk rfl (Or.inl (by decide))))
    | 10, hk => exact (hold _ _ (hW.g 10 i hk) (hW.ne 10 i 8 0 hk rfl (Or.inl (by decide))) (hW.ne 10 i 0 0 hk rfl (Or.inl (by decide))))
    | 11, hk => exact (hold _ _ (hW.g 11 i hk) (hW.ne 11 i 8 0 hk rfl (Or.inl (by decide))) (hW.ne 11 i 0 0 hk rfl (Or.inl (by decide))))
    | 12, hk => exact (hold _ _ (hW.g 12 i hk) (hW.ne 12 i 8 0 hk rfl (Or.inl (by decide))) (hW.ne 12 i 0 0 hk rfl (Or.inl (by decide))))
    | 13, hk => exact (hold _ _ (hW.g 13 i hk) (hW.ne 13 i 8 0 hk rfl (Or.inl (by decide))) (hW.ne 13 i 0 0 hk rfl (Or.inl (by decide))))
    | 14, hk => exact (hold _ _ (hW.g 14 i hk) (hW.ne 14 i 8 0 hk rfl (Or.inl (by decide))) (hW.ne 14 i 0 0 hk rfl (Or.inl (by decide))))
    | 15, hk => exact (hold _ _ (hW.g 15 i hk) (hW.ne 15 i 8 0 hk rfl (Or.inl (by decide))) (hW.ne 15 i 0 0 hk rfl (Or.inl (by decide))))
    | 16, hk => exact (hold _ _ (hW.g 16 i hk) (hW.ne 16 i 8 0 hk rfl (Or.inl (by decide))) (hW.ne 16 i 0 0 hk rfl (Or.inl (by decide))))
    | 17, hk => exact (hold _ _ (hW.g 17 i hk) (hW.ne 17 i 8 0 hk rfl (Or.inl (by decide))) (hW.ne 17 i 0 0 hk rfl (Or.inl (by decide))))
    | 18, hk => exact (hold _ _ (hW.g 18 i hk) (hW.ne 18 i 8 0 hk rfl (Or.inl (by decide))) (hW.ne 18 i 0 0 hk rfl (Or.inl (by decide))))
    | 19, hk => exact (hold _ _ (hW.g 19 i hk) (hW.ne 19 i 8 0 hk rfl (Or.inl (by decide))) (hW.ne 19 i 0 0 hk rfl (Or.inl (by decide))))
    | 20, hk => exact (hold _ _ (hW.g 20 i hk) (hW.ne 20 i 8 0 hk rfl (Or.inl (by decide))) (hW.ne 20 i 0 0 hk rfl (Or.inl (by decide))))
    | 21, hk => exact (hold _ _ (hW.g 21 i hk) (hW.ne 21 i 8 0 hk rfl (Or.inl (by decide))) (hW.ne 21 i 0 0 hk rfl (Or.inl (by decide))))
    | 22, hk => exact (hold _ _ (hW.g 22 i hk) (hW.ne 22 i 8 0 hk rfl (Or.inl (by decide))) (hW.ne 22 i 0 0 hk rfl (Or.inl (by decide))))
    | 23, hk => exact (hold _ _ (hW.g 23 i hk) (hW.ne 23 i 8 0 hk rfl (Or.inl (by decide))) (hW.ne 23 i 0 0 hk rfl (Or.inl (by decide))))
    | 24, hk => exact (hold _ _ (hW.g 24 i hk) (hW.ne 24 i 8 0 hk rfl (Or.inl (by decide))) (hW.ne 24 i 0 0 hk rfl (Or.inl (by decide))))
    | 25, hk => exact (hold _ _ (hW.g 25 i hk) (hW.ne 25 i 8 0 hk rfl (Or.inl (by decide))) (hW.ne 25 i 0 0 hk rfl (Or.inl (by decide))))
    | 26, hk => exact (hold _ _ (hW.g 26 i hk) (hW.ne 26 i 8 0 hk rfl (Or.inl (by decide))) (hW.ne 26 i 0 0 hk rfl (Or.inl (by decide))))
    | 27, hk => exact (by
      by_cases h9 : i = A 15 0
      · rw [h9, (show (adx (adx ad 28 (A 15 0) qa) 27 (A 15 0) q) 27 (A 15 0) = q from adx_s)]; refine hq.trans ?_
        show some (ltC qa 0) = some (ltC ((adx (adx ad 28 (A 15 0) qa) 27 (A 15 0) q) 28 (A 15 0)) (A 17 (A 15 0)))
        rw [hI.ze.2.2.2.2.2.1 _ (Nat.le_refl _), show (adx (adx ad 28 (A 15 0) qa) 27 (A 15 0) q) 28 (A 15 0) = qa from (adx_k (by decide)).trans adx_s]
      · have h8 : lvw A 27 i := (show i < A 15 0 by have hk2 : i < A 15 0 + 1 := hk; omega)
        rw [(show (adx (adx ad 28 (A 15 0) qa) 27 (A 15 0) q) 27 i = ad 27 i from (adx_n h9).trans (adx_k (by decide)))]; refine (hold _ _ (hW.g 27 i h8) (hW.ne 27 i 8 0 h8 rfl (Or.inl (by decide))) (hW.ne 27 i 0 0 h8 rfl (Or.inl (by decide)))).trans ?_
        show some (ltC (ad 28 i) (A 17 i)) = some (ltC ((adx (adx ad 28 (A 15 0) qa) 27 (A 15 0) q) 28 i) (A 17 i))
        rw [(show (adx (adx ad 28 (A 15 0) qa) 27 (A 15 0) q) 28 i = ad 28 i from (adx_k (by decide)).trans (adx_n h9))])
    | 28, hk => exact (by
      by_cases h9 : i = A 15 0
      · rw [h9, (show (adx (adx ad 28 (A 15 0) qa) 27 (A 15 0) q) 28 (A 15 0) = qa from (adx_k (by decide)).trans adx_s)]; refine hqa.trans ?_
        show some (inA 6 _) = some (inA 6 (rg A 16 (6 * A 15 0) 6))
        rw [rg_zero (fun k _ => hI.ze.2.2.2.2.2.2 _ (by omega))]
      · have h8 : lvw A 28 i := (show i < A 15 0 by have hk2 : i < A 15 0 + 1 := hk; omega)
        rw [(show (adx (adx ad 28 (A 15 0) qa) 27 (A 15 0) q) 28 i = ad 28 i from (adx_k (by decide)).trans (adx_n h9))]; refine (hold _ _ (hW.g 28 i h8) (hW.ne 28 i 8 0 h8 rfl (Or.inl (by decide))) (hW.ne 28 i 0 0 h8 rfl (Or.inl (by decide)))).trans ?_
        rfl)
    | 29, hk => exact (hold _ _ (hW.g 29 i hk) (hW.ne 29 i 8 0 hk rfl (Or.inl (by decide))) (hW.ne 29 i 0 0 hk rfl (Or.inl (by decide))))
    | 30, hk => exact (hold _ _ (hW.g 30 i hk) (hW.ne 30 i 8 0 hk rfl (Or.inl (by decide))) (hW.ne 30 i 0 0 hk rfl (Or.inl (by decide))))
    | 31, hk => exact (hold _ _ (hW.g 31 i hk) (hW.ne 31 i 8 0 hk rfl (Or.inl (by decide))) (hW.ne 31 i 0 0 hk rfl (Or.inl (by decide))))
    | 32, hk => exact (hold _ _ (hW.g 32 i hk) (hW.ne 32 i 8 0 hk rfl (Or.inl (by decide))) (hW.ne 32 i 0 0 hk rfl (Or.inl (by decide))))
    | 33, hk => exact (hold _ _ (hW.g 33 i hk) (hW.ne 33 i 8 0 hk rfl (Or.inl (by decide))) (hW.ne 33 i 0 0 hk rfl (Or.inl (by decide))))
    | 34, hk => exact (hold _ _ (hW.g 34 i hk) (hW.ne 34 i 8 0 hk rfl (Or.inl (by decide))) (hW.ne 34 i 0 0 hk rfl (Or.inl (by decide))))
    | 35, hk => exact (hold _ _ (hW.g 35 i hk) (hW.ne 35 i 8 0 hk rfl (Or.inl (by decide))) (hW.ne 35 i 0 0 hk rfl (Or.inl (by decide))))
    | k + 36, hk => exact (False.elim hk)
set_option maxRecDepth 100000 in
set_option maxHeartbeats 4000000 in
theorem g_data {A B : ST} {ad : AD} {G G' : GH} (hW : World A B ad G) (hI : Inv A) {w b : Nat} {q qa : Nat} (hf1 : G q = none) (hf2 : G qa = none) (hne : q ≠ qa) (hold : ∀ x c, G x = some c → x ≠ ad 9 0 → x ≠ ad 0 0 → G' x = some c) (h9 : G' (ad 9 0) = some (.inl (.object RX1, 8, .inr (.inr (.inr (.inr (va_up (fun j => if j < A 18 0 then some (ad 29 j) else none) (A 18 0) (some q)))))))) (hz0 : G' (ad 0 0) = some (.inr (8, [.ref (ad 1 0), .ref (ad 3 0), .ref (ad 7 0), .ref (ad 8 0), .ref (ad 9 0), .ref (ad 10 0), .ref (ad 11 0), .ref (ad 14 0), .int (nI (A 9 0)), .int (nI (A 15 0)), .int (nI (A 18 0 + 1))]))) (hq : G' q = some (.inr (1, [.ref qa, .int (nI b)]))) (hqa : G' qa = some (inA 5 (cpy (fun _ => nI w) (fun _ => 0) 5))) : World (setA (setA (fillA A (A 18 0) w) 20 (A 18 0) b) 18 0 (A 18 0 + 1)) B (adx (adx ad 30 (A 18 0) qa) 29 (A 18 0) q) G' := by
  refine hW.grow (fun k i => (k = 29 ∨ k = 30) ∧ i = A 18 0) (fun k i hk => ?_) (fun k i hk => ?_) ?_ ?_ (fun k i hk => ?_)
  · match k, hk with
    | 0, hk => exact Or.inl hk
    | 1, hk => exact Or.inl hk
    | 2, hk => exact Or.inl hk
    | 3, hk => exact Or.inl hk
    | 4, hk => exact Or.inl hk
    | 5, hk => exact Or.inl hk
    | 6, hk => exact Or.inl hk
    | 7, hk => exact Or.inl hk
    | 8, hk => exact Or.inl hk
    | 9, hk => exact Or.inl hk
    | 10, hk => exact Or.inl hk
    | 11, hk => exact Or.inl hk
    | 12, hk => exact Or.inl hk
    | 13, hk => exact Or.inl hk
    | 14, hk => exact Or.inl hk
    | 15, hk => exact Or.inl hk
    | 16, hk => exact Or.inl hk
    | 17, hk => exact Or.inl hk
    | 18, hk => exact Or.inl hk
    | 19, hk => exact Or.inl hk
    | 20, hk => exact Or.inl hk
    | 21, hk => exact Or.inl hk
    | 22, hk => exact Or.inl hk
    | 23, hk => exact Or.inl hk
    | 24, hk => exact Or.inl hk
    | 25, hk => exact Or.inl hk
    | 26, hk => exact Or.inl hk
    | 27, hk => exact Or.inl hk
    | 28, hk => exact Or.inl hk
    | 29, hk => exact (by
      by_cases h9 : i = A 18 0
      · exact Or.inr ⟨by decide, h9⟩
      · exact Or.inl (show i < A 18 0 by have hk2 : i < A 18 0 + 1 := hk; omega))
    | 30, hk => exact (by
      by_cases h9 : i = A 18 0
      · exact Or.inr ⟨by decide, h9⟩
      · exact Or.inl (show i < A 18 0 by have hk2 : i < A 18 0 + 1 := hk; omega))
    | 31, hk => exact Or.inl hk
    | 32, hk => exact Or.inl hk
    | 33, hk => exact Or.inl hk
    | 34, hk => exact Or.inl hk
    | 35, hk => exact Or.inl hk
    | k + 36, hk => exact (False.elim hk)
  · match k, hk with
    | 0, hk => exact rfl
    | 1, hk => exact rfl
    | 2, hk => exact rfl
    | 3, hk => exact rfl
    | 4, hk => exact rfl
    | 5, hk => exact rfl
    | 6, hk => exact rfl
    | 7, hk => exact rfl
    | 8, hk => exact rfl
    | 9, hk => exact rfl
    | 10, hk => exact rfl
    | 11, hk => exact rfl
    | 12, hk => exact rfl
    | 13, hk => exact rfl
    | 14, hk => exact rfl
    | 15, hk => exact rfl
    | 16, hk => exact rfl
    | 17, hk => exact rfl
    | 18, hk => exact rfl
    | 19, hk => exact rfl
    | 20, hk => exact rfl
    | 21, hk => exact rfl
    | 22, hk => exact rfl
    | 23, hk => exact rfl
    | 24, hk => exact rfl
    | 25, hk => exact rfl
    | 26, hk => exact rfl
    | 27, hk => exact rfl
    | 28, hk => exact rfl
    | 29, hk => exact (by
      have hk3 : i ≠ A 18 0 := (Nat.ne_of_lt hk)
      exact (adx_n hk3).trans (adx_k (by decide)))
    | 30, hk => exact (by
      have hk3 : i ≠ A 18 0 := (Nat.ne_of_lt hk)
      exact (adx_k (by decide)).trans (adx_n hk3))
    | 31, hk => exact rfl
    | 32, hk => exact rfl
    | 33, hk => exact rfl
    | 34, hk => exact rfl
    | 35, hk => exact rfl
    | k + 36, hk => exact (False.elim hk)
  · rintro k i ⟨h1 | h1, h2⟩
    · rw [h1, h2, (show (adx (adx ad 30 (A 18 0) qa) 29 (A 18 0) q) 29 (A 18 0) = q from adx_s)]; exact hf1
    · rw [h1, h2, (show (adx (adx ad 30 (A 18 0) qa) 29 (A 18 0) q) 30 (A 18 0) = qa from (adx_k (by decide)).trans adx_s)]; exact hf2
  · rintro k i k' i' ⟨h1 | h1, h2⟩ ⟨h3 | h3, h4⟩ e
    · exact ⟨h1.trans h3.symm, h2.trans h4.symm⟩
    · rw [h1, h2, h3, h4, (show (adx (adx ad 30 (A 18 0) qa) 29 (A 18 0) q) 29 (A 18 0) = q from adx_s), (show (adx (adx ad 30 (A 18 0) qa) 29 (A 18 0) q) 30 (A 18 0) = qa from (adx_k (by decide)).trans adx_s)] at e; exact absurd e hne
    · rw [h1, h2, h3, h4, (show (adx (adx ad 30 (A 18 0) qa) 29 (A 18 0) q) 29 (A 18 0) = q from adx_s), (show (adx (adx ad 30 (A 18 0) qa) 29 (A 18 0) q) 30 (A 18 0) = qa from (adx_k (by decide)).trans adx_s)] at e; exact absurd e (Ne.symm hne)
    · exact ⟨h1.trans h3.symm, h2.trans h4.symm⟩
  · match k, hk with
    | 0, hk => exact (by have h0 : i = 0 := hk; rw [h0]; exact hz0)
    | 1, hk => exact (hold _ _ (hW.g 1 i hk) (hW.ne 1 i 9 0 hk rfl (Or.inl (by decide))) (hW.ne 1 i 0 0 hk rfl (Or.inl (by decide))))
    | 2, hk => exact (hold _ _ (hW.g 2 i hk) (hW.ne 2 i 9 0 hk rfl (Or.inl (by decide))) (hW.ne 2 i 0 0 hk rfl (Or.inl (by decide))))
    | 3, hk => exact (hold _ _ (hW.g 3 i hk) (hW.ne 3 i 9 0 hk rfl (Or.inl (by decide))) (hW.ne 3 i 0 0 hk rfl (Or.inl (by decide))))
    | 4, hk => exact (hold _ _ (hW.g 4 i hk) (hW.ne 4 i 9 0 hk rfl (Or.inl (by decide))) (hW.ne 4 i 0 0 hk rfl (Or.inl (by decide))))
    | 5, hk => exact (hold _ _ (hW.g 5 i hk) (hW.ne 5 i 9 0 hk rfl (Or.inl (by decide))) (hW.ne 5 i 0 0 hk rfl (Or.inl (by decide))))
    | 6, hk => exact (hold _ _ (hW.g 6 i hk) (hW.ne 6 i 9 0 hk rfl (Or.inl (by decide))) (hW.ne 6 i 0 0 hk rfl (Or.inl (by decide))))
    | 7, hk => exact (hold _ _ (hW.g 7 i hk) (hW.ne 7 i 9 0 hk rfl (Or.inl (by decide))) (hW.ne 7 i 0 0 hk rfl (Or.inl (by decide))))
    | 8, hk => exact (hold _ _ (hW.g 8 i hk) (hW.ne 8 i 9 0 hk rfl (Or.inl (by decide))) (hW.ne 8 i 0 0 hk rfl (Or.inl (by decide))))
    | 9, hk => exact (by
      have h0 : i = 0 := hk
      rw [h0]
      refine h9.trans ?_
      show some (Sum.inl (_, _, Sum.inr (Sum.inr (Sum.inr (Sum.inr _)))) : LC) = some (Sum.inl (_, _, Sum.inr (Sum.inr (Sum.inr (Sum.inr (fun j => if j < A 18 0 + 1 then some ((adx (adx ad 30 (A 18 0) qa) 29 (A 18 0) q) 29 j) else none))))))
      congr 8
      funext j
      by_cases h9 : j = A 18 0
      · rw [h9, if_pos (Nat.lt_succ_self _)]
        exact up1.trans (by rw [show (adx (adx ad 30 (A 18 0) qa) 29 (A 18 0) q) 29 (A 18 0) = q from adx_s])
      · have hu : va_up (fun j => if j < A 18 0 then some (ad 29 j) else none) (A 18 0) (some q) j = (if j < A 18 0 then some (ad 29 j) else none) := up2 h9
        rw [hu]
        by_cases h7 : j < A 18 0
        · rw [if_pos h7, if_pos (by omega)]
          exact (congrArg some (show (adx (adx ad 30 (A 18 0) qa) 29 (A 18 0) q) 29 j = ad 29 j from (adx_n h9).trans (adx_k (by decide)))).symm
        · rw [if_neg h7, if_neg (by omega)])
    | 10, hk => exact (hold _ _ (hW.g 10 i hk) (hW.ne 10 i 9 0 hk rfl (Or.inl (by decide))) (hW.ne 10 i 0 0 hk rfl (Or.inl (by decide))))
    | 11, hk => exact (hold _ _ (hW.g 11 i hk) (hW.ne 11 i 9 0 hk rfl (Or.inl (by decide))) (hW.ne 11 i 0 0 hk rfl (Or.inl (by decide))))
    | 12, hk => exact (hold _ _ (hW.g 12 i hk) (hW.ne 12 i 9 0 hk rfl (Or.inl (by decide))) (hW.ne 12 i 0 0 hk rfl (Or.inl (by decide))))
    | 13, hk => exact (hold _ _ (hW.g 13 i hk) (hW.ne 13 i 9 0 hk rfl (Or.inl (by decide))) (hW.ne 13 i 0 0 hk rfl (Or.inl (by decide))))
    | 14, hk => exact (hold _ _ (hW.g 14 i hk) (hW.ne 14 i 9 0 hk rfl (Or.inl (by decide))) (hW.ne 14 i 0 0 hk rfl (Or.inl (by decide))))
    | 15, hk => exact (hold _ _ (hW.g 15 i hk) (hW.ne 15 i 9 0 hk rfl (Or.inl (by decide))) (hW.ne 15 i 0 0 hk rfl (Or.inl (by decide))))
    | 16, hk => exact (hold _ _ (hW.g 16 i hk) (hW.ne 16 i 9 0 hk rfl (Or.inl (by decide))) (hW.ne 16 i 0 0 hk rfl (Or.inl (by decide))))
    | 17, hk => exact (hold _ _ (hW.g 17 i hk) (hW.ne 17 i 9 0 hk rfl (Or.inl (by decide))) (hW.ne 17 i 0 0 hk rfl (Or.inl (by decide))))
    | 18, hk => exact (hold _ _ (hW.g 18 i hk) (hW.ne 18 i 9 0 hk rfl (Or.inl (by decide))) (hW.ne 18 i 0 0 hk rfl (Or.inl (by decide))))
    | 19, hk => exact (hold _ _ (hW.g 19 i hk) (hW.ne 19 i 9 0 hk rfl (Or.inl (by decide))) (hW.ne 19 i 0 0 hk rfl (Or.inl (by decide))))
    | 20, hk => exact (hold _ _ (hW.g 20 i hk) (hW.ne 20 i 9 0 hk rfl (Or.inl (by decide))) (hW.ne 20 i 0 0 hk rfl (Or.inl (by decide))))
    | 21, hk => exact (hold _ _ (hW.g 21 i hk) (hW.ne 21 i 9 0 hk rfl (Or.inl (by decide))) (hW.ne 21 i 0 0 hk rfl (Or.inl (by decide))))
    | 22, hk => exact (hold _ _ (hW.g 22 i hk) (hW.ne 22 i 9 0 hk rfl (Or.inl (by decide))) (hW.ne 22 i 0 0 hk rfl (Or.inl (by decide))))
    | 23, hk => exact (hold _ _ (hW.g 23 i hk) (hW.ne 23 i 9 0 hk rfl (Or.inl (by decide))) (hW.ne 23 i 0 0 hk rfl (Or.inl (by decide))))
    | 24, hk => exact (hold _ _ (hW.g 24 i hk) (hW.ne 24 i 9 0 hk rfl (Or.inl (by decide))) (hW.ne 24 i 0 0 hk rfl (Or.inl (by decide))))
    | 25, hk => exact (hold _ _ (hW.g 25 i hk) (hW.ne 25 i 9 0 hk rfl (Or.inl (by decide))) (hW.ne 25 i 0 0 hk rfl (Or.inl (by decide))))
    | 26, hk => exact (hold _ _ (hW.g 26 i hk) (hW.ne 26 i 9 0 hk rfl (Or.inl (by decide))) (hW.ne 26 i 0 0 hk rfl (Or.inl (by decide))))
    | 27, hk => exact (hold _ _ (hW.g 27 i hk) (hW.ne 27 i 9 0 hk rfl (Or.inl (by decide))) (hW.ne 27 i 0 0 hk rfl (Or.inl (by decide))))
    | 28, hk => exact (hold _ _ (hW.g 28 i hk) (hW.ne 28 i 9 0 hk rfl (Or.inl (by decide))) (hW.ne 28 i 0 0 hk rfl (Or.inl (by decide))))
    | 29, hk => exact (by
      by_cases h9 : i = A 18 0
      · rw [h9, (show (adx (adx ad 30 (A 18 0) qa) 29 (A 18 0) q) 29 (A 18 0) = q from adx_s)]; refine hq.trans ?_
        show some (Sum.inr (1, [Value.ref qa, Value.int (nI b)]) : LC) = some (.inr (1, [.ref ((adx (adx ad 30 (A 18 0) qa) 29 (A 18 0) q) 30 (A 18 0)), .int (nI (setA (fillA A (A 18 0) w) 20 (A 18 0) b 20 (A 18 0)))]))
        rw [setA_s, show (adx (adx ad 30 (A 18 0) qa) 29 (A 18 0) q) 30 (A 18 0) = qa from (adx_k (by decide)).trans adx_s]
      · have h8 : lvw A 29 i := (show i < A 18 0 by have hk2 : i < A 18 0 + 1 := hk; omega)
        rw [(show (adx (adx ad 30 (A 18 0) qa) 29 (A 18 0) q) 29 i = ad 29 i from (adx_n h9).trans (adx_k (by decide)))]; refine (hold _ _ (hW.g 29 i h8) (hW.ne 29 i 9 0 h8 rfl (Or.inl (by decide))) (hW.ne 29 i 0 0 h8 rfl (Or.inl (by decide)))).trans ?_
        show some (Sum.inr (1, [Value.ref (ad 30 i), Value.int (nI (A 20 i))]) : LC) = some (.inr (1, [.ref ((adx (adx ad 30 (A 18 0) qa) 29 (A 18 0) q) 30 i), .int (nI (setA (fillA A (A 18 0) w) 20 (A 18 0) b 20 i))]))
        rw [setA_n h9, (show (adx (adx ad 30 (A 18 0) qa) 29 (A 18 0) q) 30 i = ad 30 i from (adx_k (by decide)).trans (adx_n h9))]; rfl)
    | 30, hk => exact (by
      by_cases h9 : i = A 18 0
      · rw [h9, (show (adx (adx ad 30 (A 18 0) qa) 29 (A 18 0) q) 30 (A 18 0) = qa from (adx_k (by decide)).trans adx_s)]; refine hqa.trans ?_
        show some (inA 5 _) = some (inA 5 (rg (fillA A (A 18 0) w) 19 (5 * A 18 0) 5))
        refine congrArg (fun z => some (inA 5 z)) (funext fun k => ?_)
        dsimp only [cpy, rg, fillA]
        by_cases hk : k < 5
        · rw [if_pos hk, if_pos hk, if_pos rfl, if_pos (by omega)]
        · rw [if_neg hk, if_neg hk]
      · have h8 : lvw A 30 i := (show i < A 18 0 by have hk2 : i < A 18 0 + 1 := hk; omega)
        rw [(show (adx (adx ad 30 (A 18 0) qa) 29 (A 18 0) q) 30 i = ad 30 i from (adx_k (by decide)).trans (adx_n h9))]; refine (hold _ _ (hW.g 30 i h8) (hW.ne 30 i 9 0 h8 rfl (Or.inl (by decide))) (hW.ne 30 i 0 0 h8 rfl (Or.inl (by decide)))).trans ?_
        show some (inA 5 (rg A 19 (5 * i) 5)) = some (inA 5 (rg (fillA A (A 18 0) w) 19 (5 * i) 5))
        refine congrArg (fun z => some (inA 5 z)) (funext fun k => ?_)
        dsimp only [rg, fillA]
        by_cases hk : k < 5
        · rw [if_pos hk, if_pos hk, if_pos rfl, if_neg (by have hk2 : i < A 18 0 := h8; omega)]
        · rw [if_neg hk, if_neg hk])
    | 31, hk => exact (hold _ _ (hW.g 31 i hk) (hW.ne 31 i 9 0 hk rfl (Or.inl (by decide))) (hW.ne 31 i 0 0 hk rfl (Or.inl (by decide))))
    | 32, hk => exact (hold _ _ (hW.g 32 i hk) (hW.ne 32 i 9 0 hk rfl (Or.inl (by decide))) (hW.ne 32 i 0 0 hk rfl (Or.inl (by decide))))
    | 33, hk => exact (hold _ _ (hW.g 33 i hk) (hW.ne 33 i 9 0 hk rfl (Or.inl (by decide))) (hW.ne 33 i 0 0 hk rfl (Or.inl (by decide))))
    | 34, hk => exact (hold _ _ (hW.g 34 i hk) (hW.ne 34 i 9 0 hk rfl (Or.inl (by decide))) (hW.ne 34 i 0 0 hk rfl (Or.inl (by decide))))
    | 35, hk => exact (hold _ _ (hW.g 35 i hk) (hW.ne 35 i 9 0 hk rfl (Or.inl (by decide))) (hW.ne 35 i 0 0 hk rfl (Or.inl (by decide))))
    | k + 36, hk => exact (False.elim hk)
