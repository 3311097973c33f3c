def ucl (j e : Nat) : Prop := e = 1 ∨ e = 2 ∨ (3 ≤ e ∧ e < 12 ∧ e % 3 < j)
def ccl (F : Nat → Nat) (j e : Nat) : LC := if e = 1 then .inl (.object RX6, 3, .inr (.inr (.inr (.inr (fun i => if i < j then some (F (3 + i)) else none))))) else if e = 2 then inA 40 (fun _ => 0) else if e < 6 then tpC (F (e + 3)) 0 else if e < 9 then sgC (F (e + 3)) 0 else chA 60 (fun _ => 0)
def NewC (G Gj : GH) (a : Nat) (cn : Int32) (F : Nat → Nat) (j : Nat) : Prop :=
  (∀ e, ucl j e → G (F e) = none) ∧ (∀ e e', ucl j e → ucl j e' → F e = F e' → e = e') ∧ (∀ x c, x ≠ a → G x = some c → Gj x = some c) ∧ (∀ e, ucl j e → Gj (F e) = some (ccl F j e)) ∧ Gj a = some (.inr (0, [.int cn, .ref (F 1), .ref (F 2)]))
def Fs (F : Nat → Nat) (j t s r : Nat) : Nat → Nat := fun e => if e = 3 + j then t else if e = 6 + j then s else if e = 9 + j then r else F e
theorem Fs_t (F : Nat → Nat) (j t s r : Nat) : Fs F j t s r (3 + j) = t := by unfold Fs; rw [if_pos rfl]
theorem Fs_s (F : Nat → Nat) (j t s r : Nat) : Fs F j t s r (6 + j) = s := by unfold Fs; rw [if_neg (by omega), if_pos rfl]
theorem Fs_r (F : Nat → Nat) (j t s r : Nat) : Fs F j t s r (9 + j) = r := by unfold Fs; rw [if_neg (by omega), if_neg (by omega), if_pos rfl]
theorem Fs_o {F : Nat → Nat} {j t s r e : Nat} (h1 : e ≠ 3 + j) (h2 : e ≠ 6 + j) (h3 : e ≠ 9 + j) : Fs F j t s r e = F e := by unfold Fs; rw [if_neg h1, if_neg h2, if_neg h3]
theorem ucl_s {j e : Nat} (hj : j < 3) (h : ucl (j + 1) e) : e = 3 + j ∨ e = 6 + j ∨ e = 9 + j ∨ (ucl j e ∧ e ≠ 3 + j ∧ e ≠ 6 + j ∧ e ≠ 9 + j) := by
  unfold ucl at h ⊢
  omega
theorem NewC.nn {G Gj : GH} {a : Nat} {cn : Int32} {F : Nat → Nat} {j x : Nat} (h : NewC G Gj a cn F j) (hx : Gj x = none) : G x = none := by
  cases hG : G x with
  | none => rfl
  | some c =>
    have h1 := h.2.2.1 x c (fun e => by rw [e, h.2.2.2.2] at hx; cases hx) hG
    rw [hx] at h1
    cases h1
theorem NewC.step {G Gj G' : GH} {a : Nat} {cn : Int32} {F : Nat → Nat} {j t s r : Nat} (h : NewC G Gj a cn F j) (hj : j < 3) (h1 : Gj t = none) (h2 : Gj s = none) (h3 : Gj r = none) (d1 : t ≠ s) (d2 : t ≠ r) (d3 : s ≠ r) (hold : ∀ x c, Gj x = some c → x ≠ F 1 → G' x = some c) (ht : G' t = some (tpC s 0)) (hs : G' s = some (sgC r 0)) (hr : G' r = some (chA 60 (fun _ => 0)))
    (hF : G' (F 1) = some (.inl (.object RX6, 3, .inr (.inr (.inr (.inr (va_up (fun i => if i < j then some (F (3 + i)) else none) j (some t)))))))) : NewC G G' a cn (Fs F j t s r) (j + 1) := by
  have g1 := h.nn h1
  have g2 := h.nn h2
  have g3 := h.nn h3
  have k1 : ∀ e, ucl j e → F e ≠ t := fun e he q => by have h9 := h.2.2.2.1 e he; rw [q, h1] at h9; cases h9
  have k2 : ∀ e, ucl j e → F e ≠ s := fun e he q => by have h9 := h.2.2.2.1 e he; rw [q, h2] at h9; cases h9
  have k3 : ∀ e, ucl j e → F e ≠ r := fun e he q => by have h9 := h.2.2.2.1 e he; rw [q, h3] at h9; cases h9
  have u1 : ucl j 1 := Or.inl rfl
  have u2 : ucl j 2 := Or.inr (Or.inl rfl)
  have hF1 : Fs F j t s r 1 = F 1 := Fs_o (by omega) (by omega) (by omega)
  have hF2 : Fs F j t s r 2 = F 2 := Fs_o (by omega) (by omega) (by omega)
  refine ⟨fun e he => ?_, fun e e' he he' q => ?_, fun x c hx hG => ?_, fun e he => ?_, ?_⟩
  · rcases ucl_s hj he with q | q | q | ⟨q, n1, n2, n3⟩
    · rw [q, Fs_t]; exact g1
    · rw [q, Fs_s]; exact g2
    · rw [q, Fs_r]; exact g3
    · rw [Fs_o n1 n2 n3]; exact h.1 e q
  · rcases ucl_s hj he with p | p | p | ⟨p, n1, n2, n3⟩ <;> rcases ucl_s hj he' with p' | p' | p' | ⟨p', m1, m2, m3⟩
    · rw [p, p']
    · rw [p, p', Fs_t, Fs_s] at q; exact absurd q d1
    · rw [p, p', Fs_t, Fs_r] at q; exact absurd q d2
    · rw [p, Fs_t, Fs_o m1 m2 m3] at q; exact absurd q.symm (k1 e' p')
    · rw [p, p', Fs_t, Fs_s] at q; exact absurd q.symm d1
    · rw [p, p']
    · rw [p, p', Fs_s, Fs_r] at q; exact absurd q d3
    · rw [p, Fs_s, Fs_o m1 m2 m3] at q; exact absurd q.symm (k2 e' p')
    · rw [p, p', Fs_t, Fs_r] at q; exact absurd q.symm d2
    · rw [p, p', Fs_s, Fs_r] at q; exact absurd q.symm d3
    · rw [p, p']
    · rw [p, Fs_r, Fs_o m1 m2 m3] at q; exact absurd q.symm (k3 e' p')
    · rw [p', Fs_t, Fs_o n1 n2 n3] at q; exact absurd q (k1 e p)
    · rw [p', Fs_s, Fs_o n1 n2 n3] at q; exact absurd q (k2 e p)
    · rw [p', Fs_r, Fs_o n1 n2 n3] at q; exact absurd q (k3 e p)
    · rw [Fs_o n1 n2 n3, Fs_o m1 m2 m3] at q; exact h.2.1 e e' p p' q
  · have hx1 : x ≠ F 1 := fun q => by have h9 := h.1 1 u1; rw [← q, hG] at h9; cases h9
    exact hold x c (h.2.2.1 x c hx hG) hx1
  · rcases ucl_s hj he with q | q | q | ⟨q, n1, n2, n3⟩
    · rw [q, Fs_t, ht]; unfold ccl
      rw [if_neg (by omega), if_neg (by omega), if_pos (by omega), show 3 + j + 3 = 6 + j by omega, Fs_s]
    · rw [q, Fs_s, hs]; unfold ccl
      rw [if_neg (by omega), if_neg (by omega), if_neg (by omega), if_pos (by omega), show 6 + j + 3 = 9 + j by omega, Fs_r]
    · rw [q, Fs_r, hr]; unfold ccl
      rw [if_neg (by omega), if_neg (by omega), if_neg (by omega), if_neg (by omega)]
    · rw [Fs_o n1 n2 n3]
      by_cases e1 : e = 1
      · rw [e1, hF]; unfold ccl
        rw [if_pos rfl]
        congr 8
        funext i
        by_cases hi : i = j
        · rw [hi, up1, if_pos (by omega), Fs_t]
        · rw [up2 hi]
          by_cases h7 : i < j
          · rw [if_pos h7, if_pos (by omega), Fs_o (by omega) (by omega) (by omega)]
          · rw [if_neg h7, if_neg (by omega)]
      · have ne1 : F e ≠ F 1 := fun p => e1 (h.2.1 e 1 q u1 p)
        rw [hold _ _ (h.2.2.2.1 e q) ne1]; unfold ccl
        rw [if_neg e1, if_neg e1]
        by_cases e2 : e = 2
        · rw [if_pos e2, if_pos e2]
        · rw [if_neg e2, if_neg e2]
          have hm : e % 3 < j := by
            unfold ucl at q
            omega
          by_cases e6 : e < 6
          · rw [if_pos e6, if_pos e6, Fs_o (by omega) (by omega) (by omega)]
          · rw [if_neg e6, if_neg e6]
            by_cases e9 : e < 9
            · rw [if_pos e9, if_pos e9, Fs_o (by omega) (by omega) (by omega)]
            · rw [if_neg e9, if_neg e9]
  · rw [hF1, hF2]
    have ha1 : a ≠ F 1 := fun p => by
      have h9 := h.2.2.2.1 1 u1
      rw [← p, h.2.2.2.2] at h9
      unfold ccl at h9
      rw [if_pos rfl] at h9
      cases h9
    exact hold _ _ h.2.2.2.2 ha1
/-- all twelve -/
def NewK (G G' : GH) (cn : Int32) (F : Nat → Nat) : Prop :=
  (∀ e, e < 12 → G (F e) = none) ∧ (∀ e e', e < 12 → e' < 12 → F e = F e' → e = e') ∧ G' (F 0) = some (.inr (0, [.int cn, .ref (F 1), .ref (F 2)])) ∧ G' (F 1) = some (.inl (.object RX6, 3, .inr (.inr (.inr (.inr (fun i => if i < 3 then some (F (3 + i)) else none)))))) ∧ G' (F 2) = some (inA 40 (fun _ => 0)) ∧
  ∀ j, j < 3 → G' (F (3 + j)) = some (tpC (F (6 + j)) 0) ∧ G' (F (6 + j)) = some (sgC (F (9 + j)) 0) ∧ G' (F (9 + j)) = some (chA 60 (fun _ => 0))
def Fq (q : Nat) (F : Nat → Nat) : Nat → Nat := fun e => if e = 0 then q else F e
theorem Fq_n {q : Nat} {F : Nat → Nat} {e : Nat} (h : e ≠ 0) : Fq q F e = F e := by unfold Fq; rw [if_neg h]
theorem NewC.all {G0 G1 G' : GH} {q : Nat} {raw : LC} {cn : Int32} {F : Nat → Nat} (h : NewC (va_up G0 q (some raw)) G1 q cn F 3) (hq : G0 q = none) (hold : ∀ x c, G0 x = none → G1 x = some c → G' x = some c) : NewK G0 G' cn (Fq q F) := by
  have hu : ∀ e, e ≠ 0 → e < 12 → ucl 3 e := fun e h1 h2 => by unfold ucl; omega
  have hf : ∀ e, e ≠ 0 → e < 12 → G0 (F e) = none ∧ F e ≠ q := fun e h1 h2 => by
    have h3 := h.1 e (hu e h1 h2)
    have h4 : F e ≠ q := fun p => by rw [p, up_s] at h3; cases h3
    refine ⟨?_, h4⟩
    unfold va_up at h3
    rwa [if_neg h4] at h3
  have hc : ∀ e, e ≠ 0 → e < 12 → G' (F e) = some (ccl F 3 e) := fun e h1 h2 => hold _ _ (hf e h1 h2).1 (h.2.2.2.1 e (hu e h1 h2))
  refine ⟨fun e he => ?_, fun e e' he he' p => ?_, ?_, ?_, ?_, fun j hj => ?_⟩
  · by_cases e0 : e = 0
    · rw [e0]; exact hq
    · rw [Fq_n e0]; exact (hf e e0 he).1
  · by_cases e0 : e = 0
    · by_cases e1 : e' = 0
      · rw [e0, e1]
      · rw [e0, Fq_n e1] at p; exact absurd p.symm (hf e' e1 he').2
    · by_cases e1 : e' = 0
      · rw [e1, Fq_n e0] at p; exact absurd p (hf e e0 he).2
      · rw [Fq_n e0, Fq_n e1] at p; exact h.2.1 e e' (hu e e0 he) (hu e' e1 he') p
  · rw [show Fq q F 1 = F 1 from Fq_n (by decide), show Fq q F 2 = F 2 from Fq_n (by decide)]; exact hold _ _ hq h.2.2.2.2
  · rw [Fq_n (by decide)]
    have h1 := hc 1 (by decide) (by decide)
    unfold ccl at h1
    rw [if_pos rfl] at h1
    rw [h1]
    congr 8
    funext i
    rw [Fq_n (by omega)]
  · rw [Fq_n (by decide)]
    have h1 := hc 2 (by decide) (by decide)
    unfold ccl at h1
    rwa [if_neg (by decide), if_pos rfl] at h1
  · rw [Fq_n (by omega), Fq_n (by omega), Fq_n (by omega)]
    have h1 := hc (3 + j) (by omega) (by omega)
    have h2 := hc (6 + j) (by omega) (by omega)
    have h3 := hc (9 + j) (by omega) (by omega)
    unfold ccl at h1 h2 h3
    rw [if_neg (by omega), if_neg (by omega), if_pos (by omega), show 3 + j + 3 = 6 + j by omega] at h1
    rw [if_neg (by omega), if_neg (by omega), if_neg (by omega), if_pos (by omega), show 6 + j + 3 = 9 + j by omega] at h2
    rw [if_neg (by omega), if_neg (by omega), if_neg (by omega), if_neg (by omega)] at h3
    exact ⟨h1, h2, h3⟩
def adC (ad : AD) (n : Nat) (F : Nat → Nat) : AD := fun k i => if 21 ≤ k ∧ k ≤ 23 ∧ i = n then F (k - 21) else if 24 ≤ k ∧ k ≤ 26 ∧ 3 * n ≤ i ∧ i < 3 * n + 3 then F (3 * (k - 23) + (i - 3 * n)) else ad k i
theorem adC_1 {ad : AD} {n : Nat} {F : Nat → Nat} {k : Nat} (h1 : 21 ≤ k) (h2 : k ≤ 23) : adC ad n F k n = F (k - 21) := by unfold adC; rw [if_pos ⟨h1, h2, rfl⟩]
theorem adC_2 {ad : AD} {n : Nat} {F : Nat → Nat} {k j : Nat} (h1 : 24 ≤ k) (h2 : k ≤ 26) (hj : j < 3) : adC ad n F k (3 * n + j) = F (3 * (k - 23) + j) := by
  unfold adC; rw [if_neg (by omega), if_pos ⟨h1, h2, by omega, by omega⟩, show 3 * n + j - 3 * n = j by omega]
theorem adC_o {ad : AD} {n : Nat} {F : Nat → Nat} {k i : Nat} (h1 : ¬ (21 ≤ k ∧ k ≤ 23 ∧ i = n)) (h2 : ¬ (24 ≤ k ∧ k ≤ 26 ∧ 3 * n ≤ i ∧ i < 3 * n + 3)) : adC ad n F k i = ad k i := by unfold adC; rw [if_neg h1, if_neg h2]
set_option maxRecDepth 100000 in
set_option maxHeartbeats 4000000 in
theorem g_clause {A B : ST} {ad : AD} {G G' : GH} (hW : World A B ad G) (hI : Inv A) {b : Nat} {F : Nat → Nat} (hn : A 9 0 < 10) (hold : ∀ x c, G x = some c → x ≠ ad 7 0 → x ≠ ad 0 0 → G' x = some c) (h7 : G' (ad 7 0) = some (.inl (.object RX0, 10, .inr (.inr (.inr (.inr (va_up (fun j => if j < A 9 0 then some (ad 21 j) else none) (A 9 0) (some (F 0))))))))) (hz0 : G' (ad 0 0) = some (.inr (8, [.ref (ad 1 0), .ref (ad 3 0), .ref (ad 7 0), .ref (ad 8 0), .ref (ad 9 0), .ref (ad 10 0), .ref (ad 11 0), .ref (ad 14 0), .int (nI (A 9 0 + 1)), .int (nI (A 15 0)), .int (nI (A 18 0))]))) (hF : NewK G G' (nI b - 1) F) : World (setA (setA A 10 (A 9 0) b) 9 0 (A 9 0 + 1)) B (adC ad (A 9 0) F) G' := by
  refine hW.grow (fun k i => ((21 ≤ k ∧ k ≤ 23) ∧ i = A 9 0) ∨ ((24 ≤ k ∧ k ≤ 26) ∧ 3 * A 9 0 ≤ i ∧ i < 3 * A 9 0 + 3)) (fun k i hk => ?_) (fun k i hk => ?_) ?_ ?_ (fun k i hk => ?_)
  · match k, hk with
    | 0, hk => exact Or.inl hk
    | 1, hk => exact Or.inl hk
    | 2, hk => exact Or.inl hk
    | 3, hk => exact Or.inl hk
    | 4, hk => exact Or.inl hk
    | 5, hk => exact Or.inl hk
    | 6, hk => exact Or.inl hk
    | 7, hk => exact Or.inl hk
    | 8, hk => exact Or.inl hk
    | 9, hk => exact Or.inl hk
    | 10, hk => exact Or.inl hk
    | 11, hk => exact Or.inl hk
    | 12, hk => exact Or.inl hk
    | 13, hk => exact Or.inl hk
    | 14, hk => exact Or.inl hk
    | 15, hk => exact Or.inl hk
    | 16, hk => exact Or.inl hk
    | 17, hk => exact Or.inl hk
    | 18, hk => exact Or.inl hk
    | 19, hk => exact Or.inl hk
    | 20, hk => exact Or.inl hk
    | 21, hk => exact (by
      have hk2 : i < A 9 0 + 1 := hk
      by_cases h9 : i = A 9 0
      · exact Or.inr (Or.inl ⟨by decide, h9⟩)
      · exact Or.inl (show i < A 9 0 by omega))
    | 22, hk => exact (by
      have hk2 : i < A 9 0 + 1 := hk
      by_cases h9 : i = A 9 0
      · exact Or.inr (Or.inl ⟨by decide, h9⟩)
      · exact Or.inl (show i < A 9 0 by omega))
    | 23, hk => exact (by
      have hk2 : i < A 9 0 + 1 := hk
      by_cases h9 : i = A 9 0
      · exact Or.inr (Or.inl ⟨by decide, h9⟩)
      · exact Or.inl (show i < A 9 0 by omega))
    | 24, hk => exact (by
      have hk2 : i < 3 * (A 9 0 + 1) := hk
      by_cases h9 : 3 * A 9 0 ≤ i
      · exact Or.inr (Or.inr ⟨by decide, h9, by omega⟩)
      · exact Or.inl (show i < 3 * A 9 0 by omega))
    | 25, hk => exact (by
      have hk2 : i < 3 * (A 9 0 + 1) := hk
      by_cases h9 : 3 * A 9 0 ≤ i
      · exact Or.inr (Or.inr ⟨by decide, h9, by omega⟩)
      · exact Or.inl (show i < 3 * A 9 0 by omega))
    | 26, hk => exact (by
      have hk2 : i < 3 * (A 9 0 + 1) := hk
      by_cases h9 : 3 * A 9 0 ≤ i
      · exact Or.inr (Or.inr ⟨by decide, h9, by omega⟩)
      · exact Or.inl (show i < 3 * A 9 0 by omega))
    | 27, hk => exact Or.inl hk
    | 28, hk => exact Or.inl hk
    | 29, hk => exact Or.inl hk
    | 30, hk => exact Or.inl hk
    | 31, hk => exact Or.inl hk
    | 32, hk => exact Or.inl hk
    | 33, hk => exact Or.inl hk
    | 34, hk => exact Or.inl hk
    | 35, hk => exact Or.inl hk
    | k + 36, hk => exact (False.elim hk)
  · match k, hk with
    | 0, hk => exact rfl
    | 1, hk => exact rfl
    | 2, hk => exact rfl
    | 3, hk => exact rfl
    | 4, hk => exact rfl
    | 5, hk => exact rfl
    | 6, hk => exact rfl
    | 7, hk => exact rfl
    | 8, hk => exact rfl
    | 9, hk => exact rfl
    | 10, hk => exact rfl
    | 11, hk => exact rfl
    | 12, hk => exact rfl
    | 13, hk => exact rfl
    | 14, hk => exact rfl
    | 15, hk => exact rfl
    | 16, hk => exact rfl
    | 17, hk => exact rfl
    | 18, hk => exact rfl
    | 19, hk => exact rfl
    | 20, hk => exact rfl
    | 21, hk => exact (by
      have hk2 : i < A 9 0 := hk
      exact adC_o (by omega) (by omega))
    | 22, hk => exact (by
      have hk2 : i < A 9 0 := hk
      exact adC_o (by omega) (by omega))
    | 23, hk => exact (by
      have hk2 : i < A 9 0 := hk
      exact adC_o (by omega) (by omega))
    | 24, hk => exact (by
      have hk2 : i < 3 * A 9 0 := hk
      exact adC_o (by omega) (by omega))
    | 25, hk => exact (by
      have hk2 : i < 3 * A 9 0 := hk
      exact adC_o (by omega) (by omega))
    | 26, hk => exact (by
      have hk2 : i < 3 * A 9 0 := hk
      exact adC_o (by omega) (by omega))
    | 27, hk => exact (adC_o (by omega) (by omega))
    | 28, hk => exact (adC_o (by omega) (by omega))
    | 29, hk => exact (adC_o (by omega) (by omega))
    | 30, hk => exact (adC_o (by omega) (by omega))
    | 31, hk => exact (adC_o (by omega) (by omega))
    | 32, hk => exact (adC_o (by omega) (by omega))
    | 33, hk => exact (adC_o (by omega) (by omega))
    | 34, hk => exact (adC_o (by omega) (by omega))
    | 35, hk => exact (adC_o (by omega) (by omega))
    | k + 36, hk => exact (False.elim hk)
  · rintro k i (⟨h1, h2⟩ | ⟨h1, h2⟩)
    · rw [h2, adC_1 h1.1 h1.2]; exact hF.1 _ (by omega)
    · obtain ⟨j, rfl⟩ : ∃ j, i = 3 * A 9 0 + j := ⟨i - 3 * A 9 0, by omega⟩
      rw [adC_2 h1.1 h1.2 (by omega)]; exact hF.1 _ (by omega)
  · rintro k i k' i' (⟨h1, h2⟩ | ⟨h1, h2⟩) (⟨h3, h4⟩ | ⟨h3, h4⟩) e
    · rw [h2, h4, adC_1 h1.1 h1.2, adC_1 h3.1 h3.2] at e
      have h5 := hF.2.1 _ _ (by omega) (by omega) e
      exact ⟨by omega, h2.trans h4.symm⟩
    · obtain ⟨j, rfl⟩ : ∃ j, i' = 3 * A 9 0 + j := ⟨i' - 3 * A 9 0, by omega⟩
      rw [h2, adC_1 h1.1 h1.2, adC_2 h3.1 h3.2 (by omega)] at e
      have h5 := hF.2.1 _ _ (by omega) (by omega) e
      omega
    · obtain ⟨j, rfl⟩ : ∃ j, i = 3 * A 9 0 + j := ⟨i - 3 * A 9 0, by omega⟩
      rw [h4, adC_2 h1.1 h1.2 (by omega), adC_1 h3.1 h3.2] at e
      have h5 := hF.2.1 _ _ (by omega) (by omega) e
      omega
    · obtain ⟨j, rfl⟩ : ∃ j, i = 3 * A 9 0 + j := ⟨i - 3 * A 9 0, by omega⟩
      obtain ⟨j', rfl⟩ : ∃ j, i' = 3 * A 9 0 + j := ⟨i' - 3 * A 9 0, by omega⟩
      rw [adC_2 h1.1 h1.2 (by omega), adC_2 h3.1 h3.2 (by omega)] at e
      have h5 := hF.2.1 _ _ (by omega) (by omega) e
      omega
  · match k, hk with
    | 0, hk => exact (by have h0 : i = 0 := hk; rw [h0]; exact hz0)
    | 1, hk => exact (hold _ _ (hW.g 1 i hk) (hW.ne 1 i 7 0 hk rfl (Or.inl (by decide))) (hW.ne 1 i 0 0 hk rfl (Or.inl (by decide))))
    | 2, hk => exact (hold _ _ (hW.g 2 i hk) (hW.ne 2 i 7 0 hk rfl (Or.inl (by decide))) (hW.ne 2 i 0 0 hk rfl (Or.inl (by decide))))
    | 3, hk => exact (hold _ _ (hW.g 3 i hk) (hW.ne 3 i 7 0 hk rfl (Or.inl (by decide))) (hW.ne 3 i 0 0 hk rfl (Or.inl (by decide))))
    | 4, hk => exact (hold _ _ (hW.g 4 i hk) (hW.ne 4 i 7 0 hk rfl (Or.inl (by decide))) (hW.ne 4 i 0 0 hk rfl (Or.inl (by decide))))
    | 5, hk => exact (hold _ _ (hW.g 5 i hk) (hW.ne 5 i 7 0 hk rfl (Or.inl (by decide))) (hW.ne 5 i 0 0 hk rfl (Or.inl (by decide))))
    | 6, hk => exact (hold _ _ (hW.g 6 i hk) (hW.ne 6 i 7 0 hk rfl (Or.inl (by decide))) (hW.ne 6 i 0 0 hk rfl (Or.inl (by decide))))
    | 7, hk => exact (by
      have h0 : i = 0 := hk
      rw [h0]
      refine h7.trans ?_
      show some (Sum.inl (_, _, Sum.inr (Sum.inr (Sum.inr (Sum.inr _)))) : LC) = some (Sum.inl (_, _, Sum.inr (Sum.inr (Sum.inr (Sum.inr (fun j => if j < A 9 0 + 1 then some (adC ad (A 9 0) F 21 j) else none))))))
      congr 8
      funext j
      by_cases h9 : j = A 9 0
      · rw [h9, if_pos (Nat.lt_succ_self _), up1, adC_1 (by decide) (by decide)]
      · rw [up2 h9]
        by_cases h6 : j < A 9 0
        · rw [if_pos h6, if_pos (by omega), adC_o (by omega) (by omega)]
        · rw [if_neg h6, if_neg (by omega)])
    | 8, hk => exact (hold _ _ (hW.g 8 i hk) (hW.ne 8 i 7 0 hk rfl (Or.inl (by decide))) (hW.ne 8 i 0 0 hk rfl (Or.inl (by decide))))
    | 9, hk => exact (hold _ _ (hW.g 9 i hk) (hW.ne 9 i 7 0 hk rfl (Or.inl (by decide))) (hW.ne 9 i 0 0 hk rfl (Or.inl (by decide))))
    | 10, hk => exact (hold _ _ (hW.g 10 i hk) (hW.ne 10 i 7 0 hk rfl (Or.inl (by decide))) (hW.ne 10 i 0 0 hk rfl (Or.inl (by decide))))
    | 11, hk => exact (hold _ _ (hW.g 11 i hk) (hW.ne 11 i 7 0 hk rfl (Or.inl (by decide))) (hW.ne 11 i 0 0 hk rfl (Or.inl (by decide))))
    | 12, hk => exact (hold _ _ (hW.g 12 i hk) (hW.ne 12 i 7 0 hk rfl (Or.inl (by decide))) (hW.ne 12 i 0 0 hk rfl (Or.inl (by decide))))
    | 13, hk => exact (hold _ _ (hW.g 13 i hk) (hW.ne 13 i 7 0 hk rfl (Or.inl (by decide))) (hW.ne 13 i 0 0 hk rfl (Or.inl (by decide))))
    | 14, hk => exact (hold _ _ (hW.g 14 i hk) (hW.ne 14 i 7 0 hk rfl (Or.inl (by decide))) (hW.ne 14 i 0 0 hk rfl (Or.inl (by decide))))
    | 15, hk => exact (hold _ _ (hW.g 15 i hk) (hW.ne 15 i 7 0 hk rfl (Or.inl (by decide))) (hW.ne 15 i 0 0 hk rfl (Or.inl (by decide))))
    | 16, hk => exact (hold _ _ (hW.g 16 i hk) (hW.ne 16 i 7 0 hk rfl (Or.inl (by decide))) (hW.ne 16 i 0 0 hk rfl (Or.inl (by decide))))
    | 17, hk => exact (hold _ _ (hW.g 17 i hk) (hW.ne 17 i 7 0 hk rfl (Or.inl (by decide))) (hW.ne 17 i 0 0 hk rfl (Or.inl (by decide))))
    | 18, hk => exact (hold _ _ (hW.g 18 i hk) (hW.ne 18 i 7 0 hk rfl (Or.inl (by decide))) (hW.ne 18 i 0 0 hk rfl (Or.inl (by decide))))
    | 19, hk => exact (hold _ _ (hW.g 19 i hk) (hW.ne 19 i 7 0 hk rfl (Or.inl (by decide))) (hW.ne 19 i 0 0 hk rfl (Or.inl (by decide))))
    | 20, hk => exact (hold _ _ (hW.g 20 i hk) (hW.ne 20 i 7 0 hk rfl (Or.inl (by decide))) (hW.ne 20 i 0 0 hk rfl (Or.inl (by decide))))
    | 21, hk => exact (by
      have hk2 : i < A 9 0 + 1 := hk
      by_cases h9 : i = A 9 0
      · rw [h9, adC_1 (by decide) (by decide)]
        refine hF.2.2.1.trans ?_
        show some (Sum.inr (0, [Value.int (nI b - 1), .ref (F 1), .ref (F 2)]) : LC) = some (.inr (0, [.int (nI (setA A 10 (A 9 0) b 10 (A 9 0)) - 1), .ref (adC ad (A 9 0) F 22 (A 9 0)), .ref (adC ad (A 9 0) F 23 (A 9 0))]))
        rw [setA_s, adC_1 (by decide) (by decide), adC_1 (by decide) (by decide)]
      · have h8 : lvw A 21 i := (show i < A 9 0 by omega)
        have hi9 : i < A 9 0 := h8
        rw [show adC ad (A 9 0) F 21 i = ad 21 i from adC_o (by omega) (by omega)]; refine (hold _ _ (hW.g 21 i h8) (hW.ne 21 i 7 0 h8 rfl (Or.inl (by decide))) (hW.ne 21 i 0 0 h8 rfl (Or.inl (by decide)))).trans ?_
        show some (Sum.inr (0, [Value.int (nI (A 10 i) - 1), .ref (ad 22 i), .ref (ad 23 i)]) : LC) = some (.inr (0, [.int (nI (setA A 10 (A 9 0) b 10 i) - 1), .ref (adC ad (A 9 0) F 22 i), .ref (adC ad (A 9 0) F 23 i)]))
        rw [setA_n h9, show adC ad (A 9 0) F 22 i = ad 22 i from adC_o (by omega) (by omega), show adC ad (A 9 0) F 23 i = ad 23 i from adC_o (by omega) (by omega)])
    | 22, hk => exact (by
      have hk2 : i < A 9 0 + 1 := hk
      by_cases h9 : i = A 9 0
      · rw [h9, adC_1 (by decide) (by decide)]
        refine hF.2.2.2.1.trans ?_
        show some (.inl (.object RX6, 3, .inr (.inr (.inr (.inr (fun i => if i < 3 then some (F (3 + i)) else none))))) : LC) = some (.inl (.object RX6, 3, .inr (.inr (.inr (.inr (fun j => if j < 3 then some (adC ad (A 9 0) F 24 (3 * A 9 0 + j)) else none))))))
        congr 8
        funext j
        by_cases h6 : j < 3
        · rw [if_pos h6, if_pos h6, adC_2 (by decide) (by decide) h6]
        · rw [if_neg h6, if_neg h6]
      · have h8 : lvw A 22 i := (show i < A 9 0 by omega)
        have hi9 : i < A 9 0 := h8
        rw [show adC ad (A 9 0) F 22 i = ad 22 i from adC_o (by omega) (by omega)]; refine (hold _ _ (hW.g 22 i h8) (hW.ne 22 i 7 0 h8 rfl (Or.inl (by decide))) (hW.ne 22 i 0 0 h8 rfl (Or.inl (by decide)))).trans ?_
        show some (.inl (.object RX6, 3, .inr (.inr (.inr (.inr (fun j => if j < 3 then some (ad 24 (3 * i + j)) else none))))) : LC) = some (.inl (.object RX6, 3, .inr (.inr (.inr (.inr (fun j => if j < 3 then some (adC ad (A 9 0) F 24 (3 * i + j)) else none))))))
        congr 8
        funext j
        by_cases h6 : j < 3
        · rw [if_pos h6, if_pos h6, adC_o (by omega) (by omega)]
        · rw [if_neg h6, if_neg h6])
    | 23, hk => exact (by
      have hk2 : i < A 9 0 + 1 := hk
      by_cases h9 : i = A 9 0
      · rw [h9, adC_1 (by decide) (by decide)]
        refine hF.2.2.2.2.1.trans ?_
        show some (inA 40 (fun _ => 0)) = some (inA 40 (fun j => if j < 40 then nI (A 14 (100 * (j % 4) + 10 * A 9 0 + j / 4)) else 0))
        refine congrArg (fun z => some (inA 40 z)) (funext fun j => ?_)
        by_cases h6 : j < 40
        · rw [if_pos h6, hI.ze.2.2.2.2.1 (j % 4) (A 9 0) (j / 4) (by omega) (Nat.le_refl _) hn (by omega), nI_0]
        · rw [if_neg h6]
      · have h8 : lvw A 23 i := (show i < A 9 0 by omega)
        have hi9 : i < A 9 0 := h8
        rw [show adC ad (A 9 0) F 23 i = ad 23 i from adC_o (by omega) (by omega)]; refine (hold _ _ (hW.g 23 i h8) (hW.ne 23 i 7 0 h8 rfl (Or.inl (by decide))) (hW.ne 23 i 0 0 h8 rfl (Or.inl (by decide)))).trans ?_
        rfl)
    | 24, hk => exact (by
      have hk2 : i < 3 * (A 9 0 + 1) := hk
      by_cases h9 : 3 * A 9 0 ≤ i
      · obtain ⟨j, rfl⟩ : ∃ j, i = 3 * A 9 0 + j := ⟨i - 3 * A 9 0, by omega⟩
        have hj : j < 3 := by omega
        obtain ⟨c3, c4, c5⟩ := hF.2.2.2.2.2 j hj
        rw [adC_2 (by decide) (by decide) hj]
        refine c3.trans ?_
        show some (tpC (F (6 + j)) 0) = some (tpC (adC ad (A 9 0) F 25 (3 * A 9 0 + j)) (nI (A 13 (3 * A 9 0 + j))))
        rw [adC_2 (by decide) (by decide) hj, (hI.ze.2.2.1 (3 * A 9 0 + j) (by omega)).2, nI_0]
      · have h8 : lvw A 24 i := (show i < 3 * A 9 0 by omega)
        have hi9 : i < 3 * A 9 0 := h8
        rw [show adC ad (A 9 0) F 24 i = ad 24 i from adC_o (by omega) (by omega)]; refine (hold _ _ (hW.g 24 i h8) (hW.ne 24 i 7 0 h8 rfl (Or.inl (by decide))) (hW.ne 24 i 0 0 h8 rfl (Or.inl (by decide)))).trans ?_
        show some (tpC (ad 25 i) (nI (A 13 i))) = some (tpC (adC ad (A 9 0) F 25 i) (nI (A 13 i)))
        rw [show adC ad (A 9 0) F 25 i = ad 25 i from adC_o (by omega) (by omega)])
    | 25, hk => exact (by
      have hk2 : i < 3 * (A 9 0 + 1) := hk
      by_cases h9 : 3 * A 9 0 ≤ i
      · obtain ⟨j, rfl⟩ : ∃ j, i = 3 * A 9 0 + j := ⟨i - 3 * A 9 0, by omega⟩
        have hj : j < 3 := by omega
        obtain ⟨c3, c4, c5⟩ := hF.2.2.2.2.2 j hj
        rw [adC_2 (by decide) (by decide) hj]
        refine c4.trans ?_
        show some (sgC (F (9 + j)) 0) = some (sgC (adC ad (A 9 0) F 26 (3 * A 9 0 + j)) (A 12 (3 * A 9 0 + j)))
        rw [adC_2 (by decide) (by decide) hj, (hI.ze.2.2.1 (3 * A 9 0 + j) (by omega)).1]
      · have h8 : lvw A 25 i := (show i < 3 * A 9 0 by omega)
        have hi9 : i < 3 * A 9 0 := h8
        rw [show adC ad (A 9 0) F 25 i = ad 25 i from adC_o (by omega) (by omega)]; refine (hold _ _ (hW.g 25 i h8) (hW.ne 25 i 7 0 h8 rfl (Or.inl (by decide))) (hW.ne 25 i 0 0 h8 rfl (Or.inl (by decide)))).trans ?_
        show some (sgC (ad 26 i) (A 12 i)) = some (sgC (adC ad (A 9 0) F 26 i) (A 12 i))
        rw [show adC ad (A 9 0) F 26 i = ad 26 i from adC_o (by omega) (by omega)])
    | 26, hk => exact (by
      have hk2 : i < 3 * (A 9 0 + 1) := hk
      by_cases h9 : 3 * A 9 0 ≤ i
      · obtain ⟨j, rfl⟩ : ∃ j, i = 3 * A 9 0 + j := ⟨i - 3 * A 9 0, by omega⟩
        have hj : j < 3 := by omega
        obtain ⟨c3, c4, c5⟩ := hF.2.2.2.2.2 j hj
        rw [adC_2 (by decide) (by decide) hj]
        refine c5.trans ?_
        show some (chA 60 _) = some (chA 60 (rg A 11 (60 * (3 * A 9 0 + j)) 60))
        rw [rg_zero (fun k _ => hI.ze.2.2.2.1 _ (by omega))]
      · have h8 : lvw A 26 i := (show i < 3 * A 9 0 by omega)
        have hi9 : i < 3 * A 9 0 := h8
        rw [show adC ad (A 9 0) F 26 i = ad 26 i from adC_o (by omega) (by omega)]; refine (hold _ _ (hW.g 26 i h8) (hW.ne 26 i 7 0 h8 rfl (Or.inl (by decide))) (hW.ne 26 i 0 0 h8 rfl (Or.inl (by decide)))).trans ?_
        rfl)
    | 27, hk => exact (hold _ _ (hW.g 27 i hk) (hW.ne 27 i 7 0 hk rfl (Or.inl (by decide))) (hW.ne 27 i 0 0 hk rfl (Or.inl (by decide))))
    | 28, hk => exact (hold _ _ (hW.g 28 i hk) (hW.ne 28 i 7 0 hk rfl (Or.inl (by decide))) (hW.ne 28 i 0 0 hk rfl (Or.inl (by decide))))
    | 29, hk => exact (hold _ _ (hW.g 29 i hk) (hW.ne 29 i 7 0 hk rfl (Or.inl (by decide))) (hW.ne 29 i 0 0 hk rfl (Or.inl (by decide))))
    | 30, hk => exact (hold _ _ (hW.g 30 i hk) (hW.ne 30 i 7 0 hk rfl (Or.inl (by decide))) (hW.ne 30 i 0 0 hk rfl (Or.inl (by decide))))
    | 31, hk => exact (hold _ _ (hW.g 31 i hk) (hW.ne 31 i 7 0 hk rfl (Or.inl (by decide))) (hW.ne 31 i 0 0 hk rfl (Or.inl (by decide))))
    | 32, hk => exact (hold _ _ (hW.g 32 i hk) (hW.ne 32 i 7 0 hk rfl (Or.inl (by decide))) (hW.ne 32 i 0 0 hk rfl (Or.inl (by decide))))
    | 33, hk => exact (hold _ _ (hW.g 33 i hk) (hW.ne 33 i 7 0 hk rfl (Or.inl (by decide))) (hW.ne 33 i 0 0 hk rfl (Or.inl (by decide))))
    | 34, hk => exact (hold _ _ (hW.g 34 i hk) (hW.ne 34 i 7 0 hk rfl (Or.inl (by decide))) (hW.ne 34 i 0 0 hk rfl (Or.inl (by decide))))
    | 35, hk => exact (hold _ _ (hW.g 35 i hk) (hW.ne 35 i 7 0 hk rfl (Or.inl (by decide))) (hW.ne 35 i 0 0 hk rfl (Or.inl (by decide))))
    | k + 36, hk => exact (False.elim hk)
