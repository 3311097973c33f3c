set_option maxRecDepth 100000 in
set_option maxHeartbeats 4000000 in
theorem w_out {A B : ST} {ad : AD} {G : GH} (hW : World A B ad G) (v : Nat) : World (A) (setA B 40 0 v) ad (va_up G (ad 33 0) (some (.inl (.long, 1, .inr (.inl (vp_updL (fun j => if j = 0 then (nI (B 40 0)).toInt64 else 0) 0 (nI v).toInt64)))))) := by
  have hc : .inl (.long, 1, .inr (.inl (vp_updL (fun j => if j = 0 then (nI (B 40 0)).toInt64 else 0) 0 (nI v).toInt64))) = wC (A) (setA B 40 0 v) ad 33 0 := by
    show _ = (.inl (.long, 1, .inr (.inl (fun j => if j = 0 then (nI (setA B 40 0 v 40 0)).toInt64 else 0))) : LC)
    rw [setA_s]
    congr 5
    funext j
    dsimp only [vp_updL]
    by_cases h9 : j = 0
    · rw [if_pos h9, if_pos h9]
    · rw [if_neg h9, if_neg h9, if_neg h9]
  rw [hc]
  exact hW.put 33 0 rfl (fun k i hk => hk) (fun k i hk => by
    match k, hk with
    | 0, hk => exact Or.inr rfl
    | 1, hk => exact Or.inr rfl
    | 2, hk => exact Or.inr rfl
    | 3, hk => exact Or.inr rfl
    | 4, hk => exact Or.inr rfl
    | 5, hk => exact Or.inr rfl
    | 6, hk => exact Or.inr rfl
    | 7, hk => exact Or.inr rfl
    | 8, hk => exact Or.inr rfl
    | 9, hk => exact Or.inr rfl
    | 10, hk => exact Or.inr rfl
    | 11, hk => exact Or.inr rfl
    | 12, hk => exact Or.inr rfl
    | 13, hk => exact Or.inr rfl
    | 14, hk => exact Or.inr rfl
    | 15, hk => exact Or.inr rfl
    | 16, hk => exact Or.inr rfl
    | 17, hk => exact Or.inr rfl
    | 18, hk => exact Or.inr rfl
    | 19, hk => exact Or.inr rfl
    | 20, hk => exact Or.inr rfl
    | 21, hk => exact Or.inr rfl
    | 22, hk => exact Or.inr rfl
    | 23, hk => exact Or.inr rfl
    | 24, hk => exact Or.inr rfl
    | 25, hk => exact Or.inr rfl
    | 26, hk => exact Or.inr rfl
    | 27, hk => exact Or.inr rfl
    | 28, hk => exact Or.inr rfl
    | 29, hk => exact Or.inr rfl
    | 30, hk => exact Or.inr rfl
    | 31, hk => exact Or.inr rfl
    | 32, hk => exact Or.inr (mA_n (fun h9 => by
      have hm : mArr i = true := hk
      rw [h9] at hm; cases hm))
    | 33, hk => exact Or.inl ⟨rfl, hk⟩
    | k + 34, hk => exact (False.elim hk))
