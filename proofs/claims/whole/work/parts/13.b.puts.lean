set_option maxRecDepth 100000 in
set_option maxHeartbeats 4000000 in
theorem w_b1 {A B : ST} {ad : AD} {G : GH} (hW : World A B ad G) {c : Nat} (hlt : A 0 0 < 60) : World (setA A 1 (A 0 0) c) B ad (va_up G (ad 2 0) (some (chA 60 (upd (rg A 1 0 60) (A 0 0) (nI c))))) := by
  have hc : chA 60 (upd (rg A 1 0 60) (A 0 0) (nI c)) = wC (setA A 1 (A 0 0) c) B ad 2 0 := by
    show _ = chA 60 (rg (setA A 1 (A 0 0) c) 1 0 60)
    have h9 := rg_set_s (A := A) (f := 1) (b := 0) (v := c) hlt
    rw [Nat.zero_add] at h9
    rw [h9]
  rw [hc]
  exact hW.put 2 0 rfl (fun k i hk => hk) (fun k i hk => by
    match k, hk with
    | 0, hk => exact Or.inr rfl
    | 1, hk => exact Or.inr rfl
    | 2, hk => exact Or.inl ⟨rfl, hk⟩
    | 3, hk => exact Or.inr rfl
    | 4, hk => exact Or.inr rfl
    | 5, hk => exact Or.inr rfl
    | 6, hk => exact Or.inr rfl
    | 7, hk => exact Or.inr rfl
    | 8, hk => exact Or.inr rfl
    | 9, hk => exact Or.inr rfl
    | 10, hk => exact Or.inr rfl
    | 11, hk => exact Or.inr rfl
    | 12, hk => exact Or.inr rfl
    | 13, hk => exact Or.inr rfl
    | 14, hk => exact Or.inr rfl
    | 15, hk => exact Or.inr rfl
    | 16, hk => exact Or.inr rfl
    | 17, hk => exact Or.inr rfl
    | 18, hk => exact Or.inr rfl
    | 19, hk => exact Or.inr rfl
    | 20, hk => exact Or.inr rfl
    | 21, hk => exact Or.inr rfl
    | 22, hk => exact Or.inr rfl
    | 23, hk => exact Or.inr rfl
    | 24, hk => exact Or.inr rfl
    | 25, hk => exact Or.inr rfl
    | 26, hk => exact Or.inr rfl
    | 27, hk => exact Or.inr rfl
    | 28, hk => exact Or.inr rfl
    | 29, hk => exact Or.inr rfl
    | 30, hk => exact Or.inr rfl
    | 31, hk => exact Or.inr rfl
    | 32, hk => exact Or.inr rfl
    | 33, hk => exact Or.inr rfl
    | k + 34, hk => exact (False.elim hk))
set_option maxRecDepth 100000 in
set_option maxHeartbeats 4000000 in
theorem w_b0 {A B : ST} {ad : AD} {G : GH} (hW : World A B ad G) (n : Nat) : World (setA A 0 0 n) B ad (va_up G (ad 1 0) (some (sgC (ad 2 0) n))) := by
  have hc : sgC (ad 2 0) n = wC (setA A 0 0 n) B ad 1 0 := rfl
  rw [hc]
  exact hW.put 1 0 rfl (fun k i hk => hk) (fun k i hk => by
    match k, hk with
    | 0, hk => exact Or.inr rfl
    | 1, hk => exact Or.inl ⟨rfl, hk⟩
    | 2, hk => exact Or.inr rfl
    | 3, hk => exact Or.inr rfl
    | 4, hk => exact Or.inr rfl
    | 5, hk => exact Or.inr rfl
    | 6, hk => exact Or.inr rfl
    | 7, hk => exact Or.inr rfl
    | 8, hk => exact Or.inr rfl
    | 9, hk => exact Or.inr rfl
    | 10, hk => exact Or.inr rfl
    | 11, hk => exact Or.inr rfl
    | 12, hk => exact Or.inr rfl
    | 13, hk => exact Or.inr rfl
    | 14, hk => exact Or.inr rfl
    | 15, hk => exact Or.inr rfl
    | 16, hk => exact Or.inr rfl
    | 17, hk => exact Or.inr rfl
    | 18, hk => exact Or.inr rfl
    | 19, hk => exact Or.inr rfl
    | 20, hk => exact Or.inr rfl
    | 21, hk => exact Or.inr rfl
    | 22, hk => exact Or.inr rfl
    | 23, hk => exact Or.inr rfl
    | 24, hk => exact Or.inr rfl
    | 25, hk => exact Or.inr rfl
    | 26, hk => exact Or.inr rfl
    | 27, hk => exact Or.inr rfl
    | 28, hk => exact Or.inr rfl
    | 29, hk => exact Or.inr rfl
    | 30, hk => exact Or.inr rfl
    | 31, hk => exact Or.inr rfl
    | 32, hk => exact Or.inr rfl
    | 33, hk => exact Or.inr rfl
    | k + 34, hk => exact (False.elim hk))
set_option maxRecDepth 100000 in
set_option maxHeartbeats 4000000 in
theorem w_en1 {A B : ST} {ad : AD} {G : GH} (hW : World A B ad G) {i0 n : Nat} (hi : i0 < 24) (hn : n ≤ 4) : World (cpyA A 5 (4 * i0) n) B ad (va_up G (ad 18 i0) (some (chA 4 (cpy (rg A 1 0 60) (rg A 5 (4 * i0) 4) n)))) := by
  have hc : chA 4 (cpy (rg A 1 0 60) (rg A 5 (4 * i0) 4) n) = wC (cpyA A 5 (4 * i0) n) B ad 18 i0 := by
    show _ = chA 4 (rg (cpyA A 5 (4 * i0) n) 5 (4 * i0) 4)
    rw [rg_cpy_s hn (by omega)]
  rw [hc]
  exact hW.put 18 i0 hi (fun k i hk => hk) (fun k i hk => by
    match k, hk with
    | 0, hk => exact Or.inr rfl
    | 1, hk => exact Or.inr rfl
    | 2, hk => exact Or.inr rfl
    | 3, hk => exact Or.inr rfl
    | 4, hk => exact Or.inr rfl
    | 5, hk => exact Or.inr rfl
    | 6, hk => exact Or.inr rfl
    | 7, hk => exact Or.inr rfl
    | 8, hk => exact Or.inr rfl
    | 9, hk => exact Or.inr rfl
    | 10, hk => exact Or.inr rfl
    | 11, hk => exact Or.inr rfl
    | 12, hk => exact Or.inr rfl
    | 13, hk => exact Or.inr rfl
    | 14, hk => exact Or.inr rfl
    | 15, hk => exact Or.inr rfl
    | 16, hk => exact Or.inr rfl
    | 17, hk => exact Or.inr rfl
    | 18, hk => exact (by
      by_cases h9 : i = i0
      · exact Or.inl ⟨rfl, h9⟩
      · exact Or.inr (by show chA 4 (rg (cpyA A 5 (4 * i0) n) 5 (4 * i) 4) = chA 4 (rg A 5 (4 * i) 4); rw [rg_cpy_n (fun k hk => by omega)]))
    | 19, hk => exact Or.inr rfl
    | 20, hk => exact Or.inr rfl
    | 21, hk => exact Or.inr rfl
    | 22, hk => exact Or.inr rfl
    | 23, hk => exact Or.inr rfl
    | 24, hk => exact Or.inr rfl
    | 25, hk => exact Or.inr rfl
    | 26, hk => exact Or.inr rfl
    | 27, hk => exact Or.inr rfl
    | 28, hk => exact Or.inr rfl
    | 29, hk => exact Or.inr rfl
    | 30, hk => exact Or.inr rfl
    | 31, hk => exact Or.inr rfl
    | 32, hk => exact Or.inr rfl
    | 33, hk => exact Or.inr rfl
    | k + 34, hk => exact (False.elim hk))
set_option maxRecDepth 100000 in
set_option maxHeartbeats 4000000 in
theorem w_en0 {A B : ST} {ad : AD} {G : GH} (hW : World A B ad G) {i0 n : Nat} (hi : i0 < 24) : World (setA A 6 i0 n) B ad (va_up G (ad 17 i0) (some (sgC (ad 18 i0) n))) := by
  have hc : sgC (ad 18 i0) n = wC (setA A 6 i0 n) B ad 17 i0 := by
    show _ = sgC (ad 18 i0) (setA A 6 i0 n 6 i0)
    rw [setA_s]
  rw [hc]
  exact hW.put 17 i0 hi (fun k i hk => hk) (fun k i hk => by
    match k, hk with
    | 0, hk => exact Or.inr rfl
    | 1, hk => exact Or.inr rfl
    | 2, hk => exact Or.inr rfl
    | 3, hk => exact Or.inr rfl
    | 4, hk => exact Or.inr rfl
    | 5, hk => exact Or.inr rfl
    | 6, hk => exact Or.inr rfl
    | 7, hk => exact Or.inr rfl
    | 8, hk => exact Or.inr rfl
    | 9, hk => exact Or.inr rfl
    | 10, hk => exact Or.inr rfl
    | 11, hk => exact Or.inr rfl
    | 12, hk => exact Or.inr rfl
    | 13, hk => exact Or.inr rfl
    | 14, hk => exact Or.inr rfl
    | 15, hk => exact Or.inr rfl
    | 16, hk => exact Or.inr rfl
    | 17, hk => exact (by
      by_cases h9 : i = i0
      · exact Or.inl ⟨rfl, h9⟩
      · exact Or.inr (by show sgC (ad 18 i) (setA A 6 i0 n 6 i) = sgC (ad 18 i) (A 6 i); rw [setA_n h9]))
    | 18, hk => exact Or.inr rfl
    | 19, hk => exact Or.inr rfl
    | 20, hk => exact Or.inr rfl
    | 21, hk => exact Or.inr rfl
    | 22, hk => exact Or.inr rfl
    | 23, hk => exact Or.inr rfl
    | 24, hk => exact Or.inr rfl
    | 25, hk => exact Or.inr rfl
    | 26, hk => exact Or.inr rfl
    | 27, hk => exact Or.inr rfl
    | 28, hk => exact Or.inr rfl
    | 29, hk => exact Or.inr rfl
    | 30, hk => exact Or.inr rfl
    | 31, hk => exact Or.inr rfl
    | 32, hk => exact Or.inr rfl
    | 33, hk => exact Or.inr rfl
    | k + 34, hk => exact (False.elim hk))
set_option maxRecDepth 100000 in
set_option maxHeartbeats 4000000 in
theorem w_ow1 {A B : ST} {ad : AD} {G : GH} (hW : World A B ad G) {i0 n : Nat} (hi : i0 < 288 ∧ A 8 i0 ≠ 0) (hn : n ≤ 10) : World (cpyA A 7 (10 * i0) n) B ad (va_up G (ad 20 i0) (some (chA 10 (cpy (rg A 1 0 60) (rg A 7 (10 * i0) 10) n)))) := by
  have hc : chA 10 (cpy (rg A 1 0 60) (rg A 7 (10 * i0) 10) n) = wC (cpyA A 7 (10 * i0) n) B ad 20 i0 := by
    show _ = chA 10 (rg (cpyA A 7 (10 * i0) n) 7 (10 * i0) 10)
    rw [rg_cpy_s hn (by omega)]
  rw [hc]
  exact hW.put 20 i0 hi (fun k i hk => hk) (fun k i hk => by
    match k, hk with
    | 0, hk => exact Or.inr rfl
    | 1, hk => exact Or.inr rfl
    | 2, hk => exact Or.inr rfl
    | 3, hk => exact Or.inr rfl
    | 4, hk => exact Or.inr rfl
    | 5, hk => exact Or.inr rfl
    | 6, hk => exact Or.inr rfl
    | 7, hk => exact Or.inr rfl
    | 8, hk => exact Or.inr rfl
    | 9, hk => exact Or.inr rfl
    | 10, hk => exact Or.inr rfl
    | 11, hk => exact Or.inr rfl
    | 12, hk => exact Or.inr rfl
    | 13, hk => exact Or.inr rfl
    | 14, hk => exact Or.inr rfl
    | 15, hk => exact Or.inr rfl
    | 16, hk => exact Or.inr rfl
    | 17, hk => exact Or.inr rfl
    | 18, hk => exact Or.inr rfl
    | 19, hk => exact Or.inr rfl
    | 20, hk => exact (by
      by_cases h9 : i = i0
      · exact Or.inl ⟨rfl, h9⟩
      · exact Or.inr (by show chA 10 (rg (cpyA A 7 (10 * i0) n) 7 (10 * i) 10) = chA 10 (rg A 7 (10 * i) 10); rw [rg_cpy_n (fun k hk => by omega)]))
    | 21, hk => exact Or.inr rfl
    | 22, hk => exact Or.inr rfl
    | 23, hk => exact Or.inr rfl
    | 24, hk => exact Or.inr rfl
    | 25, hk => exact Or.inr rfl
    | 26, hk => exact Or.inr rfl
    | 27, hk => exact Or.inr rfl
    | 28, hk => exact Or.inr rfl
    | 29, hk => exact Or.inr rfl
    | 30, hk => exact Or.inr rfl
    | 31, hk => exact Or.inr rfl
    | 32, hk => exact Or.inr rfl
    | 33, hk => exact Or.inr rfl
    | k + 34, hk => exact (False.elim hk))
set_option maxRecDepth 100000 in
set_option maxHeartbeats 4000000 in
theorem w_ow0 {A B : ST} {ad : AD} {G : GH} (hW : World A B ad G) {i0 n : Nat} (hi : i0 < 288 ∧ A 8 i0 ≠ 0) (hn0 : n ≠ 0) : World (setA A 8 i0 n) B ad (va_up G (ad 19 i0) (some (sgC (ad 20 i0) n))) := by
  have hc : sgC (ad 20 i0) n = wC (setA A 8 i0 n) B ad 19 i0 := by
    show _ = sgC (ad 20 i0) (setA A 8 i0 n 8 i0)
    rw [setA_s]
  rw [hc]
  exact hW.put 19 i0 hi (fun k i hk => by
    match k, hk with
    | 0, hk => exact hk
    | 1, hk => exact hk
    | 2, hk => exact hk
    | 3, hk => exact hk
    | 4, hk => exact hk
    | 5, hk => exact hk
    | 6, hk => exact hk
    | 7, hk => exact hk
    | 8, hk => exact hk
    | 9, hk => exact hk
    | 10, hk => exact hk
    | 11, hk => exact hk
    | 12, hk => exact hk
    | 13, hk => exact hk
    | 14, hk => exact hk
    | 15, hk => exact hk
    | 16, hk => exact hk
    | 17, hk => exact hk
    | 18, hk => exact hk
    | 19, hk => exact (by
      by_cases h9 : i = i0
      · exact ⟨hk.1, by rw [h9]; exact hi.2⟩
      · exact ⟨hk.1, by have h8 := hk.2; rwa [setA_n h9] at h8⟩)
    | 20, hk => exact (by
      by_cases h9 : i = i0
      · exact ⟨hk.1, by rw [h9]; exact hi.2⟩
      · exact ⟨hk.1, by have h8 := hk.2; rwa [setA_n h9] at h8⟩)
    | 21, hk => exact hk
    | 22, hk => exact hk
    | 23, hk => exact hk
    | 24, hk => exact hk
    | 25, hk => exact hk
    | 26, hk => exact hk
    | 27, hk => exact hk
    | 28, hk => exact hk
    | 29, hk => exact hk
    | 30, hk => exact hk
    | 31, hk => exact hk
    | 32, hk => exact hk
    | 33, hk => exact hk
    | k + 34, hk => exact (False.elim hk)) (fun k i hk => by
    match k, hk with
    | 0, hk => exact Or.inr rfl
    | 1, hk => exact Or.inr rfl
    | 2, hk => exact Or.inr rfl
    | 3, hk => exact Or.inr rfl
    | 4, hk => exact Or.inr rfl
    | 5, hk => exact Or.inr rfl
    | 6, hk => exact (Or.inr (by
      show (Sum.inl (_, _, Sum.inr (Sum.inr (Sum.inr (Sum.inr _)))) : LC) = _
      congr 7
      funext j
      by_cases h9 : j = i0
      · rw [h9, setA_s, if_neg hn0, if_neg hi.2]
      · rw [setA_n h9]))
    | 7, hk => exact Or.inr rfl
    | 8, hk => exact Or.inr rfl
    | 9, hk => exact Or.inr rfl
    | 10, hk => exact Or.inr rfl
    | 11, hk => exact Or.inr rfl
    | 12, hk => exact Or.inr rfl
    | 13, hk => exact Or.inr rfl
    | 14, hk => exact Or.inr rfl
    | 15, hk => exact Or.inr rfl
    | 16, hk => exact Or.inr rfl
    | 17, hk => exact Or.inr rfl
    | 18, hk => exact Or.inr rfl
    | 19, hk => exact (by
      by_cases h9 : i = i0
      · exact Or.inl ⟨rfl, h9⟩
      · exact Or.inr (by show sgC (ad 20 i) (setA A 8 i0 n 8 i) = sgC (ad 20 i) (A 8 i); rw [setA_n h9]))
    | 20, hk => exact Or.inr rfl
    | 21, hk => exact Or.inr rfl
    | 22, hk => exact Or.inr rfl
    | 23, hk => exact Or.inr rfl
    | 24, hk => exact Or.inr rfl
    | 25, hk => exact Or.inr rfl
    | 26, hk => exact Or.inr rfl
    | 27, hk => exact Or.inr rfl
    | 28, hk => exact Or.inr rfl
    | 29, hk => exact Or.inr rfl
    | 30, hk => exact Or.inr rfl
    | 31, hk => exact Or.inr rfl
    | 32, hk => exact Or.inr rfl
    | 33, hk => exact Or.inr rfl
    | k + 34, hk => exact (False.elim hk))
set_option maxRecDepth 100000 in
set_option maxHeartbeats 4000000 in
theorem w_tx1 {A B : ST} {ad : AD} {G : GH} (hW : World A B ad G) {i0 n : Nat} (hi : i0 < 3 * A 9 0) (hn : n ≤ 60) : World (cpyA A 11 (60 * i0) n) B ad (va_up G (ad 26 i0) (some (chA 60 (cpy (rg A 1 0 60) (rg A 11 (60 * i0) 60) n)))) := by
  have hc : chA 60 (cpy (rg A 1 0 60) (rg A 11 (60 * i0) 60) n) = wC (cpyA A 11 (60 * i0) n) B ad 26 i0 := by
    show _ = chA 60 (rg (cpyA A 11 (60 * i0) n) 11 (60 * i0) 60)
    rw [rg_cpy_s hn (by omega)]
  rw [hc]
  exact hW.put 26 i0 hi (fun k i hk => hk) (fun k i hk => by
    match k, hk with
    | 0, hk => exact Or.inr rfl
    | 1, hk => exact Or.inr rfl
    | 2, hk => exact Or.inr rfl
    | 3, hk => exact Or.inr rfl
    | 4, hk => exact Or.inr rfl
    | 5, hk => exact Or.inr rfl
    | 6, hk => exact Or.inr rfl
    | 7, hk => exact Or.inr rfl
    | 8, hk => exact Or.inr rfl
    | 9, hk => exact Or.inr rfl
    | 10, hk => exact Or.inr rfl
    | 11, hk => exact Or.inr rfl
    | 12, hk => exact Or.inr rfl
    | 13, hk => exact Or.inr rfl
    | 14, hk => exact Or.inr rfl
    | 15, hk => exact Or.inr rfl
    | 16, hk => exact Or.inr rfl
    | 17, hk => exact Or.inr rfl
    | 18, hk => exact Or.inr rfl
    | 19, hk => exact Or.inr rfl
    | 20, hk => exact Or.inr rfl
    | 21, hk => exact Or.inr rfl
    | 22, hk => exact Or.inr rfl
    | 23, hk => exact Or.inr rfl
    | 24, hk => exact Or.inr rfl
    | 25, hk => exact Or.inr rfl
    | 26, hk => exact (by
      by_cases h9 : i = i0
      · exact Or.inl ⟨rfl, h9⟩
      · exact Or.inr (by show chA 60 (rg (cpyA A 11 (60 * i0) n) 11 (60 * i) 60) = chA 60 (rg A 11 (60 * i) 60); rw [rg_cpy_n (fun k hk => by omega)]))
    | 27, hk => exact Or.inr rfl
    | 28, hk => exact Or.inr rfl
    | 29, hk => exact Or.inr rfl
    | 30, hk => exact Or.inr rfl
    | 31, hk => exact Or.inr rfl
    | 32, hk => exact Or.inr rfl
    | 33, hk => exact Or.inr rfl
    | k + 34, hk => exact (False.elim hk))
set_option maxRecDepth 100000 in
set_option maxHeartbeats 4000000 in
theorem w_tx0 {A B : ST} {ad : AD} {G : GH} (hW : World A B ad G) {i0 n : Nat} (hi : i0 < 3 * A 9 0) : World (setA A 12 i0 n) B ad (va_up G (ad 25 i0) (some (sgC (ad 26 i0) n))) := by
  have hc : sgC (ad 26 i0) n = wC (setA A 12 i0 n) B ad 25 i0 := by
    show _ = sgC (ad 26 i0) (setA A 12 i0 n 12 i0)
    rw [setA_s]
  rw [hc]
  exact hW.put 25 i0 hi (fun k i hk => hk) (fun k i hk => by
    match k, hk with
    | 0, hk => exact Or.inr rfl
    | 1, hk => exact Or.inr rfl
    | 2, hk => exact Or.inr rfl
    | 3, hk => exact Or.inr rfl
    | 4, hk => exact Or.inr rfl
    | 5, hk => exact Or.inr rfl
    | 6, hk => exact Or.inr rfl
    | 7, hk => exact Or.inr rfl
    | 8, hk => exact Or.inr rfl
    | 9, hk => exact Or.inr rfl
    | 10, hk => exact Or.inr rfl
    | 11, hk => exact Or.inr rfl
    | 12, hk => exact Or.inr rfl
    | 13, hk => exact Or.inr rfl
    | 14, hk => exact Or.inr rfl
    | 15, hk => exact Or.inr rfl
    | 16, hk => exact Or.inr rfl
    | 17, hk => exact Or.inr rfl
    | 18, hk => exact Or.inr rfl
    | 19, hk => exact Or.inr rfl
    | 20, hk => exact Or.inr rfl
    | 21, hk => exact Or.inr rfl
    | 22, hk => exact Or.inr rfl
    | 23, hk => exact Or.inr rfl
    | 24, hk => exact Or.inr rfl
    | 25, hk => exact (by
      by_cases h9 : i = i0
      · exact Or.inl ⟨rfl, h9⟩
      · exact Or.inr (by show sgC (ad 26 i) (setA A 12 i0 n 12 i) = sgC (ad 26 i) (A 12 i); rw [setA_n h9]))
    | 26, hk => exact Or.inr rfl
    | 27, hk => exact Or.inr rfl
    | 28, hk => exact Or.inr rfl
    | 29, hk => exact Or.inr rfl
    | 30, hk => exact Or.inr rfl
    | 31, hk => exact Or.inr rfl
    | 32, hk => exact Or.inr rfl
    | 33, hk => exact Or.inr rfl
    | k + 34, hk => exact (False.elim hk))
set_option maxRecDepth 100000 in
set_option maxHeartbeats 4000000 in
theorem w_st1 {A B : ST} {ad : AD} {G : GH} (hW : World A B ad G) {i0 n : Nat} (hi : i0 < A 2 0) (hn : n ≤ 10) : World (cpyA A 3 (10 * i0) n) B ad (va_up G (ad 16 i0) (some (chA 10 (cpy (rg A 1 0 60) (rg A 3 (10 * i0) 10) n)))) := by
  have hc : chA 10 (cpy (rg A 1 0 60) (rg A 3 (10 * i0) 10) n) = wC (cpyA A 3 (10 * i0) n) B ad 16 i0 := by
    show _ = chA 10 (rg (cpyA A 3 (10 * i0) n) 3 (10 * i0) 10)
    rw [rg_cpy_s hn (by omega)]
  rw [hc]
  exact hW.put 16 i0 hi (fun k i hk => hk) (fun k i hk => by
    match k, hk with
    | 0, hk => exact Or.inr rfl
    | 1, hk => exact Or.inr rfl
    | 2, hk => exact Or.inr rfl
    | 3, hk => exact Or.inr rfl
    | 4, hk => exact Or.inr rfl
    | 5, hk => exact Or.inr rfl
    | 6, hk => exact Or.inr rfl
    | 7, hk => exact Or.inr rfl
    | 8, hk => exact Or.inr rfl
    | 9, hk => exact Or.inr rfl
    | 10, hk => exact Or.inr rfl
    | 11, hk => exact Or.inr rfl
    | 12, hk => exact Or.inr rfl
    | 13, hk => exact Or.inr rfl
    | 14, hk => exact Or.inr rfl
    | 15, hk => exact Or.inr rfl
    | 16, hk => exact (by
      by_cases h9 : i = i0
      · exact Or.inl ⟨rfl, h9⟩
      · exact Or.inr (by show chA 10 (rg (cpyA A 3 (10 * i0) n) 3 (10 * i) 10) = chA 10 (rg A 3 (10 * i) 10); rw [rg_cpy_n (fun k hk => by omega)]))
    | 17, hk => exact Or.inr rfl
    | 18, hk => exact Or.inr rfl
    | 19, hk => exact Or.inr rfl
    | 20, hk => exact Or.inr rfl
    | 21, hk => exact Or.inr rfl
    | 22, hk => exact Or.inr rfl
    | 23, hk => exact Or.inr rfl
    | 24, hk => exact Or.inr rfl
    | 25, hk => exact Or.inr rfl
    | 26, hk => exact Or.inr rfl
    | 27, hk => exact Or.inr rfl
    | 28, hk => exact Or.inr rfl
    | 29, hk => exact Or.inr rfl
    | 30, hk => exact Or.inr rfl
    | 31, hk => exact Or.inr rfl
    | 32, hk => exact Or.inr rfl
    | 33, hk => exact Or.inr rfl
    | k + 34, hk => exact (False.elim hk))
set_option maxRecDepth 100000 in
set_option maxHeartbeats 4000000 in
theorem w_st0 {A B : ST} {ad : AD} {G : GH} (hW : World A B ad G) {i0 n : Nat} (hi : i0 < A 2 0) : World (setA A 4 i0 n) B ad (va_up G (ad 15 i0) (some (sgC (ad 16 i0) n))) := by
  have hc : sgC (ad 16 i0) n = wC (setA A 4 i0 n) B ad 15 i0 := by
    show _ = sgC (ad 16 i0) (setA A 4 i0 n 4 i0)
    rw [setA_s]
  rw [hc]
  exact hW.put 15 i0 hi (fun k i hk => hk) (fun k i hk => by
    match k, hk with
    | 0, hk => exact Or.inr rfl
    | 1, hk => exact Or.inr rfl
    | 2, hk => exact Or.inr rfl
    | 3, hk => exact Or.inr rfl
    | 4, hk => exact Or.inr rfl
    | 5, hk => exact Or.inr rfl
    | 6, hk => exact Or.inr rfl
    | 7, hk => exact Or.inr rfl
    | 8, hk => exact Or.inr rfl
    | 9, hk => exact Or.inr rfl
    | 10, hk => exact Or.inr rfl
    | 11, hk => exact Or.inr rfl
    | 12, hk => exact Or.inr rfl
    | 13, hk => exact Or.inr rfl
    | 14, hk => exact Or.inr rfl
    | 15, hk => exact (by
      by_cases h9 : i = i0
      · exact Or.inl ⟨rfl, h9⟩
      · exact Or.inr (by show sgC (ad 16 i) (setA A 4 i0 n 4 i) = sgC (ad 16 i) (A 4 i); rw [setA_n h9]))
    | 16, hk => exact Or.inr rfl
    | 17, hk => exact Or.inr rfl
    | 18, hk => exact Or.inr rfl
    | 19, hk => exact Or.inr rfl
    | 20, hk => exact Or.inr rfl
    | 21, hk => exact Or.inr rfl
    | 22, hk => exact Or.inr rfl
    | 23, hk => exact Or.inr rfl
    | 24, hk => exact Or.inr rfl
    | 25, hk => exact Or.inr rfl
    | 26, hk => exact Or.inr rfl
    | 27, hk => exact Or.inr rfl
    | 28, hk => exact Or.inr rfl
    | 29, hk => exact Or.inr rfl
    | 30, hk => exact Or.inr rfl
    | 31, hk => exact Or.inr rfl
    | 32, hk => exact Or.inr rfl
    | 33, hk => exact Or.inr rfl
    | k + 34, hk => exact (False.elim hk))
set_option maxRecDepth 100000 in
set_option maxHeartbeats 4000000 in
theorem w_ap {A B : ST} {ad : AD} {G : GH} (hW : World A B ad G) {i0 v : Nat} (hi : i0 < 3 * A 9 0) : World (setA A 13 i0 v) B ad (va_up G (ad 24 i0) (some (tpC (ad 25 i0) (nI v)))) := by
  have hc : tpC (ad 25 i0) (nI v) = wC (setA A 13 i0 v) B ad 24 i0 := by
    show _ = tpC (ad 25 i0) (nI (setA A 13 i0 v 13 i0))
    rw [setA_s]
  rw [hc]
  exact hW.put 24 i0 hi (fun k i hk => hk) (fun k i hk => by
    match k, hk with
    | 0, hk => exact Or.inr rfl
    | 1, hk => exact Or.inr rfl
    | 2, hk => exact Or.inr rfl
    | 3, hk => exact Or.inr rfl
    | 4, hk => exact Or.inr rfl
    | 5, hk => exact Or.inr rfl
    | 6, hk => exact Or.inr rfl
    | 7, hk => exact Or.inr rfl
    | 8, hk => exact Or.inr rfl
    | 9, hk => exact Or.inr rfl
    | 10, hk => exact Or.inr rfl
    | 11, hk => exact Or.inr rfl
    | 12, hk => exact Or.inr rfl
    | 13, hk => exact Or.inr rfl
    | 14, hk => exact Or.inr rfl
    | 15, hk => exact Or.inr rfl
    | 16, hk => exact Or.inr rfl
    | 17, hk => exact Or.inr rfl
    | 18, hk => exact Or.inr rfl
    | 19, hk => exact Or.inr rfl
    | 20, hk => exact Or.inr rfl
    | 21, hk => exact Or.inr rfl
    | 22, hk => exact Or.inr rfl
    | 23, hk => exact Or.inr rfl
    | 24, hk => exact (by
      by_cases h9 : i = i0
      · exact Or.inl ⟨rfl, h9⟩
      · exact Or.inr (by show tpC (ad 25 i) (nI (setA A 13 i0 v 13 i)) = tpC (ad 25 i) (nI (A 13 i)); rw [setA_n h9]))
    | 25, hk => exact Or.inr rfl
    | 26, hk => exact Or.inr rfl
    | 27, hk => exact Or.inr rfl
    | 28, hk => exact Or.inr rfl
    | 29, hk => exact Or.inr rfl
    | 30, hk => exact Or.inr rfl
    | 31, hk => exact Or.inr rfl
    | 32, hk => exact Or.inr rfl
    | 33, hk => exact Or.inr rfl
    | k + 34, hk => exact (False.elim hk))
set_option maxRecDepth 100000 in
set_option maxHeartbeats 4000000 in
theorem w_ho {A B : ST} {ad : AD} {G : GH} (hW : World A B ad G) {c w k0 v : Nat} (hi : c < A 9 0) (hc10 : A 9 0 ≤ 10) (hw : w < 10) (hk0 : k0 < 4) : World (setA A 14 (100 * k0 + 10 * c + w) v) B ad (va_up G (ad 23 c) (some (inA 40 (upd (fun j => if j < 40 then nI (A 14 (100 * (j % 4) + 10 * c + j / 4)) else 0) (4 * w + k0) (nI v))))) := by
  have hc : inA 40 (upd (fun j => if j < 40 then nI (A 14 (100 * (j % 4) + 10 * c + j / 4)) else 0) (4 * w + k0) (nI v)) = wC (setA A 14 (100 * k0 + 10 * c + w) v) B ad 23 c := by
    show _ = inA 40 (fun j => if j < 40 then nI (setA A 14 (100 * k0 + 10 * c + w) v 14 (100 * (j % 4) + 10 * c + j / 4)) else 0)
    congr 4
    funext j
    dsimp only [upd]
    by_cases h9 : j = 4 * w + k0
    · rw [if_pos h9, if_pos (by omega), show 100 * (j % 4) + 10 * c + j / 4 = 100 * k0 + 10 * c + w by omega, setA_s]
    · rw [if_neg h9]
      by_cases hj : j < 40
      · rw [if_pos hj, if_pos hj, setA_n (by omega)]
      · rw [if_neg hj, if_neg hj]
  rw [hc]
  exact hW.put 23 c hi (fun k i hk => hk) (fun k i hk => by
    match k, hk with
    | 0, hk => exact Or.inr rfl
    | 1, hk => exact Or.inr rfl
    | 2, hk => exact Or.inr rfl
    | 3, hk => exact Or.inr rfl
    | 4, hk => exact Or.inr rfl
    | 5, hk => exact Or.inr rfl
    | 6, hk => exact Or.inr rfl
    | 7, hk => exact Or.inr rfl
    | 8, hk => exact Or.inr rfl
    | 9, hk => exact Or.inr rfl
    | 10, hk => exact Or.inr rfl
    | 11, hk => exact Or.inr rfl
    | 12, hk => exact Or.inr rfl
    | 13, hk => exact Or.inr rfl
    | 14, hk => exact Or.inr rfl
    | 15, hk => exact Or.inr rfl
    | 16, hk => exact Or.inr rfl
    | 17, hk => exact Or.inr rfl
    | 18, hk => exact Or.inr rfl
    | 19, hk => exact Or.inr rfl
    | 20, hk => exact Or.inr rfl
    | 21, hk => exact Or.inr rfl
    | 22, hk => exact Or.inr rfl
    | 23, hk => exact (by
      have hi2 : i < A 9 0 := hk
      by_cases h9 : i = c
      · exact Or.inl ⟨rfl, h9⟩
      · refine Or.inr ?_
        show inA 40 _ = inA 40 _
        congr 4
        funext j
        by_cases hj : j < 40
        · rw [if_pos hj, if_pos hj, setA_n (fun e => by
            have e1 : j % 4 = k0 := by omega
            have e2 : j / 4 < 10 := by omega
            rw [e1] at e
            generalize j / 4 = g at e e2
            omega)]
        · rw [if_neg hj, if_neg hj])
    | 24, hk => exact Or.inr rfl
    | 25, hk => exact Or.inr rfl
    | 26, hk => exact Or.inr rfl
    | 27, hk => exact Or.inr rfl
    | 28, hk => exact Or.inr rfl
    | 29, hk => exact Or.inr rfl
    | 30, hk => exact Or.inr rfl
    | 31, hk => exact Or.inr rfl
    | 32, hk => exact Or.inr rfl
    | 33, hk => exact Or.inr rfl
    | k + 34, hk => exact (False.elim hk))
set_option maxRecDepth 100000 in
set_option maxHeartbeats 4000000 in
theorem w_pr {A B : ST} {ad : AD} {G : GH} (hW : World A B ad G) {i0 v : Nat} (hi : i0 < 3) : World (setA A 21 i0 v) B ad (va_up G (ad 10 0) (some (inA 3 (upd (rg A 21 0 3) i0 (nI v))))) := by
  have hc : inA 3 (upd (rg A 21 0 3) i0 (nI v)) = wC (setA A 21 i0 v) B ad 10 0 := by
    show _ = inA 3 (rg (setA A 21 i0 v) 21 0 3)
    have h9 := rg_set_s (A := A) (f := 21) (b := 0) (v := v) hi
    rw [Nat.zero_add] at h9
    rw [h9]
  rw [hc]
  exact hW.put 10 0 rfl (fun k i hk => hk) (fun k i hk => by
    match k, hk with
    | 0, hk => exact Or.inr rfl
    | 1, hk => exact Or.inr rfl
    | 2, hk => exact Or.inr rfl
    | 3, hk => exact Or.inr rfl
    | 4, hk => exact Or.inr rfl
    | 5, hk => exact Or.inr rfl
    | 6, hk => exact Or.inr rfl
    | 7, hk => exact Or.inr rfl
    | 8, hk => exact Or.inr rfl
    | 9, hk => exact Or.inr rfl
    | 10, hk => exact Or.inl ⟨rfl, hk⟩
    | 11, hk => exact Or.inr rfl
    | 12, hk => exact Or.inr rfl
    | 13, hk => exact Or.inr rfl
    | 14, hk => exact Or.inr rfl
    | 15, hk => exact Or.inr rfl
    | 16, hk => exact Or.inr rfl
    | 17, hk => exact Or.inr rfl
    | 18, hk => exact Or.inr rfl
    | 19, hk => exact Or.inr rfl
    | 20, hk => exact Or.inr rfl
    | 21, hk => exact Or.inr rfl
    | 22, hk => exact Or.inr rfl
    | 23, hk => exact Or.inr rfl
    | 24, hk => exact Or.inr rfl
    | 25, hk => exact Or.inr rfl
    | 26, hk => exact Or.inr rfl
    | 27, hk => exact Or.inr rfl
    | 28, hk => exact Or.inr rfl
    | 29, hk => exact Or.inr rfl
    | 30, hk => exact Or.inr rfl
    | 31, hk => exact Or.inr rfl
    | 32, hk => exact Or.inr rfl
    | 33, hk => exact Or.inr rfl
    | k + 34, hk => exact (False.elim hk))
set_option maxRecDepth 100000 in
set_option maxHeartbeats 4000000 in
theorem w_ro1 {A B : ST} {ad : AD} {G : GH} (hW : World A B ad G) {i0 j v : Nat} (hi : i0 < A 15 0) (hj : j < 6) : World (setA A 16 (6 * i0 + j) v) B ad (va_up G (ad 28 i0) (some (inA 6 (upd (rg A 16 (6 * i0) 6) j (nI v))))) := by
  have hc : inA 6 (upd (rg A 16 (6 * i0) 6) j (nI v)) = wC (setA A 16 (6 * i0 + j) v) B ad 28 i0 := by
    show _ = inA 6 (rg (setA A 16 (6 * i0 + j) v) 16 (6 * i0) 6)
    rw [rg_set_s hj]
  rw [hc]
  exact hW.put 28 i0 hi (fun k i hk => hk) (fun k i hk => by
    match k, hk with
    | 0, hk => exact Or.inr rfl
    | 1, hk => exact Or.inr rfl
    | 2, hk => exact Or.inr rfl
    | 3, hk => exact Or.inr rfl
    | 4, hk => exact Or.inr rfl
    | 5, hk => exact Or.inr rfl
    | 6, hk => exact Or.inr rfl
    | 7, hk => exact Or.inr rfl
    | 8, hk => exact Or.inr rfl
    | 9, hk => exact Or.inr rfl
    | 10, hk => exact Or.inr rfl
    | 11, hk => exact Or.inr rfl
    | 12, hk => exact Or.inr rfl
    | 13, hk => exact Or.inr rfl
    | 14, hk => exact Or.inr rfl
    | 15, hk => exact Or.inr rfl
    | 16, hk => exact Or.inr rfl
    | 17, hk => exact Or.inr rfl
    | 18, hk => exact Or.inr rfl
    | 19, hk => exact Or.inr rfl
    | 20, hk => exact Or.inr rfl
    | 21, hk => exact Or.inr rfl
    | 22, hk => exact Or.inr rfl
    | 23, hk => exact Or.inr rfl
    | 24, hk => exact Or.inr rfl
    | 25, hk => exact Or.inr rfl
    | 26, hk => exact Or.inr rfl
    | 27, hk => exact Or.inr rfl
    | 28, hk => exact (by
      by_cases h9 : i = i0
      · exact Or.inl ⟨rfl, h9⟩
      · exact Or.inr (by show inA 6 (rg (setA A 16 (6 * i0 + j) v) 16 (6 * i) 6) = inA 6 (rg A 16 (6 * i) 6); rw [rg_set_n (fun k hk => by omega)]))
    | 29, hk => exact Or.inr rfl
    | 30, hk => exact Or.inr rfl
    | 31, hk => exact Or.inr rfl
    | 32, hk => exact Or.inr rfl
    | 33, hk => exact Or.inr rfl
    | k + 34, hk => exact (False.elim hk))
set_option maxRecDepth 100000 in
set_option maxHeartbeats 4000000 in
theorem w_ro0 {A B : ST} {ad : AD} {G : GH} (hW : World A B ad G) {i0 n : Nat} (hi : i0 < A 15 0) : World (setA A 17 i0 n) B ad (va_up G (ad 27 i0) (some (ltC (ad 28 i0) n))) := by
  have hc : ltC (ad 28 i0) n = wC (setA A 17 i0 n) B ad 27 i0 := by
    show _ = ltC (ad 28 i0) (setA A 17 i0 n 17 i0)
    rw [setA_s]
  rw [hc]
  exact hW.put 27 i0 hi (fun k i hk => hk) (fun k i hk => by
    match k, hk with
    | 0, hk => exact Or.inr rfl
    | 1, hk => exact Or.inr rfl
    | 2, hk => exact Or.inr rfl
    | 3, hk => exact Or.inr rfl
    | 4, hk => exact Or.inr rfl
    | 5, hk => exact Or.inr rfl
    | 6, hk => exact Or.inr rfl
    | 7, hk => exact Or.inr rfl
    | 8, hk => exact Or.inr rfl
    | 9, hk => exact Or.inr rfl
    | 10, hk => exact Or.inr rfl
    | 11, hk => exact Or.inr rfl
    | 12, hk => exact Or.inr rfl
    | 13, hk => exact Or.inr rfl
    | 14, hk => exact Or.inr rfl
    | 15, hk => exact Or.inr rfl
    | 16, hk => exact Or.inr rfl
    | 17, hk => exact Or.inr rfl
    | 18, hk => exact Or.inr rfl
    | 19, hk => exact Or.inr rfl
    | 20, hk => exact Or.inr rfl
    | 21, hk => exact Or.inr rfl
    | 22, hk => exact Or.inr rfl
    | 23, hk => exact Or.inr rfl
    | 24, hk => exact Or.inr rfl
    | 25, hk => exact Or.inr rfl
    | 26, hk => exact Or.inr rfl
    | 27, hk => exact (by
      by_cases h9 : i = i0
      · exact Or.inl ⟨rfl, h9⟩
      · exact Or.inr (by show ltC (ad 28 i) (setA A 17 i0 n 17 i) = ltC (ad 28 i) (A 17 i); rw [setA_n h9]))
    | 28, hk => exact Or.inr rfl
    | 29, hk => exact Or.inr rfl
    | 30, hk => exact Or.inr rfl
    | 31, hk => exact Or.inr rfl
    | 32, hk => exact Or.inr rfl
    | 33, hk => exact Or.inr rfl
    | k + 34, hk => exact (False.elim hk))
set_option maxRecDepth 100000 in
set_option maxHeartbeats 4000000 in
theorem w_fi {A B : ST} {ad : AD} {G : GH} (hW : World A B ad G) {i0 j v : Nat} (hi : i0 < A 18 0) (hj : j < 5) : World (setA A 19 (5 * i0 + j) v) B ad (va_up G (ad 30 i0) (some (inA 5 (upd (rg A 19 (5 * i0) 5) j (nI v))))) := by
  have hc : inA 5 (upd (rg A 19 (5 * i0) 5) j (nI v)) = wC (setA A 19 (5 * i0 + j) v) B ad 30 i0 := by
    show _ = inA 5 (rg (setA A 19 (5 * i0 + j) v) 19 (5 * i0) 5)
    rw [rg_set_s hj]
  rw [hc]
  exact hW.put 30 i0 hi (fun k i hk => hk) (fun k i hk => by
    match k, hk with
    | 0, hk => exact Or.inr rfl
    | 1, hk => exact Or.inr rfl
    | 2, hk => exact Or.inr rfl
    | 3, hk => exact Or.inr rfl
    | 4, hk => exact Or.inr rfl
    | 5, hk => exact Or.inr rfl
    | 6, hk => exact Or.inr rfl
    | 7, hk => exact Or.inr rfl
    | 8, hk => exact Or.inr rfl
    | 9, hk => exact Or.inr rfl
    | 10, hk => exact Or.inr rfl
    | 11, hk => exact Or.inr rfl
    | 12, hk => exact Or.inr rfl
    | 13, hk => exact Or.inr rfl
    | 14, hk => exact Or.inr rfl
    | 15, hk => exact Or.inr rfl
    | 16, hk => exact Or.inr rfl
    | 17, hk => exact Or.inr rfl
    | 18, hk => exact Or.inr rfl
    | 19, hk => exact Or.inr rfl
    | 20, hk => exact Or.inr rfl
    | 21, hk => exact Or.inr rfl
    | 22, hk => exact Or.inr rfl
    | 23, hk => exact Or.inr rfl
    | 24, hk => exact Or.inr rfl
    | 25, hk => exact Or.inr rfl
    | 26, hk => exact Or.inr rfl
    | 27, hk => exact Or.inr rfl
    | 28, hk => exact Or.inr rfl
    | 29, hk => exact Or.inr rfl
    | 30, hk => exact (by
      by_cases h9 : i = i0
      · exact Or.inl ⟨rfl, h9⟩
      · exact Or.inr (by show inA 5 (rg (setA A 19 (5 * i0 + j) v) 19 (5 * i) 5) = inA 5 (rg A 19 (5 * i) 5); rw [rg_set_n (fun k hk => by omega)]))
    | 31, hk => exact Or.inr rfl
    | 32, hk => exact Or.inr rfl
    | 33, hk => exact Or.inr rfl
    | k + 34, hk => exact (False.elim hk))
set_option maxRecDepth 100000 in
set_option maxHeartbeats 4000000 in
theorem w_p2 {A B : ST} {ad : AD} {G : GH} (hW : World A B ad G) {c : Nat} (hlt : A 31 0 < 1014) : World (setA A 30 (A 31 0) c) B ad (va_up G (ad 13 0) (some (chA 1014 (upd (rg A 30 0 1014) (A 31 0) (nI c))))) := by
  have hc : chA 1014 (upd (rg A 30 0 1014) (A 31 0) (nI c)) = wC (setA A 30 (A 31 0) c) B ad 13 0 := by
    show _ = chA 1014 (rg (setA A 30 (A 31 0) c) 30 0 1014)
    have h9 := rg_set_s (A := A) (f := 30) (b := 0) (v := c) hlt
    rw [Nat.zero_add] at h9
    rw [h9]
  rw [hc]
  exact hW.put 13 0 rfl (fun k i hk => hk) (fun k i hk => by
    match k, hk with
    | 0, hk => exact Or.inr rfl
    | 1, hk => exact Or.inr rfl
    | 2, hk => exact Or.inr rfl
    | 3, hk => exact Or.inr rfl
    | 4, hk => exact Or.inr rfl
    | 5, hk => exact Or.inr rfl
    | 6, hk => exact Or.inr rfl
    | 7, hk => exact Or.inr rfl
    | 8, hk => exact Or.inr rfl
    | 9, hk => exact Or.inr rfl
    | 10, hk => exact Or.inr rfl
    | 11, hk => exact Or.inr rfl
    | 12, hk => exact Or.inr rfl
    | 13, hk => exact Or.inl ⟨rfl, hk⟩
    | 14, hk => exact Or.inr rfl
    | 15, hk => exact Or.inr rfl
    | 16, hk => exact Or.inr rfl
    | 17, hk => exact Or.inr rfl
    | 18, hk => exact Or.inr rfl
    | 19, hk => exact Or.inr rfl
    | 20, hk => exact Or.inr rfl
    | 21, hk => exact Or.inr rfl
    | 22, hk => exact Or.inr rfl
    | 23, hk => exact Or.inr rfl
    | 24, hk => exact Or.inr rfl
    | 25, hk => exact Or.inr rfl
    | 26, hk => exact Or.inr rfl
    | 27, hk => exact Or.inr rfl
    | 28, hk => exact Or.inr rfl
    | 29, hk => exact Or.inr rfl
    | 30, hk => exact Or.inr rfl
    | 31, hk => exact Or.inr rfl
    | 32, hk => exact Or.inr rfl
    | 33, hk => exact Or.inr rfl
    | k + 34, hk => exact (False.elim hk))
set_option maxRecDepth 100000 in
set_option maxHeartbeats 4000000 in
theorem w_p1 {A B : ST} {ad : AD} {G : GH} (hW : World A B ad G) (n : Nat) : World (setA A 31 0 n) B ad (va_up G (ad 12 0) (some (sgC (ad 13 0) n))) := by
  have hc : sgC (ad 13 0) n = wC (setA A 31 0 n) B ad 12 0 := rfl
  rw [hc]
  exact hW.put 12 0 rfl (fun k i hk => hk) (fun k i hk => by
    match k, hk with
    | 0, hk => exact Or.inr rfl
    | 1, hk => exact Or.inr rfl
    | 2, hk => exact Or.inr rfl
    | 3, hk => exact Or.inr rfl
    | 4, hk => exact Or.inr rfl
    | 5, hk => exact Or.inr rfl
    | 6, hk => exact Or.inr rfl
    | 7, hk => exact Or.inr rfl
    | 8, hk => exact Or.inr rfl
    | 9, hk => exact Or.inr rfl
    | 10, hk => exact Or.inr rfl
    | 11, hk => exact Or.inr rfl
    | 12, hk => exact Or.inl ⟨rfl, hk⟩
    | 13, hk => exact Or.inr rfl
    | 14, hk => exact Or.inr rfl
    | 15, hk => exact Or.inr rfl
    | 16, hk => exact Or.inr rfl
    | 17, hk => exact Or.inr rfl
    | 18, hk => exact Or.inr rfl
    | 19, hk => exact Or.inr rfl
    | 20, hk => exact Or.inr rfl
    | 21, hk => exact Or.inr rfl
    | 22, hk => exact Or.inr rfl
    | 23, hk => exact Or.inr rfl
    | 24, hk => exact Or.inr rfl
    | 25, hk => exact Or.inr rfl
    | 26, hk => exact Or.inr rfl
    | 27, hk => exact Or.inr rfl
    | 28, hk => exact Or.inr rfl
    | 29, hk => exact Or.inr rfl
    | 30, hk => exact Or.inr rfl
    | 31, hk => exact Or.inr rfl
    | 32, hk => exact Or.inr rfl
    | 33, hk => exact Or.inr rfl
    | k + 34, hk => exact (False.elim hk))
set_option maxRecDepth 100000 in
set_option maxHeartbeats 4000000 in
theorem w_p0 {A B : ST} {ad : AD} {G : GH} (hW : World A B ad G) (n : Nat) : World (setA A 32 0 n) B ad (va_up G (ad 11 0) (some (pgC (ad 12 0) (nI n)))) := by
  have hc : pgC (ad 12 0) (nI n) = wC (setA A 32 0 n) B ad 11 0 := rfl
  rw [hc]
  exact hW.put 11 0 rfl (fun k i hk => hk) (fun k i hk => by
    match k, hk with
    | 0, hk => exact Or.inr rfl
    | 1, hk => exact Or.inr rfl
    | 2, hk => exact Or.inr rfl
    | 3, hk => exact Or.inr rfl
    | 4, hk => exact Or.inr rfl
    | 5, hk => exact Or.inr rfl
    | 6, hk => exact Or.inr rfl
    | 7, hk => exact Or.inr rfl
    | 8, hk => exact Or.inr rfl
    | 9, hk => exact Or.inr rfl
    | 10, hk => exact Or.inr rfl
    | 11, hk => exact Or.inl ⟨rfl, hk⟩
    | 12, hk => exact Or.inr rfl
    | 13, hk => exact Or.inr rfl
    | 14, hk => exact Or.inr rfl
    | 15, hk => exact Or.inr rfl
    | 16, hk => exact Or.inr rfl
    | 17, hk => exact Or.inr rfl
    | 18, hk => exact Or.inr rfl
    | 19, hk => exact Or.inr rfl
    | 20, hk => exact Or.inr rfl
    | 21, hk => exact Or.inr rfl
    | 22, hk => exact Or.inr rfl
    | 23, hk => exact Or.inr rfl
    | 24, hk => exact Or.inr rfl
    | 25, hk => exact Or.inr rfl
    | 26, hk => exact Or.inr rfl
    | 27, hk => exact Or.inr rfl
    | 28, hk => exact Or.inr rfl
    | 29, hk => exact Or.inr rfl
    | 30, hk => exact Or.inr rfl
    | 31, hk => exact Or.inr rfl
    | 32, hk => exact Or.inr rfl
    | 33, hk => exact Or.inr rfl
    | k + 34, hk => exact (False.elim hk))
set_option maxRecDepth 100000 in
set_option maxHeartbeats 4000000 in
theorem w_sk {A B : ST} {ad : AD} {G : GH} (hW : World A B ad G) (x y z : Nat) : World (setA (setA (setA A 33 0 x) 34 0 y) 35 0 z) B ad (va_up G (ad 14 0) (some (.inr (4, [.int (nI x), .int (nI y), .int (nI z)])))) := by
  have hc : .inr (4, [.int (nI x), .int (nI y), .int (nI z)]) = wC (setA (setA (setA A 33 0 x) 34 0 y) 35 0 z) B ad 14 0 := rfl
  rw [hc]
  exact hW.put 14 0 rfl (fun k i hk => hk) (fun k i hk => by
    match k, hk with
    | 0, hk => exact Or.inr rfl
    | 1, hk => exact Or.inr rfl
    | 2, hk => exact Or.inr rfl
    | 3, hk => exact Or.inr rfl
    | 4, hk => exact Or.inr rfl
    | 5, hk => exact Or.inr rfl
    | 6, hk => exact Or.inr rfl
    | 7, hk => exact Or.inr rfl
    | 8, hk => exact Or.inr rfl
    | 9, hk => exact Or.inr rfl
    | 10, hk => exact Or.inr rfl
    | 11, hk => exact Or.inr rfl
    | 12, hk => exact Or.inr rfl
    | 13, hk => exact Or.inr rfl
    | 14, hk => exact Or.inl ⟨rfl, hk⟩
    | 15, hk => exact Or.inr rfl
    | 16, hk => exact Or.inr rfl
    | 17, hk => exact Or.inr rfl
    | 18, hk => exact Or.inr rfl
    | 19, hk => exact Or.inr rfl
    | 20, hk => exact Or.inr rfl
    | 21, hk => exact Or.inr rfl
    | 22, hk => exact Or.inr rfl
    | 23, hk => exact Or.inr rfl
    | 24, hk => exact Or.inr rfl
    | 25, hk => exact Or.inr rfl
    | 26, hk => exact Or.inr rfl
    | 27, hk => exact Or.inr rfl
    | 28, hk => exact Or.inr rfl
    | 29, hk => exact Or.inr rfl
    | 30, hk => exact Or.inr rfl
    | 31, hk => exact Or.inr rfl
    | 32, hk => exact Or.inr rfl
    | 33, hk => exact Or.inr rfl
    | k + 34, hk => exact (False.elim hk))
set_option maxRecDepth 100000 in
theorem mA_n {B : ST} {f j v : Nat} : ∀ {i : Nat}, i ≠ f → mA (setA B f j v) i = mA B i := by
  intro i h
  match i, h with
  | 1, h => show (.inl (.char, 60, .inl (rg (setA B f j v) 1 0 60)) : LC) = .inl (.char, 60, .inl (rg B 1 0 60)); rw [rg_set_f h]
  | 3, h => show (.inl (.char, 120, .inl (rg (setA B f j v) 3 0 120)) : LC) = .inl (.char, 120, .inl (rg B 3 0 120)); rw [rg_set_f h]
  | 4, h => show (.inl (.int, 12, .inl (rg (setA B f j v) 4 0 12)) : LC) = .inl (.int, 12, .inl (rg B 4 0 12)); rw [rg_set_f h]
  | 5, h => show (.inl (.char, 96, .inl (rg (setA B f j v) 5 0 96)) : LC) = .inl (.char, 96, .inl (rg B 5 0 96)); rw [rg_set_f h]
  | 6, h => show (.inl (.int, 24, .inl (rg (setA B f j v) 6 0 24)) : LC) = .inl (.int, 24, .inl (rg B 6 0 24)); rw [rg_set_f h]
  | 7, h => show (.inl (.char, 2880, .inl (rg (setA B f j v) 7 0 2880)) : LC) = .inl (.char, 2880, .inl (rg B 7 0 2880)); rw [rg_set_f h]
  | 8, h => show (.inl (.int, 288, .inl (rg (setA B f j v) 8 0 288)) : LC) = .inl (.int, 288, .inl (rg B 8 0 288)); rw [rg_set_f h]
  | 10, h => show (.inl (.int, 10, .inl (fun k => if k < 10 then nI (setA B f j v 10 k) - 1 else 0)) : LC) = .inl (.int, 10, .inl (fun k => if k < 10 then nI (B 10 k) - 1 else 0)); congr 4; funext k; rw [setA_f h]
  | 11, h => show (.inl (.char, 1800, .inl (rg (setA B f j v) 11 0 1800)) : LC) = .inl (.char, 1800, .inl (rg B 11 0 1800)); rw [rg_set_f h]
  | 12, h => show (.inl (.int, 30, .inl (rg (setA B f j v) 12 0 30)) : LC) = .inl (.int, 30, .inl (rg B 12 0 30)); rw [rg_set_f h]
  | 13, h => show (.inl (.boolean, 30, .inl (rg (setA B f j v) 13 0 30)) : LC) = .inl (.boolean, 30, .inl (rg B 13 0 30)); rw [rg_set_f h]
  | 14, h => show (.inl (.int, 400, .inl (rg (setA B f j v) 14 0 400)) : LC) = .inl (.int, 400, .inl (rg B 14 0 400)); rw [rg_set_f h]
  | 16, h => show (.inl (.int, 36, .inl (rg (setA B f j v) 16 0 36)) : LC) = .inl (.int, 36, .inl (rg B 16 0 36)); rw [rg_set_f h]
  | 17, h => show (.inl (.int, 6, .inl (rg (setA B f j v) 17 0 6)) : LC) = .inl (.int, 6, .inl (rg B 17 0 6)); rw [rg_set_f h]
  | 19, h => show (.inl (.int, 40, .inl (rg (setA B f j v) 19 0 40)) : LC) = .inl (.int, 40, .inl (rg B 19 0 40)); rw [rg_set_f h]
  | 20, h => show (.inl (.int, 8, .inl (rg (setA B f j v) 20 0 8)) : LC) = .inl (.int, 8, .inl (rg B 20 0 8)); rw [rg_set_f h]
  | 21, h => show (.inl (.int, 3, .inl (rg (setA B f j v) 21 0 3)) : LC) = .inl (.int, 3, .inl (rg B 21 0 3)); rw [rg_set_f h]
  | 22, h => show (.inl (.char, 1100, .inl (rg (setA B f j v) 22 0 1100)) : LC) = .inl (.char, 1100, .inl (rg B 22 0 1100)); rw [rg_set_f h]
  | 25, h => show (.inl (.boolean, 20, .inl (rg (setA B f j v) 25 0 20)) : LC) = .inl (.boolean, 20, .inl (rg B 25 0 20)); rw [rg_set_f h]
  | 0, h => rfl
  | 2, h => rfl
  | 9, h => rfl
  | 15, h => rfl
  | 18, h => rfl
  | 23, h => rfl
  | 24, h => rfl
  | i + 26, h => rfl
set_option maxRecDepth 100000 in
set_option maxHeartbeats 4000000 in
theorem m_s0 {A B : ST} {ad : AD} {G : GH} (hW : World A B ad G) (v : Nat) : World (A) (setA B 0 0 v) ad (va_up G (ad 31 0) (some (.inr (9, (mF B ad).set 0 (.int (nI v)))))) := by
  have hc : .inr (9, (mF B ad).set 0 (.int (nI v))) = wC (A) (setA B 0 0 v) ad 31 0 := rfl
  rw [hc]
  exact hW.put 31 0 rfl (fun k i hk => hk) (fun k i hk => by
    match k, hk with
    | 0, hk => exact Or.inr rfl
    | 1, hk => exact Or.inr rfl
    | 2, hk => exact Or.inr rfl
    | 3, hk => exact Or.inr rfl
    | 4, hk => exact Or.inr rfl
    | 5, hk => exact Or.inr rfl
    | 6, hk => exact Or.inr rfl
    | 7, hk => exact Or.inr rfl
    | 8, hk => exact Or.inr rfl
    | 9, hk => exact Or.inr rfl
    | 10, hk => exact Or.inr rfl
    | 11, hk => exact Or.inr rfl
    | 12, hk => exact Or.inr rfl
    | 13, hk => exact Or.inr rfl
    | 14, hk => exact Or.inr rfl
    | 15, hk => exact Or.inr rfl
    | 16, hk => exact Or.inr rfl
    | 17, hk => exact Or.inr rfl
    | 18, hk => exact Or.inr rfl
    | 19, hk => exact Or.inr rfl
    | 20, hk => exact Or.inr rfl
    | 21, hk => exact Or.inr rfl
    | 22, hk => exact Or.inr rfl
    | 23, hk => exact Or.inr rfl
    | 24, hk => exact Or.inr rfl
    | 25, hk => exact Or.inr rfl
    | 26, hk => exact Or.inr rfl
    | 27, hk => exact Or.inr rfl
    | 28, hk => exact Or.inr rfl
    | 29, hk => exact Or.inr rfl
    | 30, hk => exact Or.inr rfl
    | 31, hk => exact Or.inl ⟨rfl, hk⟩
    | 32, hk => exact Or.inr (mA_n (fun h9 => by
      have hm : mArr i = true := hk
      rw [h9] at hm; cases hm))
    | 33, hk => exact Or.inr rfl
    | k + 34, hk => exact (False.elim hk))
set_option maxRecDepth 100000 in
set_option maxHeartbeats 4000000 in
theorem m_s2 {A B : ST} {ad : AD} {G : GH} (hW : World A B ad G) (v : Nat) : World (A) (setA B 2 0 v) ad (va_up G (ad 31 0) (some (.inr (9, (mF B ad).set 2 (.int (nI v)))))) := by
  have hc : .inr (9, (mF B ad).set 2 (.int (nI v))) = wC (A) (setA B 2 0 v) ad 31 0 := rfl
  rw [hc]
  exact hW.put 31 0 rfl (fun k i hk => hk) (fun k i hk => by
    match k, hk with
    | 0, hk => exact Or.inr rfl
    | 1, hk => exact Or.inr rfl
    | 2, hk => exact Or.inr rfl
    | 3, hk => exact Or.inr rfl
    | 4, hk => exact Or.inr rfl
    | 5, hk => exact Or.inr rfl
    | 6, hk => exact Or.inr rfl
    | 7, hk => exact Or.inr rfl
    | 8, hk => exact Or.inr rfl
    | 9, hk => exact Or.inr rfl
    | 10, hk => exact Or.inr rfl
    | 11, hk => exact Or.inr rfl
    | 12, hk => exact Or.inr rfl
    | 13, hk => exact Or.inr rfl
    | 14, hk => exact Or.inr rfl
    | 15, hk => exact Or.inr rfl
    | 16, hk => exact Or.inr rfl
    | 17, hk => exact Or.inr rfl
    | 18, hk => exact Or.inr rfl
    | 19, hk => exact Or.inr rfl
    | 20, hk => exact Or.inr rfl
    | 21, hk => exact Or.inr rfl
    | 22, hk => exact Or.inr rfl
    | 23, hk => exact Or.inr rfl
    | 24, hk => exact Or.inr rfl
    | 25, hk => exact Or.inr rfl
    | 26, hk => exact Or.inr rfl
    | 27, hk => exact Or.inr rfl
    | 28, hk => exact Or.inr rfl
    | 29, hk => exact Or.inr rfl
    | 30, hk => exact Or.inr rfl
    | 31, hk => exact Or.inl ⟨rfl, hk⟩
    | 32, hk => exact Or.inr (mA_n (fun h9 => by
      have hm : mArr i = true := hk
      rw [h9] at hm; cases hm))
    | 33, hk => exact Or.inr rfl
    | k + 34, hk => exact (False.elim hk))
set_option maxRecDepth 100000 in
set_option maxHeartbeats 4000000 in
theorem m_s9 {A B : ST} {ad : AD} {G : GH} (hW : World A B ad G) (v : Nat) : World (A) (setA B 9 0 v) ad (va_up G (ad 31 0) (some (.inr (9, (mF B ad).set 9 (.int (nI v)))))) := by
  have hc : .inr (9, (mF B ad).set 9 (.int (nI v))) = wC (A) (setA B 9 0 v) ad 31 0 := rfl
  rw [hc]
  exact hW.put 31 0 rfl (fun k i hk => hk) (fun k i hk => by
    match k, hk with
    | 0, hk => exact Or.inr rfl
    | 1, hk => exact Or.inr rfl
    | 2, hk => exact Or.inr rfl
    | 3, hk => exact Or.inr rfl
    | 4, hk => exact Or.inr rfl
    | 5, hk => exact Or.inr rfl
    | 6, hk => exact Or.inr rfl
    | 7, hk => exact Or.inr rfl
    | 8, hk => exact Or.inr rfl
    | 9, hk => exact Or.inr rfl
    | 10, hk => exact Or.inr rfl
    | 11, hk => exact Or.inr rfl
    | 12, hk => exact Or.inr rfl
    | 13, hk => exact Or.inr rfl
    | 14, hk => exact Or.inr rfl
    | 15, hk => exact Or.inr rfl
    | 16, hk => exact Or.inr rfl
    | 17, hk => exact Or.inr rfl
    | 18, hk => exact Or.inr rfl
    | 19, hk => exact Or.inr rfl
    | 20, hk => exact Or.inr rfl
    | 21, hk => exact Or.inr rfl
    | 22, hk => exact Or.inr rfl
    | 23, hk => exact Or.inr rfl
    | 24, hk => exact Or.inr rfl
    | 25, hk => exact Or.inr rfl
    | 26, hk => exact Or.inr rfl
    | 27, hk => exact Or.inr rfl
    | 28, hk => exact Or.inr rfl
    | 29, hk => exact Or.inr rfl
    | 30, hk => exact Or.inr rfl
    | 31, hk => exact Or.inl ⟨rfl, hk⟩
    | 32, hk => exact Or.inr (mA_n (fun h9 => by
      have hm : mArr i = true := hk
      rw [h9] at hm; cases hm))
    | 33, hk => exact Or.inr rfl
    | k + 34, hk => exact (False.elim hk))
set_option maxRecDepth 100000 in
set_option maxHeartbeats 4000000 in
theorem m_s15 {A B : ST} {ad : AD} {G : GH} (hW : World A B ad G) (v : Nat) : World (A) (setA B 15 0 v) ad (va_up G (ad 31 0) (some (.inr (9, (mF B ad).set 15 (.int (nI v)))))) := by
  have hc : .inr (9, (mF B ad).set 15 (.int (nI v))) = wC (A) (setA B 15 0 v) ad 31 0 := rfl
  rw [hc]
  exact hW.put 31 0 rfl (fun k i hk => hk) (fun k i hk => by
    match k, hk with
    | 0, hk => exact Or.inr rfl
    | 1, hk => exact Or.inr rfl
    | 2, hk => exact Or.inr rfl
    | 3, hk => exact Or.inr rfl
    | 4, hk => exact Or.inr rfl
    | 5, hk => exact Or.inr rfl
    | 6, hk => exact Or.inr rfl
    | 7, hk => exact Or.inr rfl
    | 8, hk => exact Or.inr rfl
    | 9, hk => exact Or.inr rfl
    | 10, hk => exact Or.inr rfl
    | 11, hk => exact Or.inr rfl
    | 12, hk => exact Or.inr rfl
    | 13, hk => exact Or.inr rfl
    | 14, hk => exact Or.inr rfl
    | 15, hk => exact Or.inr rfl
    | 16, hk => exact Or.inr rfl
    | 17, hk => exact Or.inr rfl
    | 18, hk => exact Or.inr rfl
    | 19, hk => exact Or.inr rfl
    | 20, hk => exact Or.inr rfl
    | 21, hk => exact Or.inr rfl
    | 22, hk => exact Or.inr rfl
    | 23, hk => exact Or.inr rfl
    | 24, hk => exact Or.inr rfl
    | 25, hk => exact Or.inr rfl
    | 26, hk => exact Or.inr rfl
    | 27, hk => exact Or.inr rfl
    | 28, hk => exact Or.inr rfl
    | 29, hk => exact Or.inr rfl
    | 30, hk => exact Or.inr rfl
    | 31, hk => exact Or.inl ⟨rfl, hk⟩
    | 32, hk => exact Or.inr (mA_n (fun h9 => by
      have hm : mArr i = true := hk
      rw [h9] at hm; cases hm))
    | 33, hk => exact Or.inr rfl
    | k + 34, hk => exact (False.elim hk))
set_option maxRecDepth 100000 in
set_option maxHeartbeats 4000000 in
theorem m_s18 {A B : ST} {ad : AD} {G : GH} (hW : World A B ad G) (v : Nat) : World (A) (setA B 18 0 v) ad (va_up G (ad 31 0) (some (.inr (9, (mF B ad).set 18 (.int (nI v)))))) := by
  have hc : .inr (9, (mF B ad).set 18 (.int (nI v))) = wC (A) (setA B 18 0 v) ad 31 0 := rfl
  rw [hc]
  exact hW.put 31 0 rfl (fun k i hk => hk) (fun k i hk => by
    match k, hk with
    | 0, hk => exact Or.inr rfl
    | 1, hk => exact Or.inr rfl
    | 2, hk => exact Or.inr rfl
    | 3, hk => exact Or.inr rfl
    | 4, hk => exact Or.inr rfl
    | 5, hk => exact Or.inr rfl
    | 6, hk => exact Or.inr rfl
    | 7, hk => exact Or.inr rfl
    | 8, hk => exact Or.inr rfl
    | 9, hk => exact Or.inr rfl
    | 10, hk => exact Or.inr rfl
    | 11, hk => exact Or.inr rfl
    | 12, hk => exact Or.inr rfl
    | 13, hk => exact Or.inr rfl
    | 14, hk => exact Or.inr rfl
    | 15, hk => exact Or.inr rfl
    | 16, hk => exact Or.inr rfl
    | 17, hk => exact Or.inr rfl
    | 18, hk => exact Or.inr rfl
    | 19, hk => exact Or.inr rfl
    | 20, hk => exact Or.inr rfl
    | 21, hk => exact Or.inr rfl
    | 22, hk => exact Or.inr rfl
    | 23, hk => exact Or.inr rfl
    | 24, hk => exact Or.inr rfl
    | 25, hk => exact Or.inr rfl
    | 26, hk => exact Or.inr rfl
    | 27, hk => exact Or.inr rfl
    | 28, hk => exact Or.inr rfl
    | 29, hk => exact Or.inr rfl
    | 30, hk => exact Or.inr rfl
    | 31, hk => exact Or.inl ⟨rfl, hk⟩
    | 32, hk => exact Or.inr (mA_n (fun h9 => by
      have hm : mArr i = true := hk
      rw [h9] at hm; cases hm))
    | 33, hk => exact Or.inr rfl
    | k + 34, hk => exact (False.elim hk))
set_option maxRecDepth 100000 in
set_option maxHeartbeats 4000000 in
theorem m_s23 {A B : ST} {ad : AD} {G : GH} (hW : World A B ad G) (v : Nat) : World (A) (setA B 23 0 v) ad (va_up G (ad 31 0) (some (.inr (9, (mF B ad).set 23 (.int (nI v)))))) := by
  have hc : .inr (9, (mF B ad).set 23 (.int (nI v))) = wC (A) (setA B 23 0 v) ad 31 0 := rfl
  rw [hc]
  exact hW.put 31 0 rfl (fun k i hk => hk) (fun k i hk => by
    match k, hk with
    | 0, hk => exact Or.inr rfl
    | 1, hk => exact Or.inr rfl
    | 2, hk => exact Or.inr rfl
    | 3, hk => exact Or.inr rfl
    | 4, hk => exact Or.inr rfl
    | 5, hk => exact Or.inr rfl
    | 6, hk => exact Or.inr rfl
    | 7, hk => exact Or.inr rfl
    | 8, hk => exact Or.inr rfl
    | 9, hk => exact Or.inr rfl
    | 10, hk => exact Or.inr rfl
    | 11, hk => exact Or.inr rfl
    | 12, hk => exact Or.inr rfl
    | 13, hk => exact Or.inr rfl
    | 14, hk => exact Or.inr rfl
    | 15, hk => exact Or.inr rfl
    | 16, hk => exact Or.inr rfl
    | 17, hk => exact Or.inr rfl
    | 18, hk => exact Or.inr rfl
    | 19, hk => exact Or.inr rfl
    | 20, hk => exact Or.inr rfl
    | 21, hk => exact Or.inr rfl
    | 22, hk => exact Or.inr rfl
    | 23, hk => exact Or.inr rfl
    | 24, hk => exact Or.inr rfl
    | 25, hk => exact Or.inr rfl
    | 26, hk => exact Or.inr rfl
    | 27, hk => exact Or.inr rfl
    | 28, hk => exact Or.inr rfl
    | 29, hk => exact Or.inr rfl
    | 30, hk => exact Or.inr rfl
    | 31, hk => exact Or.inl ⟨rfl, hk⟩
    | 32, hk => exact Or.inr (mA_n (fun h9 => by
      have hm : mArr i = true := hk
      rw [h9] at hm; cases hm))
    | 33, hk => exact Or.inr rfl
    | k + 34, hk => exact (False.elim hk))
set_option maxRecDepth 100000 in
set_option maxHeartbeats 4000000 in
theorem m_s24 {A B : ST} {ad : AD} {G : GH} (hW : World A B ad G) (v : Nat) : World (A) (setA B 24 0 v) ad (va_up G (ad 31 0) (some (.inr (9, (mF B ad).set 24 (.int (nI v)))))) := by
  have hc : .inr (9, (mF B ad).set 24 (.int (nI v))) = wC (A) (setA B 24 0 v) ad 31 0 := rfl
  rw [hc]
  exact hW.put 31 0 rfl (fun k i hk => hk) (fun k i hk => by
    match k, hk with
    | 0, hk => exact Or.inr rfl
    | 1, hk => exact Or.inr rfl
    | 2, hk => exact Or.inr rfl
    | 3, hk => exact Or.inr rfl
    | 4, hk => exact Or.inr rfl
    | 5, hk => exact Or.inr rfl
    | 6, hk => exact Or.inr rfl
    | 7, hk => exact Or.inr rfl
    | 8, hk => exact Or.inr rfl
    | 9, hk => exact Or.inr rfl
    | 10, hk => exact Or.inr rfl
    | 11, hk => exact Or.inr rfl
    | 12, hk => exact Or.inr rfl
    | 13, hk => exact Or.inr rfl
    | 14, hk => exact Or.inr rfl
    | 15, hk => exact Or.inr rfl
    | 16, hk => exact Or.inr rfl
    | 17, hk => exact Or.inr rfl
    | 18, hk => exact Or.inr rfl
    | 19, hk => exact Or.inr rfl
    | 20, hk => exact Or.inr rfl
    | 21, hk => exact Or.inr rfl
    | 22, hk => exact Or.inr rfl
    | 23, hk => exact Or.inr rfl
    | 24, hk => exact Or.inr rfl
    | 25, hk => exact Or.inr rfl
    | 26, hk => exact Or.inr rfl
    | 27, hk => exact Or.inr rfl
    | 28, hk => exact Or.inr rfl
    | 29, hk => exact Or.inr rfl
    | 30, hk => exact Or.inr rfl
    | 31, hk => exact Or.inl ⟨rfl, hk⟩
    | 32, hk => exact Or.inr (mA_n (fun h9 => by
      have hm : mArr i = true := hk
      rw [h9] at hm; cases hm))
    | 33, hk => exact Or.inr rfl
    | k + 34, hk => exact (False.elim hk))
set_option maxRecDepth 100000 in
set_option maxHeartbeats 4000000 in
theorem m_s26 {A B : ST} {ad : AD} {G : GH} (hW : World A B ad G) (v : Nat) : World (A) (setA B 26 0 v) ad (va_up G (ad 31 0) (some (.inr (9, (mF B ad).set 26 (.int (nI v)))))) := by
  have hc : .inr (9, (mF B ad).set 26 (.int (nI v))) = wC (A) (setA B 26 0 v) ad 31 0 := rfl
  rw [hc]
  exact hW.put 31 0 rfl (fun k i hk => hk) (fun k i hk => by
    match k, hk with
    | 0, hk => exact Or.inr rfl
    | 1, hk => exact Or.inr rfl
    | 2, hk => exact Or.inr rfl
    | 3, hk => exact Or.inr rfl
    | 4, hk => exact Or.inr rfl
    | 5, hk => exact Or.inr rfl
    | 6, hk => exact Or.inr rfl
    | 7, hk => exact Or.inr rfl
    | 8, hk => exact Or.inr rfl
    | 9, hk => exact Or.inr rfl
    | 10, hk => exact Or.inr rfl
    | 11, hk => exact Or.inr rfl
    | 12, hk => exact Or.inr rfl
    | 13, hk => exact Or.inr rfl
    | 14, hk => exact Or.inr rfl
    | 15, hk => exact Or.inr rfl
    | 16, hk => exact Or.inr rfl
    | 17, hk => exact Or.inr rfl
    | 18, hk => exact Or.inr rfl
    | 19, hk => exact Or.inr rfl
    | 20, hk => exact Or.inr rfl
    | 21, hk => exact Or.inr rfl
    | 22, hk => exact Or.inr rfl
    | 23, hk => exact Or.inr rfl
    | 24, hk => exact Or.inr rfl
    | 25, hk => exact Or.inr rfl
    | 26, hk => exact Or.inr rfl
    | 27, hk => exact Or.inr rfl
    | 28, hk => exact Or.inr rfl
    | 29, hk => exact Or.inr rfl
    | 30, hk => exact Or.inr rfl
    | 31, hk => exact Or.inl ⟨rfl, hk⟩
    | 32, hk => exact Or.inr (mA_n (fun h9 => by
      have hm : mArr i = true := hk
      rw [h9] at hm; cases hm))
    | 33, hk => exact Or.inr rfl
    | k + 34, hk => exact (False.elim hk))
set_option maxRecDepth 100000 in
set_option maxHeartbeats 4000000 in
theorem m_a1 {A B : ST} {ad : AD} {G : GH} (hW : World A B ad G) {j v : Nat} (hj : j < 60) : World (A) (setA B 1 j v) ad (va_up G (ad 32 1) (some (.inl (.char, 60, .inl (upd (rg B 1 0 60) j (nI v)))))) := by
  have hc : .inl (.char, 60, .inl (upd (rg B 1 0 60) j (nI v))) = wC (A) (setA B 1 j v) ad 32 1 := by
    show _ = (.inl (.char, 60, .inl (rg (setA B 1 j v) 1 0 60)) : LC)
    have h9 := rg_set_s (A := B) (f := 1) (b := 0) (v := v) hj
    rw [Nat.zero_add] at h9
    rw [h9]
  rw [hc]
  exact hW.put 32 1 rfl (fun k i hk => hk) (fun k i hk => by
    match k, hk with
    | 0, hk => exact Or.inr rfl
    | 1, hk => exact Or.inr rfl
    | 2, hk => exact Or.inr rfl
    | 3, hk => exact Or.inr rfl
    | 4, hk => exact Or.inr rfl
    | 5, hk => exact Or.inr rfl
    | 6, hk => exact Or.inr rfl
    | 7, hk => exact Or.inr rfl
    | 8, hk => exact Or.inr rfl
    | 9, hk => exact Or.inr rfl
    | 10, hk => exact Or.inr rfl
    | 11, hk => exact Or.inr rfl
    | 12, hk => exact Or.inr rfl
    | 13, hk => exact Or.inr rfl
    | 14, hk => exact Or.inr rfl
    | 15, hk => exact Or.inr rfl
    | 16, hk => exact Or.inr rfl
    | 17, hk => exact Or.inr rfl
    | 18, hk => exact Or.inr rfl
    | 19, hk => exact Or.inr rfl
    | 20, hk => exact Or.inr rfl
    | 21, hk => exact Or.inr rfl
    | 22, hk => exact Or.inr rfl
    | 23, hk => exact Or.inr rfl
    | 24, hk => exact Or.inr rfl
    | 25, hk => exact Or.inr rfl
    | 26, hk => exact Or.inr rfl
    | 27, hk => exact Or.inr rfl
    | 28, hk => exact Or.inr rfl
    | 29, hk => exact Or.inr rfl
    | 30, hk => exact Or.inr rfl
    | 31, hk => exact Or.inr rfl
    | 32, hk => exact (by
      have hm : mArr i = true := hk
      by_cases h9 : i = 1
      · exact Or.inl ⟨rfl, h9⟩
      · refine Or.inr ?_
        show mA (setA B 1 j v) i = mA B i
        exact mA_n h9)
    | 33, hk => exact Or.inr rfl
    | k + 34, hk => exact (False.elim hk))
set_option maxRecDepth 100000 in
set_option maxHeartbeats 4000000 in
theorem m_a3 {A B : ST} {ad : AD} {G : GH} (hW : World A B ad G) {j v : Nat} (hj : j < 120) : World (A) (setA B 3 j v) ad (va_up G (ad 32 3) (some (.inl (.char, 120, .inl (upd (rg B 3 0 120) j (nI v)))))) := by
  have hc : .inl (.char, 120, .inl (upd (rg B 3 0 120) j (nI v))) = wC (A) (setA B 3 j v) ad 32 3 := by
    show _ = (.inl (.char, 120, .inl (rg (setA B 3 j v) 3 0 120)) : LC)
    have h9 := rg_set_s (A := B) (f := 3) (b := 0) (v := v) hj
    rw [Nat.zero_add] at h9
    rw [h9]
  rw [hc]
  exact hW.put 32 3 rfl (fun k i hk => hk) (fun k i hk => by
    match k, hk with
    | 0, hk => exact Or.inr rfl
    | 1, hk => exact Or.inr rfl
    | 2, hk => exact Or.inr rfl
    | 3, hk => exact Or.inr rfl
    | 4, hk => exact Or.inr rfl
    | 5, hk => exact Or.inr rfl
    | 6, hk => exact Or.inr rfl
    | 7, hk => exact Or.inr rfl
    | 8, hk => exact Or.inr rfl
    | 9, hk => exact Or.inr rfl
    | 10, hk => exact Or.inr rfl
    | 11, hk => exact Or.inr rfl
    | 12, hk => exact Or.inr rfl
    | 13, hk => exact Or.inr rfl
    | 14, hk => exact Or.inr rfl
    | 15, hk => exact Or.inr rfl
    | 16, hk => exact Or.inr rfl
    | 17, hk => exact Or.inr rfl
    | 18, hk => exact Or.inr rfl
    | 19, hk => exact Or.inr rfl
    | 20, hk => exact Or.inr rfl
    | 21, hk => exact Or.inr rfl
    | 22, hk => exact Or.inr rfl
    | 23, hk => exact Or.inr rfl
    | 24, hk => exact Or.inr rfl
    | 25, hk => exact Or.inr rfl
    | 26, hk => exact Or.inr rfl
    | 27, hk => exact Or.inr rfl
    | 28, hk => exact Or.inr rfl
    | 29, hk => exact Or.inr rfl
    | 30, hk => exact Or.inr rfl
    | 31, hk => exact Or.inr rfl
    | 32, hk => exact (by
      have hm : mArr i = true := hk
      by_cases h9 : i = 3
      · exact Or.inl ⟨rfl, h9⟩
      · refine Or.inr ?_
        show mA (setA B 3 j v) i = mA B i
        exact mA_n h9)
    | 33, hk => exact Or.inr rfl
    | k + 34, hk => exact (False.elim hk))
set_option maxRecDepth 100000 in
set_option maxHeartbeats 4000000 in
theorem m_a4 {A B : ST} {ad : AD} {G : GH} (hW : World A B ad G) {j v : Nat} (hj : j < 12) : World (A) (setA B 4 j v) ad (va_up G (ad 32 4) (some (.inl (.int, 12, .inl (upd (rg B 4 0 12) j (nI v)))))) := by
  have hc : .inl (.int, 12, .inl (upd (rg B 4 0 12) j (nI v))) = wC (A) (setA B 4 j v) ad 32 4 := by
    show _ = (.inl (.int, 12, .inl (rg (setA B 4 j v) 4 0 12)) : LC)
    have h9 := rg_set_s (A := B) (f := 4) (b := 0) (v := v) hj
    rw [Nat.zero_add] at h9
    rw [h9]
  rw [hc]
  exact hW.put 32 4 rfl (fun k i hk => hk) (fun k i hk => by
    match k, hk with
    | 0, hk => exact Or.inr rfl
    | 1, hk => exact Or.inr rfl
    | 2, hk => exact Or.inr rfl
    | 3, hk => exact Or.inr rfl
    | 4, hk => exact Or.inr rfl
    | 5, hk => exact Or.inr rfl
    | 6, hk => exact Or.inr rfl
    | 7, hk => exact Or.inr rfl
    | 8, hk => exact Or.inr rfl
    | 9, hk => exact Or.inr rfl
    | 10, hk => exact Or.inr rfl
    | 11, hk => exact Or.inr rfl
    | 12, hk => exact Or.inr rfl
    | 13, hk => exact Or.inr rfl
    | 14, hk => exact Or.inr rfl
    | 15, hk => exact Or.inr rfl
    | 16, hk => exact Or.inr rfl
    | 17, hk => exact Or.inr rfl
    | 18, hk => exact Or.inr rfl
    | 19, hk => exact Or.inr rfl
    | 20, hk => exact Or.inr rfl
    | 21, hk => exact Or.inr rfl
    | 22, hk => exact Or.inr rfl
    | 23, hk => exact Or.inr rfl
    | 24, hk => exact Or.inr rfl
    | 25, hk => exact Or.inr rfl
    | 26, hk => exact Or.inr rfl
    | 27, hk => exact Or.inr rfl
    | 28, hk => exact Or.inr rfl
    | 29, hk => exact Or.inr rfl
    | 30, hk => exact Or.inr rfl
    | 31, hk => exact Or.inr rfl
    | 32, hk => exact (by
      have hm : mArr i = true := hk
      by_cases h9 : i = 4
      · exact Or.inl ⟨rfl, h9⟩
      · refine Or.inr ?_
        show mA (setA B 4 j v) i = mA B i
        exact mA_n h9)
    | 33, hk => exact Or.inr rfl
    | k + 34, hk => exact (False.elim hk))
set_option maxRecDepth 100000 in
set_option maxHeartbeats 4000000 in
theorem m_a5 {A B : ST} {ad : AD} {G : GH} (hW : World A B ad G) {j v : Nat} (hj : j < 96) : World (A) (setA B 5 j v) ad (va_up G (ad 32 5) (some (.inl (.char, 96, .inl (upd (rg B 5 0 96) j (nI v)))))) := by
  have hc : .inl (.char, 96, .inl (upd (rg B 5 0 96) j (nI v))) = wC (A) (setA B 5 j v) ad 32 5 := by
    show _ = (.inl (.char, 96, .inl (rg (setA B 5 j v) 5 0 96)) : LC)
    have h9 := rg_set_s (A := B) (f := 5) (b := 0) (v := v) hj
    rw [Nat.zero_add] at h9
    rw [h9]
  rw [hc]
  exact hW.put 32 5 rfl (fun k i hk => hk) (fun k i hk => by
    match k, hk with
    | 0, hk => exact Or.inr rfl
    | 1, hk => exact Or.inr rfl
    | 2, hk => exact Or.inr rfl
    | 3, hk => exact Or.inr rfl
    | 4, hk => exact Or.inr rfl
    | 5, hk => exact Or.inr rfl
    | 6, hk => exact Or.inr rfl
    | 7, hk => exact Or.inr rfl
    | 8, hk => exact Or.inr rfl
    | 9, hk => exact Or.inr rfl
    | 10, hk => exact Or.inr rfl
    | 11, hk => exact Or.inr rfl
    | 12, hk => exact Or.inr rfl
    | 13, hk => exact Or.inr rfl
    | 14, hk => exact Or.inr rfl
    | 15, hk => exact Or.inr rfl
    | 16, hk => exact Or.inr rfl
    | 17, hk => exact Or.inr rfl
    | 18, hk => exact Or.inr rfl
    | 19, hk => exact Or.inr rfl
    | 20, hk => exact Or.inr rfl
    | 21, hk => exact Or.inr rfl
    | 22, hk => exact Or.inr rfl
    | 23, hk => exact Or.inr rfl
    | 24, hk => exact Or.inr rfl
    | 25, hk => exact Or.inr rfl
    | 26, hk => exact Or.inr rfl
    | 27, hk => exact Or.inr rfl
    | 28, hk => exact Or.inr rfl
    | 29, hk => exact Or.inr rfl
    | 30, hk => exact Or.inr rfl
    | 31, hk => exact Or.inr rfl
    | 32, hk => exact (by
      have hm : mArr i = true := hk
      by_cases h9 : i = 5
      · exact Or.inl ⟨rfl, h9⟩
      · refine Or.inr ?_
        show mA (setA B 5 j v) i = mA B i
        exact mA_n h9)
    | 33, hk => exact Or.inr rfl
    | k + 34, hk => exact (False.elim hk))
set_option maxRecDepth 100000 in
set_option maxHeartbeats 4000000 in
theorem m_a6 {A B : ST} {ad : AD} {G : GH} (hW : World A B ad G) {j v : Nat} (hj : j < 24) : World (A) (setA B 6 j v) ad (va_up G (ad 32 6) (some (.inl (.int, 24, .inl (upd (rg B 6 0 24) j (nI v)))))) := by
  have hc : .inl (.int, 24, .inl (upd (rg B 6 0 24) j (nI v))) = wC (A) (setA B 6 j v) ad 32 6 := by
    show _ = (.inl (.int, 24, .inl (rg (setA B 6 j v) 6 0 24)) : LC)
    have h9 := rg_set_s (A := B) (f := 6) (b := 0) (v := v) hj
    rw [Nat.zero_add] at h9
    rw [h9]
  rw [hc]
  exact hW.put 32 6 rfl (fun k i hk => hk) (fun k i hk => by
    match k, hk with
    | 0, hk => exact Or.inr rfl
    | 1, hk => exact Or.inr rfl
    | 2, hk => exact Or.inr rfl
    | 3, hk => exact Or.inr rfl
    | 4, hk => exact Or.inr rfl
    | 5, hk => exact Or.inr rfl
    | 6, hk => exact Or.inr rfl
    | 7, hk => exact Or.inr rfl
    | 8, hk => exact Or.inr rfl
    | 9, hk => exact Or.inr rfl
    | 10, hk => exact Or.inr rfl
    | 11, hk => exact Or.inr rfl
    | 12, hk => exact Or.inr rfl
    | 13, hk => exact Or.inr rfl
    | 14, hk => exact Or.inr rfl
    | 15, hk => exact Or.inr rfl
    | 16, hk => exact Or.inr rfl
    | 17, hk => exact Or.inr rfl
    | 18, hk => exact Or.inr rfl
    | 19, hk => exact Or.inr rfl
    | 20, hk => exact Or.inr rfl
    | 21, hk => exact Or.inr rfl
    | 22, hk => exact Or.inr rfl
    | 23, hk => exact Or.inr rfl
    | 24, hk => exact Or.inr rfl
    | 25, hk => exact Or.inr rfl
    | 26, hk => exact Or.inr rfl
    | 27, hk => exact Or.inr rfl
    | 28, hk => exact Or.inr rfl
    | 29, hk => exact Or.inr rfl
    | 30, hk => exact Or.inr rfl
    | 31, hk => exact Or.inr rfl
    | 32, hk => exact (by
      have hm : mArr i = true := hk
      by_cases h9 : i = 6
      · exact Or.inl ⟨rfl, h9⟩
      · refine Or.inr ?_
        show mA (setA B 6 j v) i = mA B i
        exact mA_n h9)
    | 33, hk => exact Or.inr rfl
    | k + 34, hk => exact (False.elim hk))
set_option maxRecDepth 100000 in
set_option maxHeartbeats 4000000 in
theorem m_a7 {A B : ST} {ad : AD} {G : GH} (hW : World A B ad G) {j v : Nat} (hj : j < 2880) : World (A) (setA B 7 j v) ad (va_up G (ad 32 7) (some (.inl (.char, 2880, .inl (upd (rg B 7 0 2880) j (nI v)))))) := by
  have hc : .inl (.char, 2880, .inl (upd (rg B 7 0 2880) j (nI v))) = wC (A) (setA B 7 j v) ad 32 7 := by
    show _ = (.inl (.char, 2880, .inl (rg (setA B 7 j v) 7 0 2880)) : LC)
    have h9 := rg_set_s (A := B) (f := 7) (b := 0) (v := v) hj
    rw [Nat.zero_add] at h9
    rw [h9]
  rw [hc]
  exact hW.put 32 7 rfl (fun k i hk => hk) (fun k i hk => by
    match k, hk with
    | 0, hk => exact Or.inr rfl
    | 1, hk => exact Or.inr rfl
    | 2, hk => exact Or.inr rfl
    | 3, hk => exact Or.inr rfl
    | 4, hk => exact Or.inr rfl
    | 5, hk => exact Or.inr rfl
    | 6, hk => exact Or.inr rfl
    | 7, hk => exact Or.inr rfl
    | 8, hk => exact Or.inr rfl
    | 9, hk => exact Or.inr rfl
    | 10, hk => exact Or.inr rfl
    | 11, hk => exact Or.inr rfl
    | 12, hk => exact Or.inr rfl
    | 13, hk => exact Or.inr rfl
    | 14, hk => exact Or.inr rfl
    | 15, hk => exact Or.inr rfl
    | 16, hk => exact Or.inr rfl
    | 17, hk => exact Or.inr rfl
    | 18, hk => exact Or.inr rfl
    | 19, hk => exact Or.inr rfl
    | 20, hk => exact Or.inr rfl
    | 21, hk => exact Or.inr rfl
    | 22, hk => exact Or.inr rfl
    | 23, hk => exact Or.inr rfl
    | 24, hk => exact Or.inr rfl
    | 25, hk => exact Or.inr rfl
    | 26, hk => exact Or.inr rfl
    | 27, hk => exact Or.inr rfl
    | 28, hk => exact Or.inr rfl
    | 29, hk => exact Or.inr rfl
    | 30, hk => exact Or.inr rfl
    | 31, hk => exact Or.inr rfl
    | 32, hk => exact (by
      have hm : mArr i = true := hk
      by_cases h9 : i = 7
      · exact Or.inl ⟨rfl, h9⟩
      · refine Or.inr ?_
        show mA (setA B 7 j v) i = mA B i
        exact mA_n h9)
    | 33, hk => exact Or.inr rfl
    | k + 34, hk => exact (False.elim hk))
set_option maxRecDepth 100000 in
set_option maxHeartbeats 4000000 in
theorem m_a8 {A B : ST} {ad : AD} {G : GH} (hW : World A B ad G) {j v : Nat} (hj : j < 288) : World (A) (setA B 8 j v) ad (va_up G (ad 32 8) (some (.inl (.int, 288, .inl (upd (rg B 8 0 288) j (nI v)))))) := by
  have hc : .inl (.int, 288, .inl (upd (rg B 8 0 288) j (nI v))) = wC (A) (setA B 8 j v) ad 32 8 := by
    show _ = (.inl (.int, 288, .inl (rg (setA B 8 j v) 8 0 288)) : LC)
    have h9 := rg_set_s (A := B) (f := 8) (b := 0) (v := v) hj
    rw [Nat.zero_add] at h9
    rw [h9]
  rw [hc]
  exact hW.put 32 8 rfl (fun k i hk => hk) (fun k i hk => by
    match k, hk with
    | 0, hk => exact Or.inr rfl
    | 1, hk => exact Or.inr rfl
    | 2, hk => exact Or.inr rfl
    | 3, hk => exact Or.inr rfl
    | 4, hk => exact Or.inr rfl
    | 5, hk => exact Or.inr rfl
    | 6, hk => exact Or.inr rfl
    | 7, hk => exact Or.inr rfl
    | 8, hk => exact Or.inr rfl
    | 9, hk => exact Or.inr rfl
    | 10, hk => exact Or.inr rfl
    | 11, hk => exact Or.inr rfl
    | 12, hk => exact Or.inr rfl
    | 13, hk => exact Or.inr rfl
    | 14, hk => exact Or.inr rfl
    | 15, hk => exact Or.inr rfl
    | 16, hk => exact Or.inr rfl
    | 17, hk => exact Or.inr rfl
    | 18, hk => exact Or.inr rfl
    | 19, hk => exact Or.inr rfl
    | 20, hk => exact Or.inr rfl
    | 21, hk => exact Or.inr rfl
    | 22, hk => exact Or.inr rfl
    | 23, hk => exact Or.inr rfl
    | 24, hk => exact Or.inr rfl
    | 25, hk => exact Or.inr rfl
    | 26, hk => exact Or.inr rfl
    | 27, hk => exact Or.inr rfl
    | 28, hk => exact Or.inr rfl
    | 29, hk => exact Or.inr rfl
    | 30, hk => exact Or.inr rfl
    | 31, hk => exact Or.inr rfl
    | 32, hk => exact (by
      have hm : mArr i = true := hk
      by_cases h9 : i = 8
      · exact Or.inl ⟨rfl, h9⟩
      · refine Or.inr ?_
        show mA (setA B 8 j v) i = mA B i
        exact mA_n h9)
    | 33, hk => exact Or.inr rfl
    | k + 34, hk => exact (False.elim hk))
set_option maxRecDepth 100000 in
set_option maxHeartbeats 4000000 in
theorem m_a10 {A B : ST} {ad : AD} {G : GH} (hW : World A B ad G) {j v : Nat} (hj : j < 10) : World (A) (setA B 10 j v) ad (va_up G (ad 32 10) (some (.inl (.int, 10, .inl (upd (fun k => if k < 10 then nI (B 10 k) - 1 else 0) j (nI v - 1)))))) := by
  have hc : .inl (.int, 10, .inl (upd (fun k => if k < 10 then nI (B 10 k) - 1 else 0) j (nI v - 1))) = wC (A) (setA B 10 j v) ad 32 10 := by
    show _ = (.inl (.int, 10, .inl (fun k => if k < 10 then nI (setA B 10 j v 10 k) - 1 else 0)) : LC)
    congr 4
    funext k
    dsimp only [upd]
    by_cases h9 : k = j
    · rw [if_pos h9, if_pos (by omega), h9, setA_s]
    · rw [if_neg h9]
      by_cases hk : k < 10
      · rw [if_pos hk, if_pos hk, setA_n h9]
      · rw [if_neg hk, if_neg hk]
  rw [hc]
  exact hW.put 32 10 rfl (fun k i hk => hk) (fun k i hk => by
    match k, hk with
    | 0, hk => exact Or.inr rfl
    | 1, hk => exact Or.inr rfl
    | 2, hk => exact Or.inr rfl
    | 3, hk => exact Or.inr rfl
    | 4, hk => exact Or.inr rfl
    | 5, hk => exact Or.inr rfl
    | 6, hk => exact Or.inr rfl
    | 7, hk => exact Or.inr rfl
    | 8, hk => exact Or.inr rfl
    | 9, hk => exact Or.inr rfl
    | 10, hk => exact Or.inr rfl
    | 11, hk => exact Or.inr rfl
    | 12, hk => exact Or.inr rfl
    | 13, hk => exact Or.inr rfl
    | 14, hk => exact Or.inr rfl
    | 15, hk => exact Or.inr rfl
    | 16, hk => exact Or.inr rfl
    | 17, hk => exact Or.inr rfl
    | 18, hk => exact Or.inr rfl
    | 19, hk => exact Or.inr rfl
    | 20, hk => exact Or.inr rfl
    | 21, hk => exact Or.inr rfl
    | 22, hk => exact Or.inr rfl
    | 23, hk => exact Or.inr rfl
    | 24, hk => exact Or.inr rfl
    | 25, hk => exact Or.inr rfl
    | 26, hk => exact Or.inr rfl
    | 27, hk => exact Or.inr rfl
    | 28, hk => exact Or.inr rfl
    | 29, hk => exact Or.inr rfl
    | 30, hk => exact Or.inr rfl
    | 31, hk => exact Or.inr rfl
    | 32, hk => exact (by
      have hm : mArr i = true := hk
      by_cases h9 : i = 10
      · exact Or.inl ⟨rfl, h9⟩
      · refine Or.inr ?_
        show mA (setA B 10 j v) i = mA B i
        exact mA_n h9)
    | 33, hk => exact Or.inr rfl
    | k + 34, hk => exact (False.elim hk))
set_option maxRecDepth 100000 in
set_option maxHeartbeats 4000000 in
theorem m_a11 {A B : ST} {ad : AD} {G : GH} (hW : World A B ad G) {j v : Nat} (hj : j < 1800) : World (A) (setA B 11 j v) ad (va_up G (ad 32 11) (some (.inl (.char, 1800, .inl (upd (rg B 11 0 1800) j (nI v)))))) := by
  have hc : .inl (.char, 1800, .inl (upd (rg B 11 0 1800) j (nI v))) = wC (A) (setA B 11 j v) ad 32 11 := by
    show _ = (.inl (.char, 1800, .inl (rg (setA B 11 j v) 11 0 1800)) : LC)
    have h9 := rg_set_s (A := B) (f := 11) (b := 0) (v := v) hj
    rw [Nat.zero_add] at h9
    rw [h9]
  rw [hc]
  exact hW.put 32 11 rfl (fun k i hk => hk) (fun k i hk => by
    match k, hk with
    | 0, hk => exact Or.inr rfl
    | 1, hk => exact Or.inr rfl
    | 2, hk => exact Or.inr rfl
    | 3, hk => exact Or.inr rfl
    | 4, hk => exact Or.inr rfl
    | 5, hk => exact Or.inr rfl
    | 6, hk => exact Or.inr rfl
    | 7, hk => exact Or.inr rfl
    | 8, hk => exact Or.inr rfl
    | 9, hk => exact Or.inr rfl
    | 10, hk => exact Or.inr rfl
    | 11, hk => exact Or.inr rfl
    | 12, hk => exact Or.inr rfl
    | 13, hk => exact Or.inr rfl
    | 14, hk => exact Or.inr rfl
    | 15, hk => exact Or.inr rfl
    | 16, hk => exact Or.inr rfl
    | 17, hk => exact Or.inr rfl
    | 18, hk => exact Or.inr rfl
    | 19, hk => exact Or.inr rfl
    | 20, hk => exact Or.inr rfl
    | 21, hk => exact Or.inr rfl
    | 22, hk => exact Or.inr rfl
    | 23, hk => exact Or.inr rfl
    | 24, hk => exact Or.inr rfl
    | 25, hk => exact Or.inr rfl
    | 26, hk => exact Or.inr rfl
    | 27, hk => exact Or.inr rfl
    | 28, hk => exact Or.inr rfl
    | 29, hk => exact Or.inr rfl
    | 30, hk => exact Or.inr rfl
    | 31, hk => exact Or.inr rfl
    | 32, hk => exact (by
      have hm : mArr i = true := hk
      by_cases h9 : i = 11
      · exact Or.inl ⟨rfl, h9⟩
      · refine Or.inr ?_
        show mA (setA B 11 j v) i = mA B i
        exact mA_n h9)
    | 33, hk => exact Or.inr rfl
    | k + 34, hk => exact (False.elim hk))
set_option maxRecDepth 100000 in
set_option maxHeartbeats 4000000 in
theorem m_a12 {A B : ST} {ad : AD} {G : GH} (hW : World A B ad G) {j v : Nat} (hj : j < 30) : World (A) (setA B 12 j v) ad (va_up G (ad 32 12) (some (.inl (.int, 30, .inl (upd (rg B 12 0 30) j (nI v)))))) := by
  have hc : .inl (.int, 30, .inl (upd (rg B 12 0 30) j (nI v))) = wC (A) (setA B 12 j v) ad 32 12 := by
    show _ = (.inl (.int, 30, .inl (rg (setA B 12 j v) 12 0 30)) : LC)
    have h9 := rg_set_s (A := B) (f := 12) (b := 0) (v := v) hj
    rw [Nat.zero_add] at h9
    rw [h9]
  rw [hc]
  exact hW.put 32 12 rfl (fun k i hk => hk) (fun k i hk => by
    match k, hk with
    | 0, hk => exact Or.inr rfl
    | 1, hk => exact Or.inr rfl
    | 2, hk => exact Or.inr rfl
    | 3, hk => exact Or.inr rfl
    | 4, hk => exact Or.inr rfl
    | 5, hk => exact Or.inr rfl
    | 6, hk => exact Or.inr rfl
    | 7, hk => exact Or.inr rfl
    | 8, hk => exact Or.inr rfl
    | 9, hk => exact Or.inr rfl
    | 10, hk => exact Or.inr rfl
    | 11, hk => exact Or.inr rfl
    | 12, hk => exact Or.inr rfl
    | 13, hk => exact Or.inr rfl
    | 14, hk => exact Or.inr rfl
    | 15, hk => exact Or.inr rfl
    | 16, hk => exact Or.inr rfl
    | 17, hk => exact Or.inr rfl
    | 18, hk => exact Or.inr rfl
    | 19, hk => exact Or.inr rfl
    | 20, hk => exact Or.inr rfl
    | 21, hk => exact Or.inr rfl
    | 22, hk => exact Or.inr rfl
    | 23, hk => exact Or.inr rfl
    | 24, hk => exact Or.inr rfl
    | 25, hk => exact Or.inr rfl
    | 26, hk => exact Or.inr rfl
    | 27, hk => exact Or.inr rfl
    | 28, hk => exact Or.inr rfl
    | 29, hk => exact Or.inr rfl
    | 30, hk => exact Or.inr rfl
    | 31, hk => exact Or.inr rfl
    | 32, hk => exact (by
      have hm : mArr i = true := hk
      by_cases h9 : i = 12
      · exact Or.inl ⟨rfl, h9⟩
      · refine Or.inr ?_
        show mA (setA B 12 j v) i = mA B i
        exact mA_n h9)
    | 33, hk => exact Or.inr rfl
    | k + 34, hk => exact (False.elim hk))
set_option maxRecDepth 100000 in
set_option maxHeartbeats 4000000 in
theorem m_a13 {A B : ST} {ad : AD} {G : GH} (hW : World A B ad G) {j v : Nat} (hj : j < 30) : World (A) (setA B 13 j v) ad (va_up G (ad 32 13) (some (.inl (.boolean, 30, .inl (upd (rg B 13 0 30) j (nI v)))))) := by
  have hc : .inl (.boolean, 30, .inl (upd (rg B 13 0 30) j (nI v))) = wC (A) (setA B 13 j v) ad 32 13 := by
    show _ = (.inl (.boolean, 30, .inl (rg (setA B 13 j v) 13 0 30)) : LC)
    have h9 := rg_set_s (A := B) (f := 13) (b := 0) (v := v) hj
    rw [Nat.zero_add] at h9
    rw [h9]
  rw [hc]
  exact hW.put 32 13 rfl (fun k i hk => hk) (fun k i hk => by
    match k, hk with
    | 0, hk => exact Or.inr rfl
    | 1, hk => exact Or.inr rfl
    | 2, hk => exact Or.inr rfl
    | 3, hk => exact Or.inr rfl
    | 4, hk => exact Or.inr rfl
    | 5, hk => exact Or.inr rfl
    | 6, hk => exact Or.inr rfl
    | 7, hk => exact Or.inr rfl
    | 8, hk => exact Or.inr rfl
    | 9, hk => exact Or.inr rfl
    | 10, hk => exact Or.inr rfl
    | 11, hk => exact Or.inr rfl
    | 12, hk => exact Or.inr rfl
    | 13, hk => exact Or.inr rfl
    | 14, hk => exact Or.inr rfl
    | 15, hk => exact Or.inr rfl
    | 16, hk => exact Or.inr rfl
    | 17, hk => exact Or.inr rfl
    | 18, hk => exact Or.inr rfl
    | 19, hk => exact Or.inr rfl
    | 20, hk => exact Or.inr rfl
    | 21, hk => exact Or.inr rfl
    | 22, hk => exact Or.inr rfl
    | 23, hk => exact Or.inr rfl
    | 24, hk => exact Or.inr rfl
    | 25, hk => exact Or.inr rfl
    | 26, hk => exact Or.inr rfl
    | 27, hk => exact Or.inr rfl
    | 28, hk => exact Or.inr rfl
    | 29, hk => exact Or.inr rfl
    | 30, hk => exact Or.inr rfl
    | 31, hk => exact Or.inr rfl
    | 32, hk => exact (by
      have hm : mArr i = true := hk
      by_cases h9 : i = 13
      · exact Or.inl ⟨rfl, h9⟩
      · refine Or.inr ?_
        show mA (setA B 13 j v) i = mA B i
        exact mA_n h9)
    | 33, hk => exact Or.inr rfl
    | k + 34, hk => exact (False.elim hk))
set_option maxRecDepth 100000 in
set_option maxHeartbeats 4000000 in
theorem m_a14 {A B : ST} {ad : AD} {G : GH} (hW : World A B ad G) {j v : Nat} (hj : j < 400) : World (A) (setA B 14 j v) ad (va_up G (ad 32 14) (some (.inl (.int, 400, .inl (upd (rg B 14 0 400) j (nI v)))))) := by
  have hc : .inl (.int, 400, .inl (upd (rg B 14 0 400) j (nI v))) = wC (A) (setA B 14 j v) ad 32 14 := by
    show _ = (.inl (.int, 400, .inl (rg (setA B 14 j v) 14 0 400)) : LC)
    have h9 := rg_set_s (A := B) (f := 14) (b := 0) (v := v) hj
    rw [Nat.zero_add] at h9
    rw [h9]
  rw [hc]
  exact hW.put 32 14 rfl (fun k i hk => hk) (fun k i hk => by
    match k, hk with
    | 0, hk => exact Or.inr rfl
    | 1, hk => exact Or.inr rfl
    | 2, hk => exact Or.inr rfl
    | 3, hk => exact Or.inr rfl
    | 4, hk => exact Or.inr rfl
    | 5, hk => exact Or.inr rfl
    | 6, hk => exact Or.inr rfl
    | 7, hk => exact Or.inr rfl
    | 8, hk => exact Or.inr rfl
    | 9, hk => exact Or.inr rfl
    | 10, hk => exact Or.inr rfl
    | 11, hk => exact Or.inr rfl
    | 12, hk => exact Or.inr rfl
    | 13, hk => exact Or.inr rfl
    | 14, hk => exact Or.inr rfl
    | 15, hk => exact Or.inr rfl
    | 16, hk => exact Or.inr rfl
    | 17, hk => exact Or.inr rfl
    | 18, hk => exact Or.inr rfl
    | 19, hk => exact Or.inr rfl
    | 20, hk => exact Or.inr rfl
    | 21, hk => exact Or.inr rfl
    | 22, hk => exact Or.inr rfl
    | 23, hk => exact Or.inr rfl
    | 24, hk => exact Or.inr rfl
    | 25, hk => exact Or.inr rfl
    | 26, hk => exact Or.inr rfl
    | 27, hk => exact Or.inr rfl
    | 28, hk => exact Or.inr rfl
    | 29, hk => exact Or.inr rfl
    | 30, hk => exact Or.inr rfl
    | 31, hk => exact Or.inr rfl
    | 32, hk => exact (by
      have hm : mArr i = true := hk
      by_cases h9 : i = 14
      · exact Or.inl ⟨rfl, h9⟩
      · refine Or.inr ?_
        show mA (setA B 14 j v) i = mA B i
        exact mA_n h9)
    | 33, hk => exact Or.inr rfl
    | k + 34, hk => exact (False.elim hk))
set_option maxRecDepth 100000 in
set_option maxHeartbeats 4000000 in
theorem m_a16 {A B : ST} {ad : AD} {G : GH} (hW : World A B ad G) {j v : Nat} (hj : j < 36) : World (A) (setA B 16 j v) ad (va_up G (ad 32 16) (some (.inl (.int, 36, .inl (upd (rg B 16 0 36) j (nI v)))))) := by
  have hc : .inl (.int, 36, .inl (upd (rg B 16 0 36) j (nI v))) = wC (A) (setA B 16 j v) ad 32 16 := by
    show _ = (.inl (.int, 36, .inl (rg (setA B 16 j v) 16 0 36)) : LC)
    have h9 := rg_set_s (A := B) (f := 16) (b := 0) (v := v) hj
    rw [Nat.zero_add] at h9
    rw [h9]
  rw [hc]
  exact hW.put 32 16 rfl (fun k i hk => hk) (fun k i hk => by
    match k, hk with
    | 0, hk => exact Or.inr rfl
    | 1, hk => exact Or.inr rfl
    | 2, hk => exact Or.inr rfl
    | 3, hk => exact Or.inr rfl
    | 4, hk => exact Or.inr rfl
    | 5, hk => exact Or.inr rfl
    | 6, hk => exact Or.inr rfl
    | 7, hk => exact Or.inr rfl
    | 8, hk => exact Or.inr rfl
    | 9, hk => exact Or.inr rfl
    | 10, hk => exact Or.inr rfl
    | 11, hk => exact Or.inr rfl
    | 12, hk => exact Or.inr rfl
    | 13, hk => exact Or.inr rfl
    | 14, hk => exact Or.inr rfl
    | 15, hk => exact Or.inr rfl
    | 16, hk => exact Or.inr rfl
    | 17, hk => exact Or.inr rfl
    | 18, hk => exact Or.inr rfl
    | 19, hk => exact Or.inr rfl
    | 20, hk => exact Or.inr rfl
    | 21, hk => exact Or.inr rfl
    | 22, hk => exact Or.inr rfl
    | 23, hk => exact Or.inr rfl
    | 24, hk => exact Or.inr rfl
    | 25, hk => exact Or.inr rfl
    | 26, hk => exact Or.inr rfl
    | 27, hk => exact Or.inr rfl
    | 28, hk => exact Or.inr rfl
    | 29, hk => exact Or.inr rfl
    | 30, hk => exact Or.inr rfl
    | 31, hk => exact Or.inr rfl
    | 32, hk => exact (by
      have hm : mArr i = true := hk
      by_cases h9 : i = 16
      · exact Or.inl ⟨rfl, h9⟩
      · refine Or.inr ?_
        show mA (setA B 16 j v) i = mA B i
        exact mA_n h9)
    | 33, hk => exact Or.inr rfl
    | k + 34, hk => exact (False.elim hk))
set_option maxRecDepth 100000 in
set_option maxHeartbeats 4000000 in
theorem m_a17 {A B : ST} {ad : AD} {G : GH} (hW : World A B ad G) {j v : Nat} (hj : j < 6) : World (A) (setA B 17 j v) ad (va_up G (ad 32 17) (some (.inl (.int, 6, .inl (upd (rg B 17 0 6) j (nI v)))))) := by
  have hc : .inl (.int, 6, .inl (upd (rg B 17 0 6) j (nI v))) = wC (A) (setA B 17 j v) ad 32 17 := by
    show _ = (.inl (.int, 6, .inl (rg (setA B 17 j v) 17 0 6)) : LC)
    have h9 := rg_set_s (A := B) (f := 17) (b := 0) (v := v) hj
    rw [Nat.zero_add] at h9
    rw [h9]
  rw [hc]
  exact hW.put 32 17 rfl (fun k i hk => hk) (fun k i hk => by
    match k, hk with
    | 0, hk => exact Or.inr rfl
    | 1, hk => exact Or.inr rfl
    | 2, hk => exact Or.inr rfl
    | 3, hk => exact Or.inr rfl
    | 4, hk => exact Or.inr rfl
    | 5, hk => exact Or.inr rfl
    | 6, hk => exact Or.inr rfl
    | 7, hk => exact Or.inr rfl
    | 8, hk => exact Or.inr rfl
    | 9, hk => exact Or.inr rfl
    | 10, hk => exact Or.inr rfl
    | 11, hk => exact Or.inr rfl
    | 12, hk => exact Or.inr rfl
    | 13, hk => exact Or.inr rfl
    | 14, hk => exact Or.inr rfl
    | 15, hk => exact Or.inr rfl
    | 16, hk => exact Or.inr rfl
    | 17, hk => exact Or.inr rfl
    | 18, hk => exact Or.inr rfl
    | 19, hk => exact Or.inr rfl
    | 20, hk => exact Or.inr rfl
    | 21, hk => exact Or.inr rfl
    | 22, hk => exact Or.inr rfl
    | 23, hk => exact Or.inr rfl
    | 24, hk => exact Or.inr rfl
    | 25, hk => exact Or.inr rfl
    | 26, hk => exact Or.inr rfl
    | 27, hk => exact Or.inr rfl
    | 28, hk => exact Or.inr rfl
    | 29, hk => exact Or.inr rfl
    | 30, hk => exact Or.inr rfl
    | 31, hk => exact Or.inr rfl
    | 32, hk => exact (by
      have hm : mArr i = true := hk
      by_cases h9 : i = 17
      · exact Or.inl ⟨rfl, h9⟩
      · refine Or.inr ?_
        show mA (setA B 17 j v) i = mA B i
        exact mA_n h9)
    | 33, hk => exact Or.inr rfl
    | k + 34, hk => exact (False.elim hk))
set_option maxRecDepth 100000 in
set_option maxHeartbeats 4000000 in
theorem m_a19 {A B : ST} {ad : AD} {G : GH} (hW : World A B ad G) {j v : Nat} (hj : j < 40) : World (A) (setA B 19 j v) ad (va_up G (ad 32 19) (some (.inl (.int, 40, .inl (upd (rg B 19 0 40) j (nI v)))))) := by
  have hc : .inl (.int, 40, .inl (upd (rg B 19 0 40) j (nI v))) = wC (A) (setA B 19 j v) ad 32 19 := by
    show _ = (.inl (.int, 40, .inl (rg (setA B 19 j v) 19 0 40)) : LC)
    have h9 := rg_set_s (A := B) (f := 19) (b := 0) (v := v) hj
    rw [Nat.zero_add] at h9
    rw [h9]
  rw [hc]
  exact hW.put 32 19 rfl (fun k i hk => hk) (fun k i hk => by
    match k, hk with
    | 0, hk => exact Or.inr rfl
    | 1, hk => exact Or.inr rfl
    | 2, hk => exact Or.inr rfl
    | 3, hk => exact Or.inr rfl
    | 4, hk => exact Or.inr rfl
    | 5, hk => exact Or.inr rfl
    | 6, hk => exact Or.inr rfl
    | 7, hk => exact Or.inr rfl
    | 8, hk => exact Or.inr rfl
    | 9, hk => exact Or.inr rfl
    | 10, hk => exact Or.inr rfl
    | 11, hk => exact Or.inr rfl
    | 12, hk => exact Or.inr rfl
    | 13, hk => exact Or.inr rfl
    | 14, hk => exact Or.inr rfl
    | 15, hk => exact Or.inr rfl
    | 16, hk => exact Or.inr rfl
    | 17, hk => exact Or.inr rfl
    | 18, hk => exact Or.inr rfl
    | 19, hk => exact Or.inr rfl
    | 20, hk => exact Or.inr rfl
    | 21, hk => exact Or.inr rfl
    | 22, hk => exact Or.inr rfl
    | 23, hk => exact Or.inr rfl
    | 24, hk => exact Or.inr rfl
    | 25, hk => exact Or.inr rfl
    | 26, hk => exact Or.inr rfl
    | 27, hk => exact Or.inr rfl
    | 28, hk => exact Or.inr rfl
    | 29, hk => exact Or.inr rfl
    | 30, hk => exact Or.inr rfl
    | 31, hk => exact Or.inr rfl
    | 32, hk => exact (by
      have hm : mArr i = true := hk
      by_cases h9 : i = 19
      · exact Or.inl ⟨rfl, h9⟩
      · refine Or.inr ?_
        show mA (setA B 19 j v) i = mA B i
        exact mA_n h9)
    | 33, hk => exact Or.inr rfl
    | k + 34, hk => exact (False.elim hk))
set_option maxRecDepth 100000 in
set_option maxHeartbeats 4000000 in
theorem m_a20 {A B : ST} {ad : AD} {G : GH} (hW : World A B ad G) {j v : Nat} (hj : j < 8) : World (A) (setA B 20 j v) ad (va_up G (ad 32 20) (some (.inl (.int, 8, .inl (upd (rg B 20 0 8) j (nI v)))))) := by
  have hc : .inl (.int, 8, .inl (upd (rg B 20 0 8) j (nI v))) = wC (A) (setA B 20 j v) ad 32 20 := by
    show _ = (.inl (.int, 8, .inl (rg (setA B 20 j v) 20 0 8)) : LC)
    have h9 := rg_set_s (A := B) (f := 20) (b := 0) (v := v) hj
    rw [Nat.zero_add] at h9
    rw [h9]
  rw [hc]
  exact hW.put 32 20 rfl (fun k i hk => hk) (fun k i hk => by
    match k, hk with
    | 0, hk => exact Or.inr rfl
    | 1, hk => exact Or.inr rfl
    | 2, hk => exact Or.inr rfl
    | 3, hk => exact Or.inr rfl
    | 4, hk => exact Or.inr rfl
    | 5, hk => exact Or.inr rfl
    | 6, hk => exact Or.inr rfl
    | 7, hk => exact Or.inr rfl
    | 8, hk => exact Or.inr rfl
    | 9, hk => exact Or.inr rfl
    | 10, hk => exact Or.inr rfl
    | 11, hk => exact Or.inr rfl
    | 12, hk => exact Or.inr rfl
    | 13, hk => exact Or.inr rfl
    | 14, hk => exact Or.inr rfl
    | 15, hk => exact Or.inr rfl
    | 16, hk => exact Or.inr rfl
    | 17, hk => exact Or.inr rfl
    | 18, hk => exact Or.inr rfl
    | 19, hk => exact Or.inr rfl
    | 20, hk => exact Or.inr rfl
    | 21, hk => exact Or.inr rfl
    | 22, hk => exact Or.inr rfl
    | 23, hk => exact Or.inr rfl
    | 24, hk => exact Or.inr rfl
    | 25, hk => exact Or.inr rfl
    | 26, hk => exact Or.inr rfl
    | 27, hk => exact Or.inr rfl
    | 28, hk => exact Or.inr rfl
    | 29, hk => exact Or.inr rfl
    | 30, hk => exact Or.inr rfl
    | 31, hk => exact Or.inr rfl
    | 32, hk => exact (by
      have hm : mArr i = true := hk
      by_cases h9 : i = 20
      · exact Or.inl ⟨rfl, h9⟩
      · refine Or.inr ?_
        show mA (setA B 20 j v) i = mA B i
        exact mA_n h9)
    | 33, hk => exact Or.inr rfl
    | k + 34, hk => exact (False.elim hk))
set_option maxRecDepth 100000 in
set_option maxHeartbeats 4000000 in
theorem m_a21 {A B : ST} {ad : AD} {G : GH} (hW : World A B ad G) {j v : Nat} (hj : j < 3) : World (A) (setA B 21 j v) ad (va_up G (ad 32 21) (some (.inl (.int, 3, .inl (upd (rg B 21 0 3) j (nI v)))))) := by
  have hc : .inl (.int, 3, .inl (upd (rg B 21 0 3) j (nI v))) = wC (A) (setA B 21 j v) ad 32 21 := by
    show _ = (.inl (.int, 3, .inl (rg (setA B 21 j v) 21 0 3)) : LC)
    have h9 := rg_set_s (A := B) (f := 21) (b := 0) (v := v) hj
    rw [Nat.zero_add] at h9
    rw [h9]
  rw [hc]
  exact hW.put 32 21 rfl (fun k i hk => hk) (fun k i hk => by
    match k, hk with
    | 0, hk => exact Or.inr rfl
    | 1, hk => exact Or.inr rfl
    | 2, hk => exact Or.inr rfl
    | 3, hk => exact Or.inr rfl
    | 4, hk => exact Or.inr rfl
    | 5, hk => exact Or.inr rfl
    | 6, hk => exact Or.inr rfl
    | 7, hk => exact Or.inr rfl
    | 8, hk => exact Or.inr rfl
    | 9, hk => exact Or.inr rfl
    | 10, hk => exact Or.inr rfl
    | 11, hk => exact Or.inr rfl
    | 12, hk => exact Or.inr rfl
    | 13, hk => exact Or.inr rfl
    | 14, hk => exact Or.inr rfl
    | 15, hk => exact Or.inr rfl
    | 16, hk => exact Or.inr rfl
    | 17, hk => exact Or.inr rfl
    | 18, hk => exact Or.inr rfl
    | 19, hk => exact Or.inr rfl
    | 20, hk => exact Or.inr rfl
    | 21, hk => exact Or.inr rfl
    | 22, hk => exact Or.inr rfl
    | 23, hk => exact Or.inr rfl
    | 24, hk => exact Or.inr rfl
    | 25, hk => exact Or.inr rfl
    | 26, hk => exact Or.inr rfl
    | 27, hk => exact Or.inr rfl
    | 28, hk => exact Or.inr rfl
    | 29, hk => exact Or.inr rfl
    | 30, hk => exact Or.inr rfl
    | 31, hk => exact Or.inr rfl
    | 32, hk => exact (by
      have hm : mArr i = true := hk
      by_cases h9 : i = 21
      · exact Or.inl ⟨rfl, h9⟩
      · refine Or.inr ?_
        show mA (setA B 21 j v) i = mA B i
        exact mA_n h9)
    | 33, hk => exact Or.inr rfl
    | k + 34, hk => exact (False.elim hk))
set_option maxRecDepth 100000 in
set_option maxHeartbeats 4000000 in
theorem m_a22 {A B : ST} {ad : AD} {G : GH} (hW : World A B ad G) {j v : Nat} (hj : j < 1100) : World (A) (setA B 22 j v) ad (va_up G (ad 32 22) (some (.inl (.char, 1100, .inl (upd (rg B 22 0 1100) j (nI v)))))) := by
  have hc : .inl (.char, 1100, .inl (upd (rg B 22 0 1100) j (nI v))) = wC (A) (setA B 22 j v) ad 32 22 := by
    show _ = (.inl (.char, 1100, .inl (rg (setA B 22 j v) 22 0 1100)) : LC)
    have h9 := rg_set_s (A := B) (f := 22) (b := 0) (v := v) hj
    rw [Nat.zero_add] at h9
    rw [h9]
  rw [hc]
  exact hW.put 32 22 rfl (fun k i hk => hk) (fun k i hk => by
    match k, hk with
    | 0, hk => exact Or.inr rfl
    | 1, hk => exact Or.inr rfl
    | 2, hk => exact Or.inr rfl
    | 3, hk => exact Or.inr rfl
    | 4, hk => exact Or.inr rfl
    | 5, hk => exact Or.inr rfl
    | 6, hk => exact Or.inr rfl
    | 7, hk => exact Or.inr rfl
    | 8, hk => exact Or.inr rfl
    | 9, hk => exact Or.inr rfl
    | 10, hk => exact Or.inr rfl
    | 11, hk => exact Or.inr rfl
    | 12, hk => exact Or.inr rfl
    | 13, hk => exact Or.inr rfl
    | 14, hk => exact Or.inr rfl
    | 15, hk => exact Or.inr rfl
    | 16, hk => exact Or.inr rfl
    | 17, hk => exact Or.inr rfl
    | 18, hk => exact Or.inr rfl
    | 19, hk => exact Or.inr rfl
    | 20, hk => exact Or.inr rfl
    | 21, hk => exact Or.inr rfl
    | 22, hk => exact Or.inr rfl
    | 23, hk => exact Or.inr rfl
    | 24, hk => exact Or.inr rfl
    | 25, hk => exact Or.inr rfl
    | 26, hk => exact Or.inr rfl
    | 27, hk => exact Or.inr rfl
    | 28, hk => exact Or.inr rfl
    | 29, hk => exact Or.inr rfl
    | 30, hk => exact Or.inr rfl
    | 31, hk => exact Or.inr rfl
    | 32, hk => exact (by
      have hm : mArr i = true := hk
      by_cases h9 : i = 22
      · exact Or.inl ⟨rfl, h9⟩
      · refine Or.inr ?_
        show mA (setA B 22 j v) i = mA B i
        exact mA_n h9)
    | 33, hk => exact Or.inr rfl
    | k + 34, hk => exact (False.elim hk))
set_option maxRecDepth 100000 in
set_option maxHeartbeats 4000000 in
theorem m_a25 {A B : ST} {ad : AD} {G : GH} (hW : World A B ad G) {j v : Nat} (hj : j < 20) : World (A) (setA B 25 j v) ad (va_up G (ad 32 25) (some (.inl (.boolean, 20, .inl (upd (rg B 25 0 20) j (nI v)))))) := by
  have hc : .inl (.boolean, 20, .inl (upd (rg B 25 0 20) j (nI v))) = wC (A) (setA B 25 j v) ad 32 25 := by
    show _ = (.inl (.boolean, 20, .inl (rg (setA B 25 j v) 25 0 20)) : LC)
    have h9 := rg_set_s (A := B) (f := 25) (b := 0) (v := v) hj
    rw [Nat.zero_add] at h9
    rw [h9]
  rw [hc]
  exact hW.put 32 25 rfl (fun k i hk => hk) (fun k i hk => by
    match k, hk with
    | 0, hk => exact Or.inr rfl
    | 1, hk => exact Or.inr rfl
    | 2, hk => exact Or.inr rfl
    | 3, hk => exact Or.inr rfl
    | 4, hk => exact Or.inr rfl
    | 5, hk => exact Or.inr rfl
    | 6, hk => exact Or.inr rfl
    | 7, hk => exact Or.inr rfl
    | 8, hk => exact Or.inr rfl
    | 9, hk => exact Or.inr rfl
    | 10, hk => exact Or.inr rfl
    | 11, hk => exact Or.inr rfl
    | 12, hk => exact Or.inr rfl
    | 13, hk => exact Or.inr rfl
    | 14, hk => exact Or.inr rfl
    | 15, hk => exact Or.inr rfl
    | 16, hk => exact Or.inr rfl
    | 17, hk => exact Or.inr rfl
    | 18, hk => exact Or.inr rfl
    | 19, hk => exact Or.inr rfl
    | 20, hk => exact Or.inr rfl
    | 21, hk => exact Or.inr rfl
    | 22, hk => exact Or.inr rfl
    | 23, hk => exact Or.inr rfl
    | 24, hk => exact Or.inr rfl
    | 25, hk => exact Or.inr rfl
    | 26, hk => exact Or.inr rfl
    | 27, hk => exact Or.inr rfl
    | 28, hk => exact Or.inr rfl
    | 29, hk => exact Or.inr rfl
    | 30, hk => exact Or.inr rfl
    | 31, hk => exact Or.inr rfl
    | 32, hk => exact (by
      have hm : mArr i = true := hk
      by_cases h9 : i = 25
      · exact Or.inl ⟨rfl, h9⟩
      · refine Or.inr ?_
        show mA (setA B 25 j v) i = mA B i
        exact mA_n h9)
    | 33, hk => exact Or.inr rfl
    | k + 34, hk => exact (False.elim hk))
