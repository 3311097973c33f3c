set_option maxRecDepth 100000 in
set_option maxHeartbeats 4000000 in
theorem w_b1 {A B : ST} {ad : AD} {G : GH} (hW : World A B ad G) {c : Nat} (hlt : A 0 0 < 60) : World (setA A 1 (A 0 0) c) B ad (va_up G (ad 2 0) (some (chA 60 (upd (rg A 1 0 60) (A 0 0) (nI c))))) := by
  have hc : chA 60 (upd (rg A 1 0 60) (A 0 0) (nI c)) = wC (setA A 1 (A 0 0) c) B ad 2 0 := by
    show _ = chA 60 (rg (setA A 1 (A 0 0) c) 1 0 60)
    have h9 := rg_set_s (A := A) (f := 1) (b := 0) (v := c) hlt
    rw [Nat.zero_add] at h9
    rw [h9]
  rw [hc]
  exact hW.put 2 0 rfl (fun k i hk => hk) (fun k i hk => by
    match k, hk with
    | 0, hk => exact Or.inr rfl
    | 1, hk => exact Or.inr rfl
    | 2, hk => exact Or.inl ⟨rfl, hk⟩
    | 3, hk => exact Or.inr rfl
    | 4, hk => exact Or.inr rfl
    | 5, hk => exact Or.inr rfl
    | 6, hk => exact Or.inr rfl
    | 7, hk => exact Or.inr rfl
    | 8, hk => exact Or.inr rfl
    | 9, hk => exact Or.inr rfl
    | 10, hk => exact Or.inr rfl
    | 11, hk => exact Or.inr rfl
    | 12, hk => exact Or.inr rfl
    | 13, hk => exact Or.inr rfl
    | 14, hk => exact Or.inr rfl
    | 15, hk => exact Or.inr rfl
    | 16, hk => exact Or.inr rfl
    | 17, hk => exact Or.inr rfl
    | 18, hk => exact Or.inr rfl
    | 19, hk => exact Or.inr rfl
    | 20, hk => exact Or.inr rfl
    | 21, hk => exact Or.inr rfl
    | 22, hk => exact Or.inr rfl
    | 23, hk => exact Or.inr rfl
    | 24, hk => exact Or.inr rfl
    | 25, hk => exact Or.inr rfl
    | 26, hk => exact Or.inr rfl
    | 27, hk => exact Or.inr rfl
    | 28, hk => exact Or.inr rfl
    | 29, hk => exact Or.inr rfl
    | 30, hk => exact Or.inr rfl
    | 31, hk => exact Or.inr rfl
    | 32, hk => exact Or.inr rfl
    | 33, hk => exact Or.inr rfl
    | 34, hk => exact Or.inr rfl
    | 35, hk => exact Or.inr rfl
    | k + 36, hk => exact (False.elim hk))
set_option maxRecDepth 100000 in
set_option maxHeartbeats 4000000 in
theorem w_b0 {A B : ST} {ad : AD} {G : GH} (hW : World A B ad G) (n : Nat) : World (setA A 0 0 n) B ad (va_up G (ad 1 0) (some (sgC (ad 2 0) n))) := by
  have hc : sgC (ad 2 0) n = wC (setA A 0 0 n) B ad 1 0 := rfl
  rw [hc]
  exact hW.put 1 0 rfl (fun k i hk => hk) (fun k i hk => by
    match k, hk with
    | 0, hk => exact Or.inr rfl
    | 1, hk => exact Or.inl ⟨rfl, hk⟩
    | 2, hk => exact Or.inr rfl
    | 3, hk => exact Or.inr rfl
    | 4, hk => exact Or.inr rfl
    | 5, hk => exact Or.inr rfl
    | 6, hk => exact Or.inr rfl
    | 7, hk => exact Or.inr rfl
    | 8, hk => exact Or.inr rfl
    | 9, hk => exact Or.inr rfl
    | 10, hk => exact Or.inr rfl
    | 11, hk => exact Or.inr rfl
    | 12, hk => exact Or.inr rfl
    | 13, hk => exact Or.inr rfl
    | 14, hk => exact Or.inr rfl
    | 15, hk => exact Or.inr rfl
    | 16, hk => exact Or.inr rfl
    | 17, hk => exact Or.inr rfl
    | 18, hk => exact Or.inr rfl
    | 19, hk => exact Or.inr rfl
    | 20, hk => exact Or.inr rfl
    | 21, hk => exact Or.inr rfl
    | 22, hk => exact Or.inr rfl
    | 23, hk => exact Or.inr rfl
    | 24, hk => exact Or.inr rfl
    | 25, hk => exact Or.inr rfl
    | 26, hk => exact Or.inr rfl
    | 27, hk => exact Or.inr rfl
    | 28, hk => exact Or.inr rfl
    | 29, hk => exact Or.inr rfl
    | 30, hk => exact Or.inr rfl
    | 31, hk => exact Or.inr rfl
    | 32, hk => exact Or.inr rfl
    | 33, hk => exact Or.inr rfl
    | 34, hk => exact Or.inr rfl
    | 35, hk => exact Or.inr rfl
    | k + 36, hk => exact (False.elim hk))
set_option maxRecDepth 100000 in
set_option maxHeartbeats 4000000 in
theorem w_en1 {A B : ST} {ad : AD} {G : GH} (hW : World A B ad G) {i0 n : Nat} (hi : i0 < 24) (hn : n ≤ 4) : World (cpyA A 5 (4 * i0) n) B ad (va_up G (ad 18 i0) (some (chA 4 (cpy (rg A 1 0 60) (rg A 5 (4 * i0) 4) n)))) := by
  have hc : chA 4 (cpy (rg A 1 0 60) (rg A 5 (4 * i0) 4) n) = wC (cpyA A 5 (4 * i0) n) B ad 18 i0 := by
    show _ = chA 4 (rg (cpyA A 5 (4 * i0) n) 5 (4 * i0) 4)
    rw [rg_cpy_s hn (by omega)]
  rw [hc]
  exact hW.put 18 i0 hi (fun k i hk => hk) (fun k i hk => by
    match k, hk with
    | 0, hk => exact Or.inr rfl
    | 1, hk => exact Or.inr rfl
    | 2, hk => exact Or.inr rfl
    | 3, hk => exact Or.inr rfl
    | 4, hk => exact Or.inr rfl
    | 5, hk => exact Or.inr rfl
    | 6, hk => exact Or.inr rfl
    | 7, hk => exact Or.inr rfl
    | 8, hk => exact Or.inr rfl
    | 9, hk => exact Or.inr rfl
    | 10, hk => exact Or.inr rfl
    | 11, hk => exact Or.inr rfl
    | 12, hk => exact Or.inr rfl
    | 13, hk => exact Or.inr rfl
    | 14, hk => exact Or.inr rfl
    | 15, hk => exact Or.inr rfl
    | 16, hk => exact Or.inr rfl
    | 17, hk => exact Or.inr rfl
    | 18, hk => exact (by
      by_cases h9 : i = i0
      · exact Or.inl ⟨rfl, h9⟩
      · exact Or.inr (by show chA 4 (rg (cpyA A 5 (4 * i0) n) 5 (4 * i) 4) = chA 4 (rg A 5 (4 * i) 4); rw [rg_cpy_n (fun k hk => by omega)]))
    | 19, hk => exact Or.inr rfl
    | 20, hk => exact Or.inr rfl
    | 21, hk => exact Or.inr rfl
    | 22, hk => exact Or.inr rfl
    | 23, hk => exact Or.inr rfl
    | 24, hk => exact Or.inr rfl
    | 25, hk => exact Or.inr rfl
    | 26, hk => exact Or.inr rfl
    | 27, hk => exact Or.inr rfl
    | 28, hk => exact Or.inr rfl
    | 29, hk => exact Or.inr rfl
    | 30, hk => exact Or.inr rfl
    | 31, hk => exact Or.inr rfl
    | 32, hk => exact Or.inr rfl
    | 33, hk => exact Or.inr rfl
    | 34, hk => exact Or.inr rfl
    | 35, hk => exact Or.inr rfl
    | k + 36, hk => exact (False.elim hk))
set_option maxRecDepth 100000 in
set_option maxHeartbeats 4000000 in
theorem w_en0 {A B : ST} {ad : AD} {G : GH} (hW : World A B ad G) {i0 n : Nat} (hi : i0 < 24) : World (setA A 6 i0 n) B ad (va_up G (ad 17 i0) (some (sgC (ad 18 i0) n))) := by
  have hc : sgC (ad 18 i0) n = wC (setA A 6 i0 n) B ad 17 i0 := by
    show _ = sgC (ad 18 i0) (setA A 6 i0 n 6 i0)
    rw [setA_s]
  rw [hc]
  exact hW.put 17 i0 hi (fun k i hk => hk) (fun k i hk => by
    match k, hk with
    | 0, hk => exact Or.inr rfl
    | 1, hk => exact Or.inr rfl
    | 2, hk => exact Or.inr rfl
    | 3, hk => exact Or.inr rfl
    | 4, hk => exact Or.inr rfl
    | 5, hk => exact Or.inr rfl
    | 6, hk => exact Or.inr rfl
    | 7, hk => exact Or.inr rfl
    | 8, hk => exact Or.inr rfl
    | 9, hk => exact Or.inr rfl
    | 10, hk => exact Or.inr rfl
    | 11, hk => exact Or.inr rfl
    | 12, hk => exact Or.inr rfl
    | 13, hk => exact Or.inr rfl
    | 14, hk => exact Or.inr rfl
    | 15, hk => exact Or.inr rfl
    | 16, hk => exact Or.inr rfl
    | 17, hk => exact (by
      by_cases h9 : i = i0
      · exact Or.inl ⟨rfl, h9⟩
      · exact Or.inr (by show sgC (ad 18 i) (setA A 6 i0 n 6 i) = sgC (ad 18 i) (A 6 i); rw [setA_n h9]))
    | 18, hk => exact Or.inr rfl
    | 19, hk => exact Or.inr rfl
    | 20, hk => exact Or.inr rfl
    | 21, hk => exact Or.inr rfl
    | 22, hk => exact Or.inr rfl
    | 23, hk => exact Or.inr rfl
    | 24, hk => exact Or.inr rfl
    | 25, hk => exact Or.inr rfl
    | 26, hk => exact Or.inr rfl
    | 27, hk => exact Or.inr rfl
    | 28, hk => exact Or.inr rfl
    | 29, hk => exact Or.inr rfl
    | 30, hk => exact Or.inr rfl
    | 31, hk => exact Or.inr rfl
    | 32, hk => exact Or.inr rfl
    | 33, hk => exact Or.inr rfl
    | 34, hk => exact Or.inr rfl
    | 35, hk => exact Or.inr rfl
    | k + 36, hk => exact (False.elim hk))
set_option maxRecDepth 100000 in
set_option maxHeartbeats 4000000 in
theorem w_ow1 {A B : ST} {ad : AD} {G : GH} (hW : World A B ad G) {i0 n : Nat} (hi : i0 < 288 ∧ A 8 i0 ≠ 0) (hn : n ≤ 10) : World (cpyA A 7 (10 * i0) n) B ad (va_up G (ad 20 i0) (some (chA 10 (cpy (rg A 1 0 60) (rg A 7 (10 * i0) 10) n)))) := by
  have hc : chA 10 (cpy (rg A 1 0 60) (rg A 7 (10 * i0) 10) n) = wC (cpyA A 7 (10 * i0) n) B ad 20 i0 := by
    show _ = chA 10 (rg (cpyA A 7 (10 * i0) n) 7 (10 * i0) 10)
    rw [rg_cpy_s hn (by omega)]
  rw [hc]
  exact hW.put 20 i0 hi (fun k i hk => hk) (fun k i hk => by
    match k, hk with
    | 0, hk => exact Or.inr rfl
    | 1, hk => exact Or.inr rfl
    | 2, hk => exact Or.inr rfl
    | 3, hk => exact Or.inr rfl
    | 4, hk => exact Or.inr rfl
    | 5, hk => exact Or.inr rfl
    | 6, hk => exact Or.inr rfl
    | 7, hk => exact Or.inr rfl
    | 8, hk => exact Or.inr rfl
    | 9, hk => exact Or.inr rfl
    | 10, hk => exact Or.inr rfl
    | 11, hk => exact Or.inr rfl
    | 12, hk => exact Or.inr rfl
    | 13, hk => exact Or.inr rfl
    | 14, hk => exact Or.inr rfl
    | 15, hk => exact Or.inr rfl
    | 16, hk => exact Or.inr rfl
    | 17, hk => exact Or.inr rfl
    | 18, hk => exact Or.inr rfl
    | 19, hk => exact Or.inr rfl
    | 20, hk => exact (by
      by_cases h9 : i = i0
      · exact Or.inl ⟨rfl, h9⟩
      · exact Or.inr (by show chA 10 (rg (cpyA A 7 (10 * i0) n) 7 (10 * i) 10) = chA 10 (rg A 7 (10 * i) 10); rw [rg_cpy_n (fun k hk => by omega)]))
    | 21, hk => exact Or.inr rfl
    | 22, hk => exact Or.inr rfl
    | 23, hk => exact Or.inr rfl
    | 24, hk => exact Or.inr rfl
    | 25, hk => exact Or.inr rfl
    | 26, hk => exact Or.inr rfl
    | 27, hk => exact Or.inr rfl
    | 28, hk => exact Or.inr rfl
    | 29, hk => exact Or.inr rfl
    | 30, hk => exact Or.inr rfl
    | 31, hk => exact Or.inr rfl
    | 32, hk => exact Or.inr rfl
    | 33, hk => exact Or.inr rfl
    | 34, hk => exact Or.inr rfl
    | 35, hk => exact Or.inr rfl
    | k + 36, hk => exact (False.elim hk))
set_option maxRecDepth 100000 in
set_option maxHeartbeats 4000000 in
theorem w_ow0 {A B : ST} {ad : AD} {G : GH} (hW : World A B ad G) {i0 n : Nat} (hi : i0 < 288 ∧ A 8 i0 ≠ 0) (hn0 : n ≠ 0) : World (setA A 8 i0 n) B ad (va_up G (ad 19 i0) (some (sgC (ad 20 i0) n))) := by
  have hc : sgC (ad 20 i0) n = wC (setA A 8 i0 n) B ad 19 i0 := by
    show _ = sgC (ad 20 i0) (setA A 8 i0 n 8 i0)
    rw [setA_s]
  rw [hc]
  exact hW.put 19 i0 hi (fun k i hk => by
    match k, hk with
    | 0, hk => exact hk
    | 1, hk => exact hk
    | 2, hk => exact hk
    | 3, hk => exact hk
    | 4, hk => exact hk
    | 5, hk => exact hk
    | 6, hk => exact hk
    | 7, hk => exact hk
    | 8, hk => exact hk
    | 9, hk => exact hk
    | 10, hk => exact hk
    | 11, hk => exact hk
    | 12, hk => exact hk
    | 13, hk => exact hk
    | 14, hk => exact hk
    | 15, hk => exact hk
    | 16, hk => exact hk
    | 17, hk => exact hk
    | 18, hk => exact hk
    | 19, hk => exact (by
      by_cases h9 : i = i0
      · exact ⟨hk.1, by rw [h9]; exact hi.2⟩
      · exact ⟨hk.1, by have h8 := hk.2; rwa [setA_n h9] at h8⟩)
    | 20, hk => exact (by
      by_cases h9 : i = i0
      · exact ⟨hk.1, by rw [h9]; exact hi.2⟩
      · exact ⟨hk.1, by have h8 := hk.2; rwa [setA_n h9] at h8⟩)
    | 21, hk => exact hk
    | 22, hk => exact hk
    | 23, hk => exact hk
    | 24, hk => exact hk
    | 25, hk => exact hk
    | 26, hk => exact hk
    | 27, hk => exact hk
    | 28, hk => exact hk
    | 29, hk => exact hk
    | 30, hk => exact hk
    | 31, hk => exact hk
    | 32, hk => exact hk
    | 33, hk => exact hk
    | 34, hk => exact hk
    | 35, hk => exact hk
    | k + 36, hk => exact (False.elim hk)) (fun k i hk => by
    match k, hk with
    | 0, hk => exact Or.inr rfl
    | 1, hk => exact Or.inr rfl
    | 2, hk => exact Or.inr rfl
    | 3, hk => exact Or.inr rfl
    | 4, hk => exact Or.inr rfl
    | 5, hk => exact Or.inr rfl
    | 6, hk => exact (Or.inr (by
      show (Sum.inl (_, _, Sum.inr (Sum.inr (Sum.inr (Sum.inr _)))) : LC) = _
      congr 7
      funext j
      by_cases h9 : j = i0
      · rw [h9, setA_s, if_neg hn0, if_neg hi.2]
      · rw [setA_n h9]))
    | 7, hk => exact Or.inr rfl
    | 8, hk => exact Or.inr rfl
    | 9, hk => exact Or.inr rfl
    | 10, hk => exact Or.inr rfl
    | 11, hk => exact Or.inr rfl
    | 12, hk => exact Or.inr rfl
    | 13, hk => exact Or.inr rfl
    | 14, hk => exact Or.inr rfl
    | 15, hk => exact Or.inr rfl
    | 16, hk => exact Or.inr rfl
    | 17, hk => exact Or.inr rfl
    | 18, hk => exact Or.inr rfl
    | 19, hk => exact (by
      by_cases h9 : i = i0
      · exact Or.inl ⟨rfl, h9⟩
      · exact Or.inr (by show sgC (ad 20 i) (setA A 8 i0 n 8 i) = sgC (ad 20 i) (A 8 i); rw [setA_n h9]))
    | 20, hk => exact Or.inr rfl
    | 21, hk => exact Or.inr rfl
    | 22, hk => exact Or.inr rfl
    | 23, hk => exact Or.inr rfl
    | 24, hk => exact Or.inr rfl
    | 25, hk => exact Or.inr rfl
    | 26, hk => exact Or.inr rfl
    | 27, hk => exact Or.inr rfl
    | 28, hk => exact Or.inr rfl
    | 29, hk => exact Or.inr rfl
    | 30, hk => exact Or.inr rfl
    | 31, hk => exact Or.inr rfl
    | 32, hk => exact Or.inr rfl
    | 33, hk => exact Or.inr rfl
    | 34, hk => exact Or.inr rfl
    | 35, hk => exact Or.inr rfl
    | k + 36, hk => exact (False.elim hk))
set_option maxRecDepth 100000 in
set_option maxHeartbeats 4000000 in
theorem w_tx1 {A B : ST} {ad : AD} {G : GH} (hW : World A B ad G) {i0 n : Nat} (hi : i0 < 3 * A 9 0) (hn : n ≤ 60) : World (cpyA A 11 (60 * i0) n) B ad (va_up G (ad 26 i0) (some (chA 60 (cpy (rg A 1 0 60) (rg A 11 (60 * i0) 60) n)))) := by
  have hc : chA 60 (cpy (rg A 1 0 60) (rg A 11 (60 * i0) 60) n) = wC (cpyA A 11 (60 * i0) n) B ad 26 i0 := by
    show _ = chA 60 (rg (cpyA A 11 (60 * i0) n) 11 (60 * i0) 60)
    rw [rg_cpy_s hn (by omega)]
  rw [hc]
  exact hW.put 26 i0 hi (fun k i hk => hk) (fun k i hk => by
    match k, hk with
    | 0, hk => exact Or.inr rfl
    | 1, hk => exact Or.inr rfl
    | 2, hk => exact Or.inr rfl
    | 3, hk => exact Or.inr rfl
    | 4, hk => exact Or.inr rfl
    | 5, hk => exact Or.inr rfl
    | 6, hk => exact Or.inr rfl
    | 7, hk => exact Or.inr rfl
    | 8, hk => exact Or.inr rfl
    | 9, hk => exact Or.inr rfl
    | 10, hk => exact Or.inr rfl
    | 11, hk => exact Or.inr rfl
    | 12, hk => exact Or.inr rfl
    | 13, hk => exact Or.inr rfl
    | 14, hk => exact Or.inr rfl
    | 15, hk => exact Or.inr rfl
    | 16, hk => exact Or.inr rfl
    | 17, hk => exact Or.inr rfl
    | 18, hk => exact Or.inr rfl
    | 19, hk => exact Or.inr rfl
    | 20, hk => exact Or.inr rfl
    | 21, hk => exact Or.inr rfl
    | 22, hk => exact Or.inr rfl
    | 23, hk => exact Or.inr rfl
    | 24, hk => exact Or.inr rfl
    | 25, hk => exact Or.inr rfl
    | 26, hk => exact (by
      by_cases h9 : i = i0
      · exact Or.inl ⟨rfl, h9⟩
      · exact Or.inr (by show chA 60 (rg (cpyA A 11 (60 * i0) n) 11 (60 * i) 60) = chA 60 (rg A 11 (60 * i) 60); rw [rg_cpy_n (fun k hk => by omega)]))
    | 27, hk => exact Or.inr rfl
    | 28, hk => exact Or.inr rfl
    | 29, hk => exact Or.inr rfl
    | 30, hk => exact Or.inr rfl
    | 31, hk => exact Or.inr rfl
    | 32, hk => exact Or.inr rfl
    | 33, hk => exact Or.inr rfl
    | 34, hk => exact Or.inr rfl
    | 35, hk => exact Or.inr rfl
    | k + 36, hk => exact (False.elim hk))
set_option maxRecDepth 100000 in
set_option maxHeartbeats 4000000 in
theorem w_tx0 {A B : ST} {ad : AD} {G : GH} (hW : World A B ad G) {i0 n : Nat} (hi : i0 < 3 * A 9 0) : World (setA A 12 i0 n) B ad (va_up G (ad 25 i0) (some (sgC (ad 26 i0) n))) := by
  have hc : sgC (ad 26 i0) n = wC (setA A 12 i0 n) B ad 25 i0 := by
    show _ = sgC (ad 26 i0) (setA A 12 i0 n 12 i0)
    rw [setA_s]
  rw [hc]
  exact hW.put 25 i0 hi (fun k i hk => hk) (fun k i hk => by
    match k, hk with
    | 0, hk => exact Or.inr rfl
    | 1, hk => exact Or.inr rfl
    | 2, hk => exact Or.inr rfl
    | 3, hk => exact Or.inr rfl
    | 4, hk => exact Or.inr rfl
    | 5, hk => exact Or.inr rfl
    | 6, hk => exact Or.inr rfl
    | 7, hk => exact Or.inr rfl
    | 8, hk => exact Or.inr rfl
    | 9, hk => exact Or.inr rfl
    | 10, hk => exact Or.inr rfl
    | 11, hk => exact Or.inr rfl
    | 12, hk => exact Or.inr rfl
    | 13, hk => exact Or.inr rfl
    | 14, hk => exact Or.inr rfl
    | 15, hk => exact Or.inr rfl
    | 16, hk => exact Or.inr rfl
    | 17, hk => exact Or.inr rfl
    | 18, hk => exact Or.inr rfl
    | 19, hk => exact Or.inr rfl
    | 20, hk => exact Or.inr rfl
    | 21, hk => exact Or.inr rfl
    | 22, hk => exact Or.inr rfl
    | 23, hk => exact Or.inr rfl
    | 24, hk => exact Or.inr rfl
    | 25, hk => exact (by
      by_cases h9 : i = i0
      · exact Or.inl ⟨rfl, h9⟩
      · exact Or.inr (by show sgC (ad 26 i) (setA A 12 i0 n 12 i) = sgC (ad 26 i) (A 12 i); rw [setA_n h9]))
    | 26, hk => exact Or.inr rfl
    | 27, hk => exact Or.inr rfl
    | 28, hk => exact Or.inr rfl
    | 29, hk => exact Or.inr rfl
    | 30, hk => exact Or.inr rfl
    | 31, hk => exact Or.inr rfl
    | 32, hk => exact Or.inr rfl
    | 33, hk => exact Or.inr rfl
    | 34, hk => exact Or.inr rfl
    | 35, hk => exact Or.inr rfl
    | k + 36, hk => exact (False.elim hk))
set_option maxRecDepth 100000 in
set_option maxHeartbeats 4000000 in
theorem w_st1 {A B : ST} {ad : AD} {G : GH} (hW : World A B ad G) {i0 n : Nat} (hi : i0 < A 2 0) (hn : n ≤ 10) : World (cpyA A 3 (10 * i0) n) B ad (va_up G (ad 16 i0) (some (chA 10 (cpy (rg A 1 0 60) (rg A 3 (10 * i0) 10) n)))) := by
  have hc : chA 10 (cpy (rg A 1 0 60) (rg A 3 (10 * i0) 10) n) = wC (cpyA A 3 (10 * i0) n) B ad 16 i0 := by
    show _ = chA 10 (rg (cpyA A 3 (10 * i0) n) 3 (10 * i0) 10)
    rw [rg_cpy_s hn (by omega)]
  rw [hc]
  exact hW.put 16 i0 hi (fun k i hk => hk) (fun k i hk => by
    match k, hk with
    | 0, hk => exact Or.inr rfl
    | 1, hk => exact Or.inr rfl
    | 2, hk => exact Or.inr rfl
    | 3, hk => exact Or.inr rfl
    | 4, hk => exact Or.inr rfl
    | 5, hk => exact Or.inr rfl
    | 6, hk => exact Or.inr rfl
    | 7, hk => exact Or.inr rfl
    | 8, hk => exact Or.inr rfl
    | 9, hk => exact Or.inr rfl
    | 10, hk => exact Or.inr rfl
    | 11, hk => exact Or.inr rfl
    | 12, hk => exact Or.inr rfl
    | 13, hk => exact Or.inr rfl
    | 14, hk => exact Or.inr rfl
    | 15, hk => exact Or.inr rfl
    | 16, hk => exact (by
      by_cases h9 : i = i0
      · exact Or.inl ⟨rfl, h9⟩
      · exact Or.inr (by show chA 10 (rg (cpyA A 3 (10 * i0) n) 3 (10 * i) 10) = chA 10 (rg A 3 (10 * i) 10); rw [rg_cpy_n (fun k hk => by omega)]))
    | 17, hk => exact Or.inr rfl
    | 18, hk => exact Or.inr rfl
    | 19, hk => exact Or.inr rfl
    | 20, hk => exact Or.inr rfl
    | 21, hk => exact Or.inr rfl
    | 22, hk => exact Or.inr rfl
    | 23, hk => exact Or.inr rfl
    | 24, hk => exact Or.inr rfl
    | 25, hk => exact Or.inr rfl
    | 26, hk => exact Or.inr rfl
    | 27, hk => exact Or.inr rfl
    | 28, hk => exact Or.inr rfl
    | 29, hk => exact Or.inr rfl
    | 30, hk => exact Or.inr rfl
    | 31, hk => exact Or.inr rfl
    | 32, hk => exact Or.inr rfl
    | 33, hk => exact Or.inr rfl
    | 34, hk => exact Or.inr rfl
    | 35, hk => exact Or.inr rfl
    | k + 36, hk => exact (False.elim hk))
set_option maxRecDepth 100000 in
set_option maxHeartbeats 4000000 in
theorem w_st0 {A B : ST} {ad : AD} {G : GH} (hW : World A B ad G) {i0 n : Nat} (hi : i0 < A 2 0) : World (setA A 4 i0 n) B ad (va_up G (ad 15 i0) (some (sgC (ad 16 i0) n))) := by
  have hc : sgC (ad 16 i0) n = wC (setA A 4 i0 n) B ad 15 i0 := by
    show _ = sgC (ad 16 i0) (setA A 4 i0 n 4 i0)
    rw [setA_s]
  rw [hc]
  exact hW.put 15 i0 hi (fun k i hk => hk) (fun k i hk => by
    match k, hk with
    | 0, hk => exact Or.inr rfl
    | 1, hk => exact Or.inr rfl
    | 2, hk => exact Or.inr rfl
    | 3, hk => exact Or.inr rfl
    | 4, hk => exact Or.inr rfl
    | 5, hk => exact Or.inr rfl
    | 6, hk => exact Or.inr rfl
    | 7, hk => exact Or.inr rfl
    | 8, hk => exact Or.inr rfl
    | 9, hk => exact Or.inr rfl
    | 10, hk => exact Or.inr rfl
    | 11, hk => exact Or.inr rfl
    | 12, hk => exact Or.inr rfl
    | 13, hk => exact Or.inr rfl
    | 14, hk => exact Or.inr rfl
    | 15, hk => exact (by
      by_cases h9 : i = i0
      · exact Or.inl ⟨rfl, h9⟩
      · exact Or.inr (by show sgC (ad 16 i) (setA A 4 i0 n 4 i) = sgC (ad 16 i) (A 4 i); rw [setA_n h9]))
    | 16, hk => exact Or.inr rfl
    | 17, hk => exact Or.inr rfl
    | 18, hk => exact Or.inr rfl
    | 19, hk => exact Or.inr rfl
    | 20, hk => exact Or.inr rfl
    | 21, hk => exact Or.inr rfl
    | 22, hk => exact Or.inr rfl
    | 23, hk => exact Or.inr rfl
    | 24, hk => exact Or.inr rfl
    | 25, hk => exact Or.inr rfl
    | 26, hk => exact Or.inr rfl
    | 27, hk => exact Or.inr rfl
    | 28, hk => exact Or.inr rfl
    | 29, hk => exact Or.inr rfl
    | 30, hk => exact Or.inr rfl
    | 31, hk => exact Or.inr rfl
    | 32, hk => exact Or.inr rfl
    | 33, hk => exact Or.inr rfl
    | 34, hk => exact Or.inr rfl
    | 35, hk => exact Or.inr rfl
    | k + 36, hk => exact (False.elim hk))
set_option maxRecDepth 100000 in
set_option maxHeartbeats 4000000 in
theorem w_ap {A B : ST} {ad : AD} {G : GH} (hW : World A B ad G) {i0 v : Nat} (hi : i0 < 3 * A 9 0) : World (setA A 13 i0 v) B ad (va_up G (ad 24 i0) (some (tpC (ad 25 i0) (nI v)))) := by
  have hc : tpC (ad 25 i0) (nI v) = wC (setA A 13 i0 v) B ad 24 i0 := by
    show _ = tpC (ad 25 i0) (nI (setA A 13 i0 v 13 i0))
    rw [setA_s]
  rw [hc]
  exact hW.put 24 i0 hi (fun k i hk => hk) (fun k i hk => by
    match k, hk with
    | 0, hk => exact Or.inr rfl
    | 1, hk => exact Or.inr rfl
    | 2, hk => exact Or.inr rfl
    | 3, hk => exact Or.inr rfl
    | 4, hk => exact Or.inr rfl
    | 5, hk => exact Or.inr rfl
    | 6, hk => exact Or.inr rfl
    | 7, hk => exact Or.inr rfl
    | 8, hk => exact Or.inr rfl
    | 9, hk => exact Or.inr rfl
    | 10, hk => exact Or.inr rfl
    | 11, hk => exact Or.inr rfl
    | 12, hk => exact Or.inr rfl
    | 13, hk => exact Or.inr rfl
    | 14, hk => exact Or.inr rfl
    | 15, hk => exact Or.inr rfl
    | 16, hk => exact Or.inr rfl
    | 17, hk => exact Or.inr rfl
    | 18, hk => exact Or.inr rfl
    | 19, hk => exact Or.inr rfl
    | 20, hk => exact Or.inr rfl
    | 21, hk => exact Or.inr rfl
    | 22, hk => exact Or.inr rfl
    | 23, hk => exact Or.inr rfl
    | 24, hk => exact (by
      by_cases h9 : i = i0
      · exact Or.inl ⟨rfl, h9⟩
      · exact Or.inr (by show tpC (ad 25 i) (nI (setA A 13 i0 v 13 i)) = tpC (ad 25 i) (nI (A 13 i)); rw [setA_n h9]))
    | 25, hk => exact Or.inr rfl
    | 26, hk => exact Or.inr rfl
    | 27, hk => exact Or.inr rfl
    | 28, hk => exact Or.inr rfl
    | 29, hk => exact Or.inr rfl
    | 30, hk => exact Or.inr rfl
    | 31, hk => exact Or.inr rfl
    | 32, hk => exact Or.inr rfl
    | 33, hk => exact Or.inr rfl
    | 34, hk => exact Or.inr rfl
    | 35, hk => exact Or.inr rfl
    | k + 36, hk => exact (False.elim hk))
set_option maxRecDepth 100000 in
set_option maxHeartbeats 4000000 in
theorem w_ho {A B : ST} {ad : AD} {G : GH} (hW : World A B ad G) {c w k0 v : Nat} (hi : c < A 9 0) (hc10 : A 9 0 ≤ 10) (hw : w < 10) (hk0 : k0 < 4) : World (setA A 14 (100 * k0 + 10 * c + w) v) B ad (va_up G (ad 23 c) (some (inA 40 (upd (fun j => if j < 40 then nI (A 14 (100 * (j % 4) + 10 * c + j / 4)) else 0) (4 * w + k0) (nI v))))) := by
  have hc : inA 40 (upd (fun j => if j < 40 then nI (A 14 (100 * (j % 4) + 10 * c + j / 4)) else 0) (4 * w + k0) (nI v)) = wC (setA A 14 (100 * k0 + 10 * c + w) v) B ad 23 c := by
    show _ = inA 40 (fun j => if j < 40 then nI (setA A 14 (100 * k0 + 10 * c + w) v 14 (100 * (j % 4) + 10 * c + j / 4)) else 0)
    congr 4
    funext j
    dsimp only [upd]
    by_cases h9 : j = 4 * w + k0
    · rw [if_pos h9, if_pos (by omega), show 100 * (j % 4) + 10 * c + j / 4 = 100 * k0 + 10 * c + w by omega, setA_s]
    · rw [if_neg h9]
      by_cases hj : j < 40
      · rw [if_pos hj, if_pos hj, setA_n (by omega)]
      · rw [if_neg hj, if_neg hj]
  rw [hc]
  exact hW.put 23 c hi (fun k i hk => hk) (fun k i hk => by
    match k, hk with
    | 0, hk => exact Or.inr rfl
    | 1, hk => exact Or.inr rfl
    | 2, hk => exact Or.inr rfl
    | 3, hk => exact Or.inr rfl
    | 4, hk => exact Or.inr rfl
    | 5, hk => exact Or.inr rfl
    | 6, hk => exact Or.inr rfl
    | 7, hk => exact Or.inr rfl
    | 8, hk => exact Or.inr rfl
    | 9, hk => exact Or.inr rfl
    | 10, hk => exact Or.inr rfl
    | 11, hk => exact Or.inr rfl
    | 12, hk => exact Or.inr rfl
    | 13, hk => exact Or.inr rfl
    | 14, hk => exact Or.inr rfl
    | 15, hk => exact Or.inr rfl
    | 16, hk => exact Or.inr rfl
    | 17, hk => exact Or.inr rfl
    | 18, hk => exact Or.inr rfl
    | 19, hk => exact Or.inr rfl
    | 20, hk => exact Or.inr rfl
    | 21, hk => exact Or.inr rfl
    | 22, hk => exact Or.inr rfl
    | 23, hk => exact (by
      have hi2 : i < A 9 0 := hk
      by_cases h9 : i = c
      · exact Or.inl ⟨rfl, h9⟩
      · refine Or.inr ?_
        show inA 40 _ = inA 40 _
        congr 4
        funext j
        by_cases hj : j < 40
        · rw [if_pos hj, if_pos hj, setA_n (fun e => by
            have e1 : j % 4 = k0 := by omega
            have e2 : j / 4 < 10 := by omega
            rw [e1] at e
            generalize j / 4 = g at e e2
            omega)]
        · rw [if_neg hj, if_neg hj])
    | 24, hk => exact Or.inr rfl
    | 25, hk => exact Or.inr rfl
    | 26, hk => exact Or.inr rfl
    | 27, hk => exact Or.inr rfl
    | 28, hk => exact Or.inr rfl
    | 29, hk => exact Or.inr rfl
    | 30, hk => exact Or.inr rfl
    | 31, hk => exact Or.inr rfl
    | 32, hk => exact Or.inr rfl
    | 33, hk => exact Or.inr rfl
    | 34, hk => exact Or.inr rfl
    | 35, hk => exact Or.inr rfl
    | k + 36, hk => exact (False.elim hk))
set_option maxRecDepth 100000 in
set_option maxHeartbeats 4000000 in
theorem w_pr {A B : ST} {ad : AD} {G : GH} (hW : World A B ad G) {i0 v : Nat} (hi : i0 < 3) : World (setA A 21 i0 v) B ad (va_up G (ad 10 0) (some (inA 3 (upd (rg A 21 0 3) i0 (nI v))))) := by
  have hc : inA 3 (upd (rg A 21 0 3) i0 (nI v)) = wC (setA A 21 i0 v) B ad 10 0 := by
    show _ = inA 3 (rg (setA A 21 i0 v) 21 0 3)
    have h9 := rg_set_s (A := A) (f := 21) (b := 0) (v := v) hi
    rw [Nat.zero_add] at h9
    rw [h9]
  rw [hc]
  exact hW.put 10 0 rfl (fun k i hk => hk) (fun k i hk => by
    match k, hk with
    | 0, hk => exact Or.inr rfl
    | 1, hk => exact Or.inr rfl
    | 2, hk => exact Or.inr rfl
    | 3, hk => exact Or.inr rfl
    | 4, hk => exact Or.inr rfl
    | 5, hk => exact Or.inr rfl
    | 6, hk => exact Or.inr rfl
    | 7, hk => exact Or.inr rfl
    | 8, hk => exact Or.inr rfl
    | 9, hk => exact Or.inr rfl
    | 10, hk => exact Or.inl ⟨rfl, hk⟩
    | 11, hk => exact Or.inr rfl
    | 12, hk => exact Or.inr rfl
    | 13, hk => exact Or.inr rfl
    | 14, hk => exact Or.inr rfl
    | 15, hk => exact Or.inr rfl
    | 16, hk => exact Or.inr rfl
    | 17, hk => exact Or.inr rfl
    | 18, hk => exact Or.inr rfl
    | 19, hk => exact Or.inr rfl
    | 20, hk => exact Or.inr rfl
    | 21, hk => exact Or.inr rfl
    | 22, hk => exact Or.inr rfl
    | 23, hk => exact Or.inr rfl
    | 24, hk => exact Or.inr rfl
    | 25, hk => exact Or.inr rfl
    | 26, hk => exact Or.inr rfl
    | 27, hk => exact Or.inr rfl
    | 28, hk => exact Or.inr rfl
    | 29, hk => exact Or.inr rfl
    | 30, hk => exact Or.inr rfl
    | 31, hk => exact Or.inr rfl
    | 32, hk => exact Or.inr rfl
    | 33, hk => exact Or.inr rfl
    | 34, hk => exact Or.inr rfl
    | 35, hk => exact Or.inr rfl
    | k + 36, hk => exact (False.elim hk))
set_option maxRecDepth 100000 in
set_option maxHeartbeats 4000000 in
theorem w_ro1 {A B : ST} {ad : AD} {G : GH} (hW : World A B ad G) {i0 j v : Nat} (hi : i0 < A 15 0) (hj : j < 6) : World (setA A 16 (6 * i0 + j) v) B ad (va_up G (ad 28 i0) (some (inA 6 (upd (rg A 16 (6 * i0) 6) j (nI v))))) := by
  have hc : inA 6 (upd (rg A 16 (6 * i0) 6) j (nI v)) = wC (setA A 16 (6 * i0 + j) v) B ad 28 i0 := by
    show _ = inA 6 (rg (setA A 16 (6 * i0 + j) v) 16 (6 * i0) 6)
    rw [rg_set_s hj]
  rw [hc]
  exact hW.put 28 i0 hi (fun k i hk => hk) (fun k i hk => by
    match k, hk with
    | 0, hk => exact Or.inr rfl
    | 1, hk => exact Or.inr rfl
    | 2, hk => exact Or.inr rfl
    | 3, hk => exact Or.inr rfl
    | 4, hk => exact Or.inr rfl
    | 5, hk => exact Or.inr rfl
    | 6, hk => exact Or.inr rfl
    | 7, hk => exact Or.inr rfl
    | 8, hk => exact Or.inr rfl
    | 9, hk => exact Or.inr rfl
    | 10, hk => exact Or.inr rfl
    | 11, hk => exact Or.inr rfl
    | 12, hk => exact Or.inr rfl
    | 13, hk => exact Or.inr rfl
    | 14, hk => exact Or.inr rfl
    | 15, hk => exact Or.inr rfl
    | 16, hk => exact Or.inr rfl
    | 17, hk => exact Or.inr rfl
    | 18, hk => exact Or.inr rfl
    | 19, hk => exact Or.inr rfl
    | 20, hk => exact Or.inr rfl
    | 21, hk => exact Or.inr rfl
    | 22, hk => exact Or.inr rfl
    | 23, hk => exact Or.inr rfl
    | 24, hk => exact Or.inr rfl
    | 25, hk => exact Or.inr rfl
    | 26, hk => exact Or.inr rfl
    | 27, hk => exact Or.inr rfl
    | 28, hk => exact (by
      by_cases h9 : i = i0
      · exact Or.inl ⟨rfl, h9⟩
      · exact Or.inr (by show inA 6 (rg (setA A 16 (6 * i0 + j) v) 16 (6 * i) 6) = inA 6 (rg A 16 (6 * i) 6); rw [rg_set_n (fun k hk => by omega)]))
    | 29, hk => exact Or.inr rfl
    | 30, hk => exact Or.inr rfl
    | 31, hk => exact Or.inr rfl
    | 32, hk => exact Or.inr rfl
    | 33, hk => exact Or.inr rfl
    | 34, hk => exact Or.inr rfl
    | 35, hk => exact Or.inr rfl
    | k + 36, hk => exact (False.elim hk))
set_option maxRecDepth 100000 in
set_option maxHeartbeats 4000000 in
theorem w_ro0 {A B : ST} {ad : AD} {G : GH} (hW : World A B ad G) {i0 n : Nat} (hi : i0 < A 15 0) : World (setA A 17 i0 n) B ad (va_up G (ad 27 i0) (some (ltC (ad 28 i0) n))) := by
  have hc : ltC (ad 28 i0) n = wC (setA A 17 i0 n) B ad 27 i0 := by
    show _ = ltC (ad 28 i0) (setA A 17 i0 n 17 i0)
    rw [setA_s]
  rw [hc]
  exact hW.put 27 i0 hi (fun k i hk => hk) (fun k i hk => by
    match k, hk with
    | 0, hk => exact Or.inr rfl
    | 1, hk => exact Or.inr rfl
    | 2, hk => exact Or.inr rfl
    | 3, hk => exact Or.inr rfl
    | 4, hk => exact Or.inr rfl
    | 5, hk => exact Or.inr rfl
    | 6, hk => exact Or.inr rfl
    | 7, hk => exact Or.inr rfl
    | 8, hk => exact Or.inr rfl
    | 9, hk => exact Or.inr rfl
    | 10, hk => exact Or.inr rfl
    | 11, hk => exact Or.inr rfl
    | 12, hk => exact Or.inr rfl
    | 13, hk => exact Or.inr rfl
    | 14, hk => exact Or.inr rfl
    | 15, hk => exact Or.inr rfl
    | 16, hk => exact Or.inr rfl
    | 17, hk => exact Or.inr rfl
    | 18, hk => exact Or.inr rfl
    | 19, hk => exact Or.inr rfl
    | 20, hk => exact Or.inr rfl
    | 21, hk => exact Or.inr rfl
    | 22, hk => exact Or.inr rfl
    | 23, hk => exact Or.inr rfl
    | 24, hk => exact Or.inr rfl
    | 25, hk => exact Or.inr rfl
    | 26, hk => exact Or.inr rfl
    | 27, hk => exact (by
      by_cases h9 : i = i0
      · exact Or.inl ⟨rfl, h9⟩
      · exact Or.inr (by show ltC (ad 28 i) (setA A 17 i0 n 17 i) = ltC (ad 28 i) (A 17 i); rw [setA_n h9]))
    | 28, hk => exact Or.inr rfl
    | 29, hk => exact Or.inr rfl
    | 30, hk => exact Or.inr rfl
    | 31, hk => exact Or.inr rfl
    | 32, hk => exact Or.inr rfl
    | 33, hk => exact Or.inr rfl
    | 34, hk => exact Or.inr rfl
    | 35, hk => exact Or.inr rfl
    | k + 36, hk => exact (False.elim hk))
set_option maxRecDepth 100000 in
set_option maxHeartbeats 4000000 in
theorem w_fi {A B : ST} {ad : AD} {G : GH} (hW : World A B ad G) {i0 j v : Nat} (hi : i0 < A 18 0) (hj : j < 5) : World (setA A 19 (5 * i0 + j) v) B ad (va_up G (ad 30 i0) (some (inA 5 (upd (rg A 19 (5 * i0) 5) j (nI v))))) := by
  have hc : inA 5 (upd (rg A 19 (5 * i0) 5) j (nI v)) = wC (setA A 19 (5 * i0 + j) v) B ad 30 i0 := by
    show _ = inA 5 (rg (setA A 19 (5 * i0 + j) v) 19 (5 * i0) 5)
    rw [rg_set_s hj]
  rw [hc]
  exact hW.put 30 i0 hi (fun k i hk => hk) (fun k i hk => by
    match k, hk with
    | 0, hk => exact Or.inr rfl
    | 1, hk => exact Or.inr rfl
    | 2, hk => exact Or.inr rfl
    | 3, hk => exact Or.inr rfl
    | 4, hk => exact Or.inr rfl
    | 5, hk => exact Or.inr rfl
    | 6, hk => exact Or.inr rfl
    | 7, hk => exact Or.inr rfl
    | 8, hk => exact Or.inr rfl
    | 9, hk => exact Or.inr rfl
    | 10, hk => exact Or.inr rfl
    | 11, hk => exact Or.inr rfl
    | 12, hk => exact Or.inr rfl
    | 13, hk => exact Or.inr rfl
    | 14, hk => exact Or.inr rfl
    | 15, hk => exact Or.inr rfl
    | 16, hk => exact Or.inr rfl
    | 17, hk => exact Or.inr rfl
    | 18, hk => exact Or.inr rfl
    | 19, hk => exact Or.inr rfl
    | 20, hk => exact Or.inr rfl
    | 21, hk => exact Or.inr rfl
    | 22, hk => exact Or.inr rfl
    | 23, hk => exact Or.inr rfl
    | 24, hk => exact Or.inr rfl
    | 25, hk => exact Or.inr rfl
    | 26, hk => exact Or.inr rfl
    | 27, hk => exact Or.inr rfl
    | 28, hk => exact Or.inr rfl
    | 29, hk => exact Or.inr rfl
    | 30, hk => exact (by
      by_cases h9 : i = i0
      · exact Or.inl ⟨rfl, h9⟩
      · exact Or.inr (by show inA 5 (rg (setA A 19 (5 * i0 + j) v) 19 (5 * i) 5) = inA 5 (rg A 19 (5 * i) 5); rw [rg_set_n (fun k hk => by omega)]))
    | 31, hk => exact Or.inr rfl
    | 32, hk => exact Or.inr rfl
    | 33, hk => exact Or.inr rfl
    | 34, hk => exact Or.inr rfl
    | 35, hk => exact Or.inr rfl
    | k + 36, hk => exact (False.elim hk))
set_option maxRecDepth 100000 in
set_option maxHeartbeats 4000000 in
theorem w_p2 {A B : ST} {ad : AD} {G : GH} (hW : World A B ad G) {c : Nat} (hlt : A 31 0 < 1014) : World (setA A 30 (A 31 0) c) B ad (va_up G (ad 13 0) (some (chA 1014 (upd (rg A 30 0 1014) (A 31 0) (nI c))))) := by
  have hc : chA 1014 (upd (rg A 30 0 1014) (A 31 0) (nI c)) = wC (setA A 30 (A 31 0) c) B ad 13 0 := by
    show _ = chA 1014 (rg (setA A 30 (A 31 0) c) 30 0 1014)
    have h9 := rg_set_s (A := A) (f := 30) (b := 0) (v := c) hlt
    rw [Nat.zero_add] at h9
    rw [h9]
  rw [hc]
  exact hW.put 13 0 rfl (fun k i hk => hk) (fun k i hk => by
    match k, hk with
    | 0, hk => exact Or.inr rfl
    | 1, hk => exact Or.inr rfl
    | 2, hk => exact Or.inr rfl
    | 3, hk => exact Or.inr rfl
    | 4, hk => exact Or.inr rfl
    | 5, hk => exact Or.inr rfl
    | 6, hk => exact Or.inr rfl
    | 7, hk => exact Or.inr rfl
    | 8, hk => exact Or.inr rfl
    | 9, hk => exact Or.inr rfl
    | 10, hk => exact Or.inr rfl
    | 11, hk => exact Or.inr rfl
    | 12, hk => exact Or.inr rfl
    | 13, hk => exact Or.inl ⟨rfl, hk⟩
    | 14, hk => exact Or.inr rfl
    | 15, hk => exact Or.inr rfl
    | 16, hk => exact Or.inr rfl
    | 17, hk => exact Or.inr rfl
    | 18, hk => exact Or.inr rfl
    | 19, hk => exact Or.inr rfl
    | 20, hk => exact Or.inr rfl
    | 21, hk => exact Or.inr rfl
    | 22, hk => exact Or.inr rfl
    | 23, hk => exact Or.inr rfl
    | 24, hk => exact Or.inr rfl
    | 25, hk => exact Or.inr rfl
    | 26, hk => exact Or.inr rfl
    | 27, hk => exact Or.inr rfl
    | 28, hk => exact Or.inr rfl
    | 29, hk => exact Or.inr rfl
    | 30, hk => exact Or.inr rfl
    | 31, hk => exact Or.inr rfl
    | 32, hk => exact Or.inr rfl
    | 33, hk => exact Or.inr rfl
    | 34, hk => exact Or.inr rfl
    | 35, hk => exact Or.inr rfl
    | k + 36, hk => exact (False.elim hk))
set_option maxRecDepth 100000 in
set_option maxHeartbeats 4000000 in
theorem w_p1 {A B : ST} {ad : AD} {G : GH} (hW : World A B ad G) (n : Nat) : World (setA A 31 0 n) B ad (va_up G (ad 12 0) (some (sgC (ad 13 0) n))) := by
  have hc : sgC (ad 13 0) n = wC (setA A 31 0 n) B ad 12 0 := rfl
  rw [hc]
  exact hW.put 12 0 rfl (fun k i hk => hk) (fun k i hk => by
    match k, hk with
    | 0, hk => exact Or.inr rfl
    | 1, hk => exact Or.inr rfl
    | 2, hk => exact Or.inr rfl
    | 3, hk => exact Or.inr rfl
    | 4, hk => exact Or.inr rfl
    | 5, hk => exact Or.inr rfl
    | 6, hk => exact Or.inr rfl
    | 7, hk => exact Or.inr rfl
    | 8, hk => exact Or.inr rfl
    | 9, hk => exact Or.inr rfl
    | 10, hk => exact Or.inr rfl
    | 11, hk => exact Or.inr rfl
    | 12, hk => exact Or.inl ⟨rfl, hk⟩
    | 13, hk => exact Or.inr rfl
    | 14, hk => exact Or.inr rfl
    | 15, hk => exact Or.inr rfl
    | 16, hk => exact Or.inr rfl
    | 17, hk => exact Or.inr rfl
    | 18, hk => exact Or.inr rfl
    | 19, hk => exact Or.inr rfl
    | 20, hk => exact Or.inr rfl
    | 21, hk => exact Or.inr rfl
    | 22, hk => exact Or.inr rfl
    | 23, hk => exact Or.inr rfl
    | 24, hk => exact Or.inr rfl
    | 25, hk => exact Or.inr rfl
    | 26, hk => exact Or.inr rfl
    | 27, hk => exact Or.inr rfl
    | 28, hk => exact Or.inr rfl
    | 29, hk => exact Or.inr rfl
    | 30, hk => exact Or.inr rfl
    | 31, hk => exact Or.inr rfl
    | 32, hk => exact Or.inr rfl
    | 33, hk => exact Or.inr rfl
    | 34, hk => exact Or.inr rfl
    | 35, hk => exact Or.inr rfl
    | k + 36, hk => exact (False.elim hk))
set_option maxRecDepth 100000 in
set_option maxHeartbeats 4000000 in
theorem w_p0 {A B : ST} {ad : AD} {G : GH} (hW : World A B ad G) (n : Nat) : World (setA A 32 0 n) B ad (va_up G (ad 11 0) (some (pgC (ad 12 0) (nI n)))) := by
  have hc : pgC (ad 12 0) (nI n) = wC (setA A 32 0 n) B ad 11 0 := rfl
  rw [hc]
  exact hW.put 11 0 rfl (fun k i hk => hk) (fun k i hk => by
    match k, hk with
    | 0, hk => exact Or.inr rfl
    | 1, hk => exact Or.inr rfl
    | 2, hk => exact Or.inr rfl
    | 3, hk => exact Or.inr rfl
    | 4, hk => exact Or.inr rfl
    | 5, hk => exact Or.inr rfl
    | 6, hk => exact Or.inr rfl
    | 7, hk => exact Or.inr rfl
    | 8, hk => exact Or.inr rfl
    | 9, hk => exact Or.inr rfl
    | 10, hk => exact Or.inr rfl
    | 11, hk => exact Or.inl ⟨rfl, hk⟩
    | 12, hk => exact Or.inr rfl
    | 13, hk => exact Or.inr rfl
    | 14, hk => exact Or.inr rfl
    | 15, hk => exact Or.inr rfl
    | 16, hk => exact Or.inr rfl
    | 17, hk => exact Or.inr rfl
    | 18, hk => exact Or.inr rfl
    | 19, hk => exact Or.inr rfl
    | 20, hk => exact Or.inr rfl
    | 21, hk => exact Or.inr rfl
    | 22, hk => exact Or.inr rfl
    | 23, hk => exact Or.inr rfl
    | 24, hk => exact Or.inr rfl
    | 25, hk => exact Or.inr rfl
    | 26, hk => exact Or.inr rfl
    | 27, hk => exact Or.inr rfl
    | 28, hk => exact Or.inr rfl
    | 29, hk => exact Or.inr rfl
    | 30, hk => exact Or.inr rfl
    | 31, hk => exact Or.inr rfl
    | 32, hk => exact Or.inr rfl
    | 33, hk => exact Or.inr rfl
    | 34, hk => exact Or.inr rfl
    | 35, hk => exact Or.inr rfl
    | k + 36, hk => exact (False.elim hk))
set_option maxRecDepth 100000 in
set_option maxHeartbeats 4000000 in
theorem w_sk {A B : ST} {ad : AD} {G : GH} (hW : World A B ad G) (x y z : Nat) : World (setA (setA (setA A 33 0 x) 34 0 y) 35 0 z) B ad (va_up G (ad 14 0) (some (.inr (4, [.int (nI x), .int (nI y), .int (nI z)])))) := by
  have hc : .inr (4, [.int (nI x), .int (nI y), .int (nI z)]) = wC (setA (setA (setA A 33 0 x) 34 0 y) 35 0 z) B ad 14 0 := rfl
  rw [hc]
  exact hW.put 14 0 rfl (fun k i hk => hk) (fun k i hk => by
    match k, hk with
    | 0, hk => exact Or.inr rfl
    | 1, hk => exact Or.inr rfl
    | 2, hk => exact Or.inr rfl
    | 3, hk => exact Or.inr rfl
    | 4, hk => exact Or.inr rfl
    | 5, hk => exact Or.inr rfl
    | 6, hk => exact Or.inr rfl
    | 7, hk => exact Or.inr rfl
    | 8, hk => exact Or.inr rfl
    | 9, hk => exact Or.inr rfl
    | 10, hk => exact Or.inr rfl
    | 11, hk => exact Or.inr rfl
    | 12, hk => exact Or.inr rfl
    | 13, hk => exact Or.inr rfl
    | 14, hk => exact Or.inl ⟨rfl, hk⟩
    | 15, hk => exact Or.inr rfl
    | 16, hk => exact Or.inr rfl
    | 17, hk => exact Or.inr rfl
    | 18, hk => exact Or.inr rfl
    | 19, hk => exact Or.inr rfl
    | 20, hk => exact Or.inr rfl
    | 21, hk => exact Or.inr rfl
    | 22, hk => exact Or.inr rfl
    | 23, hk => exact Or.inr rfl
    | 24, hk => exact Or.inr rfl
    | 25, hk => exact Or.inr rfl
    | 26, hk => exact Or.inr rfl
    | 27, hk => exact Or.inr rfl
    | 28, hk => exact Or.inr rfl
    | 29, hk => exact Or.inr rfl
    | 30, hk => exact Or.inr rfl
    | 31, hk => exact Or.inr rfl
    | 32, hk => exact Or.inr rfl
    | 33, hk => exact Or.inr rfl
    | 34, hk => exact Or.inr rfl
    | 35, hk => exact Or.inr rfl
    | k + 36, hk => exact (False.elim hk))
set_option maxRecDepth 100000 in
set_option maxHeartbeats 4000000 in
theorem b_1 {A B : ST} {ad : AD} {G : GH} (hW : World A B ad G) {j v : Nat} (hj : j < 5) : World (A) (setA B 1 j v) ad (va_up G (ad 31 0) (some (inA 5 (upd (rg B 1 0 5) j (nI v))))) := by
  have hc : inA 5 (upd (rg B 1 0 5) j (nI v)) = wC (A) (setA B 1 j v) ad 31 0 := by
    show _ = inA 5 (rg (setA B 1 j v) 1 0 5)
    have h9 := rg_set_s (A := B) (f := 1) (b := 0) (v := v) hj
    rw [Nat.zero_add] at h9
    rw [h9]
  rw [hc]
  exact hW.put 31 0 rfl (fun k i hk => hk) (fun k i hk => by
    match k, hk with
    | 0, hk => exact Or.inr rfl
    | 1, hk => exact Or.inr rfl
    | 2, hk => exact Or.inr rfl
    | 3, hk => exact Or.inr rfl
    | 4, hk => exact Or.inr rfl
    | 5, hk => exact Or.inr rfl
    | 6, hk => exact Or.inr rfl
    | 7, hk => exact Or.inr rfl
    | 8, hk => exact Or.inr rfl
    | 9, hk => exact Or.inr rfl
    | 10, hk => exact Or.inr rfl
    | 11, hk => exact Or.inr rfl
    | 12, hk => exact Or.inr rfl
    | 13, hk => exact Or.inr rfl
    | 14, hk => exact Or.inr rfl
    | 15, hk => exact Or.inr rfl
    | 16, hk => exact Or.inr rfl
    | 17, hk => exact Or.inr rfl
    | 18, hk => exact Or.inr rfl
    | 19, hk => exact Or.inr rfl
    | 20, hk => exact Or.inr rfl
    | 21, hk => exact Or.inr rfl
    | 22, hk => exact Or.inr rfl
    | 23, hk => exact Or.inr rfl
    | 24, hk => exact Or.inr rfl
    | 25, hk => exact Or.inr rfl
    | 26, hk => exact Or.inr rfl
    | 27, hk => exact Or.inr rfl
    | 28, hk => exact Or.inr rfl
    | 29, hk => exact Or.inr rfl
    | 30, hk => exact Or.inr rfl
    | 31, hk => exact Or.inl ⟨rfl, hk⟩
    | 32, hk => exact Or.inr rfl
    | 33, hk => exact Or.inr rfl
    | 34, hk => exact Or.inr rfl
    | 35, hk => exact Or.inr rfl
    | k + 36, hk => exact (False.elim hk))
set_option maxRecDepth 100000 in
set_option maxHeartbeats 4000000 in
theorem b_2 {A B : ST} {ad : AD} {G : GH} (hW : World A B ad G) {j v : Nat} (hj : j < 64) : World (A) (setA B 2 j v) ad (va_up G (ad 32 0) (some (inA 64 (upd (rg B 2 0 64) j (nI v))))) := by
  have hc : inA 64 (upd (rg B 2 0 64) j (nI v)) = wC (A) (setA B 2 j v) ad 32 0 := by
    show _ = inA 64 (rg (setA B 2 j v) 2 0 64)
    have h9 := rg_set_s (A := B) (f := 2) (b := 0) (v := v) hj
    rw [Nat.zero_add] at h9
    rw [h9]
  rw [hc]
  exact hW.put 32 0 rfl (fun k i hk => hk) (fun k i hk => by
    match k, hk with
    | 0, hk => exact Or.inr rfl
    | 1, hk => exact Or.inr rfl
    | 2, hk => exact Or.inr rfl
    | 3, hk => exact Or.inr rfl
    | 4, hk => exact Or.inr rfl
    | 5, hk => exact Or.inr rfl
    | 6, hk => exact Or.inr rfl
    | 7, hk => exact Or.inr rfl
    | 8, hk => exact Or.inr rfl
    | 9, hk => exact Or.inr rfl
    | 10, hk => exact Or.inr rfl
    | 11, hk => exact Or.inr rfl
    | 12, hk => exact Or.inr rfl
    | 13, hk => exact Or.inr rfl
    | 14, hk => exact Or.inr rfl
    | 15, hk => exact Or.inr rfl
    | 16, hk => exact Or.inr rfl
    | 17, hk => exact Or.inr rfl
    | 18, hk => exact Or.inr rfl
    | 19, hk => exact Or.inr rfl
    | 20, hk => exact Or.inr rfl
    | 21, hk => exact Or.inr rfl
    | 22, hk => exact Or.inr rfl
    | 23, hk => exact Or.inr rfl
    | 24, hk => exact Or.inr rfl
    | 25, hk => exact Or.inr rfl
    | 26, hk => exact Or.inr rfl
    | 27, hk => exact Or.inr rfl
    | 28, hk => exact Or.inr rfl
    | 29, hk => exact Or.inr rfl
    | 30, hk => exact Or.inr rfl
    | 31, hk => exact Or.inr rfl
    | 32, hk => exact Or.inl ⟨rfl, hk⟩
    | 33, hk => exact Or.inr rfl
    | 34, hk => exact Or.inr rfl
    | 35, hk => exact Or.inr rfl
    | k + 36, hk => exact (False.elim hk))
set_option maxRecDepth 100000 in
set_option maxHeartbeats 4000000 in
theorem b_3 {A B : ST} {ad : AD} {G : GH} (hW : World A B ad G) {j v : Nat} (hj : j < 42) : World (A) (setA B 3 j v) ad (va_up G (ad 33 0) (some (inA 42 (upd (rg B 3 0 42) j (nI v))))) := by
  have hc : inA 42 (upd (rg B 3 0 42) j (nI v)) = wC (A) (setA B 3 j v) ad 33 0 := by
    show _ = inA 42 (rg (setA B 3 j v) 3 0 42)
    have h9 := rg_set_s (A := B) (f := 3) (b := 0) (v := v) hj
    rw [Nat.zero_add] at h9
    rw [h9]
  rw [hc]
  exact hW.put 33 0 rfl (fun k i hk => hk) (fun k i hk => by
    match k, hk with
    | 0, hk => exact Or.inr rfl
    | 1, hk => exact Or.inr rfl
    | 2, hk => exact Or.inr rfl
    | 3, hk => exact Or.inr rfl
    | 4, hk => exact Or.inr rfl
    | 5, hk => exact Or.inr rfl
    | 6, hk => exact Or.inr rfl
    | 7, hk => exact Or.inr rfl
    | 8, hk => exact Or.inr rfl
    | 9, hk => exact Or.inr rfl
    | 10, hk => exact Or.inr rfl
    | 11, hk => exact Or.inr rfl
    | 12, hk => exact Or.inr rfl
    | 13, hk => exact Or.inr rfl
    | 14, hk => exact Or.inr rfl
    | 15, hk => exact Or.inr rfl
    | 16, hk => exact Or.inr rfl
    | 17, hk => exact Or.inr rfl
    | 18, hk => exact Or.inr rfl
    | 19, hk => exact Or.inr rfl
    | 20, hk => exact Or.inr rfl
    | 21, hk => exact Or.inr rfl
    | 22, hk => exact Or.inr rfl
    | 23, hk => exact Or.inr rfl
    | 24, hk => exact Or.inr rfl
    | 25, hk => exact Or.inr rfl
    | 26, hk => exact Or.inr rfl
    | 27, hk => exact Or.inr rfl
    | 28, hk => exact Or.inr rfl
    | 29, hk => exact Or.inr rfl
    | 30, hk => exact Or.inr rfl
    | 31, hk => exact Or.inr rfl
    | 32, hk => exact Or.inr rfl
    | 33, hk => exact Or.inl ⟨rfl, hk⟩
    | 34, hk => exact Or.inr rfl
    | 35, hk => exact Or.inr rfl
    | k + 36, hk => exact (False.elim hk))
set_option maxRecDepth 100000 in
set_option maxHeartbeats 4000000 in
theorem b_4 {A B : ST} {ad : AD} {G : GH} (hW : World A B ad G) {j v : Nat} (hj : j < 8) : World (A) (setA B 4 j v) ad (va_up G (ad 34 0) (some (inA 8 (upd (rg B 4 0 8) j (nI v))))) := by
  have hc : inA 8 (upd (rg B 4 0 8) j (nI v)) = wC (A) (setA B 4 j v) ad 34 0 := by
    show _ = inA 8 (rg (setA B 4 j v) 4 0 8)
    have h9 := rg_set_s (A := B) (f := 4) (b := 0) (v := v) hj
    rw [Nat.zero_add] at h9
    rw [h9]
  rw [hc]
  exact hW.put 34 0 rfl (fun k i hk => hk) (fun k i hk => by
    match k, hk with
    | 0, hk => exact Or.inr rfl
    | 1, hk => exact Or.inr rfl
    | 2, hk => exact Or.inr rfl
    | 3, hk => exact Or.inr rfl
    | 4, hk => exact Or.inr rfl
    | 5, hk => exact Or.inr rfl
    | 6, hk => exact Or.inr rfl
    | 7, hk => exact Or.inr rfl
    | 8, hk => exact Or.inr rfl
    | 9, hk => exact Or.inr rfl
    | 10, hk => exact Or.inr rfl
    | 11, hk => exact Or.inr rfl
    | 12, hk => exact Or.inr rfl
    | 13, hk => exact Or.inr rfl
    | 14, hk => exact Or.inr rfl
    | 15, hk => exact Or.inr rfl
    | 16, hk => exact Or.inr rfl
    | 17, hk => exact Or.inr rfl
    | 18, hk => exact Or.inr rfl
    | 19, hk => exact Or.inr rfl
    | 20, hk => exact Or.inr rfl
    | 21, hk => exact Or.inr rfl
    | 22, hk => exact Or.inr rfl
    | 23, hk => exact Or.inr rfl
    | 24, hk => exact Or.inr rfl
    | 25, hk => exact Or.inr rfl
    | 26, hk => exact Or.inr rfl
    | 27, hk => exact Or.inr rfl
    | 28, hk => exact Or.inr rfl
    | 29, hk => exact Or.inr rfl
    | 30, hk => exact Or.inr rfl
    | 31, hk => exact Or.inr rfl
    | 32, hk => exact Or.inr rfl
    | 33, hk => exact Or.inr rfl
    | 34, hk => exact Or.inl ⟨rfl, hk⟩
    | 35, hk => exact Or.inr rfl
    | k + 36, hk => exact (False.elim hk))
set_option maxRecDepth 100000 in
set_option maxHeartbeats 4000000 in
theorem b_5 {A B : ST} {ad : AD} {G : GH} (hW : World A B ad G) {j v : Nat} (hj : j < 3) : World (A) (setA B 5 j v) ad (va_up G (ad 35 0) (some (inA 3 (upd (rg B 5 0 3) j (nI v))))) := by
  have hc : inA 3 (upd (rg B 5 0 3) j (nI v)) = wC (A) (setA B 5 j v) ad 35 0 := by
    show _ = inA 3 (rg (setA B 5 j v) 5 0 3)
    have h9 := rg_set_s (A := B) (f := 5) (b := 0) (v := v) hj
    rw [Nat.zero_add] at h9
    rw [h9]
  rw [hc]
  exact hW.put 35 0 rfl (fun k i hk => hk) (fun k i hk => by
    match k, hk with
    | 0, hk => exact Or.inr rfl
    | 1, hk => exact Or.inr rfl
    | 2, hk => exact Or.inr rfl
    | 3, hk => exact Or.inr rfl
    | 4, hk => exact Or.inr rfl
    | 5, hk => exact Or.inr rfl
    | 6, hk => exact Or.inr rfl
    | 7, hk => exact Or.inr rfl
    | 8, hk => exact Or.inr rfl
    | 9, hk => exact Or.inr rfl
    | 10, hk => exact Or.inr rfl
    | 11, hk => exact Or.inr rfl
    | 12, hk => exact Or.inr rfl
    | 13, hk => exact Or.inr rfl
    | 14, hk => exact Or.inr rfl
    | 15, hk => exact Or.inr rfl
    | 16, hk => exact Or.inr rfl
    | 17, hk => exact Or.inr rfl
    | 18, hk => exact Or.inr rfl
    | 19, hk => exact Or.inr rfl
    | 20, hk => exact Or.inr rfl
    | 21, hk => exact Or.inr rfl
    | 22, hk => exact Or.inr rfl
    | 23, hk => exact Or.inr rfl
    | 24, hk => exact Or.inr rfl
    | 25, hk => exact Or.inr rfl
    | 26, hk => exact Or.inr rfl
    | 27, hk => exact Or.inr rfl
    | 28, hk => exact Or.inr rfl
    | 29, hk => exact Or.inr rfl
    | 30, hk => exact Or.inr rfl
    | 31, hk => exact Or.inr rfl
    | 32, hk => exact Or.inr rfl
    | 33, hk => exact Or.inr rfl
    | 34, hk => exact Or.inr rfl
    | 35, hk => exact Or.inl ⟨rfl, hk⟩
    | k + 36, hk => exact (False.elim hk))
