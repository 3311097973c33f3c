/-- a number that is below n, or not -/
def inB (x : Int32) (n : Nat) : Bool := !(decide (s_X8_isBelow x (nI n) = 0))
theorem inB_t {x : Int32} {n : Nat} (hn : n < 2 ^ 31) (h : inB x n = true) : ∃ k : Nat, k < n ∧ x = nI k := by
  refine ib_t hn fun q => ?_
  unfold inB at h
  rw [decide_eq_true q] at h
  cases h
theorem inB_f {x : Int32} {n : Nat} (h : inB x n = false) : s_X8_isBelow x (nI n) = 0 := by
  by_cases q : s_X8_isBelow x (nI n) = 0
  · exact q
  · unfold inB at h; rw [decide_eq_false q] at h; cases h
theorem inB_nI {k n : Nat} (hk : k < 2 ^ 31) (hn : n < 2 ^ 31) : inB (nI k) n = decide (k < n) := by
  unfold inB
  rw [ib_nI hk hn]
  by_cases h : k < n
  · rw [decide_eq_true h]; rfl
  · rw [decide_eq_false h]; rfl
theorem inB_s {x : Int32} {n : Nat} : s_X8_isBelow x (nI n) = b2i (inB x n) := by
  unfold inB
  by_cases h : s_X8_isBelow x (nI n) = 0
  · rw [h]; rfl
  · rw [decide_eq_false h]
    unfold s_X8_isBelow at h ⊢
    split
    · rw [if_pos (by assumption)] at h; exact absurd rfl h
    · rw [if_neg (by assumption)] at h
      split
      · rw [if_pos (by assumption)] at h; exact absurd rfl h
      · rfl
set_option maxRecDepth 100000 in
set_option maxHeartbeats 4000000 in
theorem c_X8_isWord {d b0 : Nat} {G : GH} {A B : ST} {ad : AD} (hW : World A B ad G) (hI : Inv A) (x : Int32) : CTd mX8_isWord (d + 1) b0 G [.ref (ad 0 0), .int x] 0 0 (some (.int (s_X8_isBelow x (nI (A 2 0))))) G := by
  have hb2 := hI.b2
  have hb9 := hI.b9
  have hb15 := hI.b15
  have hb18 := hI.b18
  refine CT.intro (by decide +kernel) rfl (Nat.le_of_ble_eq_true rfl) ?_
  show WP mX8_isWord _ _ _ _ _ 0 0 0 [(0, .ref (ad 0 0)), (1, .int x)] []
  refine r_iload_n dX8_isWord_0 rfl 1 rfl ?_
  refine r_aload_n dX8_isWord_1 rfl 0 rfl ?_
  refine r_get 1 dX8_isWord_2 fRX8_21 (hW.g 0 0 rfl) rfl ?_
  refine r_callV (st := [.int x]) [] 0 0 dX8_isWord_5 kX7_count nX7_count lRX8_83 (hW.g 3 0 rfl) rfl (c_X7_count hW hI) rfl rfl (Nat.le_of_ble_eq_true rfl) (Nat.le_refl _) (Nat.le_refl _) (fun _ _ h => h.elim) ?_
  refine cx_det (st2 := [.int (nI (A 2 0)), .int x]) rfl ?_
  refine r_callS (st := []) [.int x, .int (nI (A 2 0))] 0 0 dX8_isWord_8 kX8_isBelow nX8_isBelow lRX8_104 (c_X8_isBelow x (nI (A 2 0))) rfl rfl (Nat.le_of_ble_eq_true rfl) (Nat.le_refl _) (Nat.le_refl _) (fun _ _ h => h.elim) ?_
  refine cx_det (st2 := [.int (s_X8_isBelow x (nI (A 2 0)))]) rfl ?_
  refine r_ret .boolean dX8_isWord_11 rfl nb_X8_isBelow ?_
  exact ⟨rfl, rfl⟩
set_option maxRecDepth 100000 in
set_option maxHeartbeats 4000000 in
theorem c_X8_clauseAt_t {d b0 : Nat} {G : GH} {A B : ST} {ad : AD} (hW : World A B ad G) (hI : Inv A) {k : Nat} (hk : k < A 9 0) : CTd mX8_clauseAt (d + 1) b0 G [.ref (ad 0 0), .int (nI k)] 0 0 (some (.ref (ad 21 k))) G := by
  have hb2 := hI.b2
  have hb9 := hI.b9
  have hb15 := hI.b15
  have hb18 := hI.b18
  refine CT.intro (by decide +kernel) rfl (Nat.le_of_ble_eq_true rfl) ?_
  show WP mX8_clauseAt _ _ _ _ _ 0 0 0 [(0, .ref (ad 0 0)), (1, .int (nI k))] []
  refine r_iload_n dX8_clauseAt_0 rfl 1 rfl ?_
  refine r_aload_n dX8_clauseAt_1 rfl 0 rfl ?_
  refine r_get 8 dX8_clauseAt_2 fRX8_124 (hW.g 0 0 rfl) rfl ?_
  refine r_callS (st := []) [.int (nI k), .int (nI (A 9 0))] 0 0 dX8_clauseAt_5 kX8_isBelow nX8_isBelow lRX8_104 (c_X8_isBelow (nI k) (nI (A 9 0))) rfl rfl (Nat.le_of_ble_eq_true rfl) (Nat.le_refl _) (Nat.le_refl _) (fun _ _ h => h.elim) ?_
  refine cx_det (st2 := [.int (s_X8_isBelow (nI k) (nI (A 9 0)))]) rfl ?_
  refine r_if_eq 29 dX8_clauseAt_8 (by decide) (fun c_1 => absurd c_1 (by rw [ib_nI (by omega) (by omega), decide_eq_true hk]; decide)) (fun c_1 => ?_)
  refine r_iload_n dX8_clauseAt_11 rfl 1 rfl ?_
  refine r_aload_n dX8_clauseAt_12 rfl 0 rfl ?_
  refine r_get 2 dX8_clauseAt_13 fRX8_27 (hW.g 0 0 rfl) rfl ?_
  refine r_alen (v := nI 10) dX8_clauseAt_16 (hW.g 7 0 rfl) rfl ?_
  refine r_icmp_ge 29 dX8_clauseAt_17 (by decide) (fun c_2 => absurd c_2 (nI_ge (by omega) (by decide))) (fun c_2 => ?_)
  refine r_aload_n dX8_clauseAt_20 rfl 0 rfl ?_
  refine r_get 2 dX8_clauseAt_21 fRX8_27 (hW.g 0 0 rfl) rfl ?_
  refine r_iload_n dX8_clauseAt_24 rfl 1 rfl ?_
  refine r_aald dX8_clauseAt_25 (hW.g 7 0 rfl) (vp_in_nI (by omega) (by decide)) ?_
  refine r_topq (.ref (ad 21 k)) (by rw [nI_cl (by omega)]; rw [if_pos hk]; rfl) ?_
  refine r_goto 30 dX8_clauseAt_26 (by decide) ?_
  refine r_aret dX8_clauseAt_30 rfl (Or.inl ⟨_, rfl⟩) (Or.inr ⟨_, rfl⟩) ?_
  exact ⟨rfl, rfl⟩
set_option maxRecDepth 100000 in
set_option maxHeartbeats 4000000 in
theorem c_X8_clauseAt_f {d b0 : Nat} {G : GH} {A B : ST} {ad : AD} (hW : World A B ad G) (hI : Inv A) {x : Int32} (hx : inB x (A 9 0) = false) : CTd mX8_clauseAt (d + 1) b0 G [.ref (ad 0 0), .int x] 0 0 (some .null) G := by
  have hb2 := hI.b2
  have hb9 := hI.b9
  have hb15 := hI.b15
  have hb18 := hI.b18
  refine CT.intro (by decide +kernel) rfl (Nat.le_of_ble_eq_true rfl) ?_
  show WP mX8_clauseAt _ _ _ _ _ 0 0 0 [(0, .ref (ad 0 0)), (1, .int x)] []
  refine r_iload_n dX8_clauseAt_0 rfl 1 rfl ?_
  refine r_aload_n dX8_clauseAt_1 rfl 0 rfl ?_
  refine r_get 8 dX8_clauseAt_2 fRX8_124 (hW.g 0 0 rfl) rfl ?_
  refine r_callS (st := []) [.int x, .int (nI (A 9 0))] 0 0 dX8_clauseAt_5 kX8_isBelow nX8_isBelow lRX8_104 (c_X8_isBelow x (nI (A 9 0))) rfl rfl (Nat.le_of_ble_eq_true rfl) (Nat.le_refl _) (Nat.le_refl _) (fun _ _ h => h.elim) ?_
  refine cx_det (st2 := [.int (s_X8_isBelow x (nI (A 9 0)))]) rfl ?_
  refine r_if_eq 29 dX8_clauseAt_8 (by decide) (fun c_1 => ?_) (fun c_1 => absurd (inB_f hx) c_1)
  refine r_null dX8_clauseAt_29 ?_
  refine r_aret dX8_clauseAt_30 rfl (Or.inl ⟨_, rfl⟩) (Or.inl rfl) ?_
  exact ⟨rfl, rfl⟩
set_option maxRecDepth 100000 in
set_option maxHeartbeats 4000000 in
theorem c_X8_letterAt_t {d b0 : Nat} {G : GH} {A B : ST} {ad : AD} (hW : World A B ad G) (hI : Inv A) {k : Nat} (hk : k < A 15 0) : CTd mX8_letterAt (d + 1) b0 G [.ref (ad 0 0), .int (nI k)] 0 0 (some (.ref (ad 27 k))) G := by
  have hb2 := hI.b2
  have hb9 := hI.b9
  have hb15 := hI.b15
  have hb18 := hI.b18
  refine CT.intro (by decide +kernel) rfl (Nat.le_of_ble_eq_true rfl) ?_
  show WP mX8_letterAt _ _ _ _ _ 0 0 0 [(0, .ref (ad 0 0)), (1, .int (nI k))] []
  refine r_iload_n dX8_letterAt_0 rfl 1 rfl ?_
  refine r_aload_n dX8_letterAt_1 rfl 0 rfl ?_
  refine r_get 9 dX8_letterAt_2 fRX8_182 (hW.g 0 0 rfl) rfl ?_
  refine r_callS (st := []) [.int (nI k), .int (nI (A 15 0))] 0 0 dX8_letterAt_5 kX8_isBelow nX8_isBelow lRX8_104 (c_X8_isBelow (nI k) (nI (A 15 0))) rfl rfl (Nat.le_of_ble_eq_true rfl) (Nat.le_refl _) (Nat.le_refl _) (fun _ _ h => h.elim) ?_
  refine cx_det (st2 := [.int (s_X8_isBelow (nI k) (nI (A 15 0)))]) rfl ?_
  refine r_if_eq 29 dX8_letterAt_8 (by decide) (fun c_1 => absurd c_1 (by rw [ib_nI (by omega) (by omega), decide_eq_true hk]; decide)) (fun c_1 => ?_)
  refine r_iload_n dX8_letterAt_11 rfl 1 rfl ?_
  refine r_aload_n dX8_letterAt_12 rfl 0 rfl ?_
  refine r_get 3 dX8_letterAt_13 fRX8_33 (hW.g 0 0 rfl) rfl ?_
  refine r_alen (v := nI 6) dX8_letterAt_16 (hW.g 8 0 rfl) rfl ?_
  refine r_icmp_ge 29 dX8_letterAt_17 (by decide) (fun c_2 => absurd c_2 (nI_ge (by omega) (by decide))) (fun c_2 => ?_)
  refine r_aload_n dX8_letterAt_20 rfl 0 rfl ?_
  refine r_get 3 dX8_letterAt_21 fRX8_33 (hW.g 0 0 rfl) rfl ?_
  refine r_iload_n dX8_letterAt_24 rfl 1 rfl ?_
  refine r_aald dX8_letterAt_25 (hW.g 8 0 rfl) (vp_in_nI (by omega) (by decide)) ?_
  refine r_topq (.ref (ad 27 k)) (by rw [nI_cl (by omega)]; rw [if_pos hk]; rfl) ?_
  refine r_goto 30 dX8_letterAt_26 (by decide) ?_
  refine r_aret dX8_letterAt_30 rfl (Or.inl ⟨_, rfl⟩) (Or.inr ⟨_, rfl⟩) ?_
  exact ⟨rfl, rfl⟩
set_option maxRecDepth 100000 in
set_option maxHeartbeats 4000000 in
theorem c_X8_letterAt_f {d b0 : Nat} {G : GH} {A B : ST} {ad : AD} (hW : World A B ad G) (hI : Inv A) {x : Int32} (hx : inB x (A 15 0) = false) : CTd mX8_letterAt (d + 1) b0 G [.ref (ad 0 0), .int x] 0 0 (some .null) G := by
  have hb2 := hI.b2
  have hb9 := hI.b9
  have hb15 := hI.b15
  have hb18 := hI.b18
  refine CT.intro (by decide +kernel) rfl (Nat.le_of_ble_eq_true rfl) ?_
  show WP mX8_letterAt _ _ _ _ _ 0 0 0 [(0, .ref (ad 0 0)), (1, .int x)] []
  refine r_iload_n dX8_letterAt_0 rfl 1 rfl ?_
  refine r_aload_n dX8_letterAt_1 rfl 0 rfl ?_
  refine r_get 9 dX8_letterAt_2 fRX8_182 (hW.g 0 0 rfl) rfl ?_
  refine r_callS (st := []) [.int x, .int (nI (A 15 0))] 0 0 dX8_letterAt_5 kX8_isBelow nX8_isBelow lRX8_104 (c_X8_isBelow x (nI (A 15 0))) rfl rfl (Nat.le_of_ble_eq_true rfl) (Nat.le_refl _) (Nat.le_refl _) (fun _ _ h => h.elim) ?_
  refine cx_det (st2 := [.int (s_X8_isBelow x (nI (A 15 0)))]) rfl ?_
  refine r_if_eq 29 dX8_letterAt_8 (by decide) (fun c_1 => ?_) (fun c_1 => absurd (inB_f hx) c_1)
  refine r_null dX8_letterAt_29 ?_
  refine r_aret dX8_letterAt_30 rfl (Or.inl ⟨_, rfl⟩) (Or.inl rfl) ?_
  exact ⟨rfl, rfl⟩
set_option maxRecDepth 100000 in
set_option maxHeartbeats 4000000 in
theorem c_X8_dataAt_t {d b0 : Nat} {G : GH} {A B : ST} {ad : AD} (hW : World A B ad G) (hI : Inv A) {k : Nat} (hk : k < A 18 0) : CTd mX8_dataAt (d + 1) b0 G [.ref (ad 0 0), .int (nI k)] 0 0 (some (.ref (ad 29 k))) G := by
  have hb2 := hI.b2
  have hb9 := hI.b9
  have hb15 := hI.b15
  have hb18 := hI.b18
  refine CT.intro (by decide +kernel) rfl (Nat.le_of_ble_eq_true rfl) ?_
  show WP mX8_dataAt _ _ _ _ _ 0 0 0 [(0, .ref (ad 0 0)), (1, .int (nI k))] []
  refine r_iload_n dX8_dataAt_0 rfl 1 rfl ?_
  refine r_aload_n dX8_dataAt_1 rfl 0 rfl ?_
  refine r_get 10 dX8_dataAt_2 fRX8_206 (hW.g 0 0 rfl) rfl ?_
  refine r_callS (st := []) [.int (nI k), .int (nI (A 18 0))] 0 0 dX8_dataAt_5 kX8_isBelow nX8_isBelow lRX8_104 (c_X8_isBelow (nI k) (nI (A 18 0))) rfl rfl (Nat.le_of_ble_eq_true rfl) (Nat.le_refl _) (Nat.le_refl _) (fun _ _ h => h.elim) ?_
  refine cx_det (st2 := [.int (s_X8_isBelow (nI k) (nI (A 18 0)))]) rfl ?_
  refine r_if_eq 29 dX8_dataAt_8 (by decide) (fun c_1 => absurd c_1 (by rw [ib_nI (by omega) (by omega), decide_eq_true hk]; decide)) (fun c_1 => ?_)
  refine r_iload_n dX8_dataAt_11 rfl 1 rfl ?_
  refine r_aload_n dX8_dataAt_12 rfl 0 rfl ?_
  refine r_get 4 dX8_dataAt_13 fRX8_39 (hW.g 0 0 rfl) rfl ?_
  refine r_alen (v := nI 8) dX8_dataAt_16 (hW.g 9 0 rfl) rfl ?_
  refine r_icmp_ge 29 dX8_dataAt_17 (by decide) (fun c_2 => absurd c_2 (nI_ge (by omega) (by decide))) (fun c_2 => ?_)
  refine r_aload_n dX8_dataAt_20 rfl 0 rfl ?_
  refine r_get 4 dX8_dataAt_21 fRX8_39 (hW.g 0 0 rfl) rfl ?_
  refine r_iload_n dX8_dataAt_24 rfl 1 rfl ?_
  refine r_aald dX8_dataAt_25 (hW.g 9 0 rfl) (vp_in_nI (by omega) (by decide)) ?_
  refine r_topq (.ref (ad 29 k)) (by rw [nI_cl (by omega)]; rw [if_pos hk]; rfl) ?_
  refine r_goto 30 dX8_dataAt_26 (by decide) ?_
  refine r_aret dX8_dataAt_30 rfl (Or.inl ⟨_, rfl⟩) (Or.inr ⟨_, rfl⟩) ?_
  exact ⟨rfl, rfl⟩
set_option maxRecDepth 100000 in
set_option maxHeartbeats 4000000 in
theorem c_X8_dataAt_f {d b0 : Nat} {G : GH} {A B : ST} {ad : AD} (hW : World A B ad G) (hI : Inv A) {x : Int32} (hx : inB x (A 18 0) = false) : CTd mX8_dataAt (d + 1) b0 G [.ref (ad 0 0), .int x] 0 0 (some .null) G := by
  have hb2 := hI.b2
  have hb9 := hI.b9
  have hb15 := hI.b15
  have hb18 := hI.b18
  refine CT.intro (by decide +kernel) rfl (Nat.le_of_ble_eq_true rfl) ?_
  show WP mX8_dataAt _ _ _ _ _ 0 0 0 [(0, .ref (ad 0 0)), (1, .int x)] []
  refine r_iload_n dX8_dataAt_0 rfl 1 rfl ?_
  refine r_aload_n dX8_dataAt_1 rfl 0 rfl ?_
  refine r_get 10 dX8_dataAt_2 fRX8_206 (hW.g 0 0 rfl) rfl ?_
  refine r_callS (st := []) [.int x, .int (nI (A 18 0))] 0 0 dX8_dataAt_5 kX8_isBelow nX8_isBelow lRX8_104 (c_X8_isBelow x (nI (A 18 0))) rfl rfl (Nat.le_of_ble_eq_true rfl) (Nat.le_refl _) (Nat.le_refl _) (fun _ _ h => h.elim) ?_
  refine cx_det (st2 := [.int (s_X8_isBelow x (nI (A 18 0)))]) rfl ?_
  refine r_if_eq 29 dX8_dataAt_8 (by decide) (fun c_1 => ?_) (fun c_1 => absurd (inB_f hx) c_1)
  refine r_null dX8_dataAt_29 ?_
  refine r_aret dX8_dataAt_30 rfl (Or.inl ⟨_, rfl⟩) (Or.inl rfl) ?_
  exact ⟨rfl, rfl⟩
set_option maxRecDepth 100000 in
set_option maxHeartbeats 4000000 in
theorem c_X0_templateIn_t {d b0 : Nat} {G : GH} {A B : ST} {ad : AD} (hW : World A B ad G) (hI : Inv A) {c l : Nat} (hc : c < A 9 0) (hl : l < 3) : CTd mX0_templateIn (d + 1) b0 G [.ref (ad 21 c), .int (nI l)] 0 0 (some (.ref (ad 24 (3 * c + l)))) G := by
  have hb2 := hI.b2
  have hb9 := hI.b9
  have hb15 := hI.b15
  have hb18 := hI.b18
  refine CT.intro (by decide +kernel) rfl (Nat.le_of_ble_eq_true rfl) ?_
  show WP mX0_templateIn _ _ _ _ _ 0 0 0 [(0, .ref (ad 21 c)), (1, .int (nI l))] []
  refine r_iload_n dX0_templateIn_0 rfl 1 rfl ?_
  refine r_aload_n dX0_templateIn_1 rfl 0 rfl ?_
  refine r_get 1 dX0_templateIn_2 fRX0_11 (hW.g 21 c hc) rfl ?_
  refine r_alen (v := nI 3) dX0_templateIn_5 (hW.g 22 c hc) rfl ?_
  refine r_callSN (st := []) [.int (nI l), .int (nI 3)] 0 0 dX0_templateIn_6 kX8_isBelow nX8_isBelow lRX0_26 (c_X8_isBelow (nI l) (nI 3)) rfl rfl (Nat.le_of_ble_eq_true rfl) (Nat.le_refl _) (Nat.le_refl _) (fun _ _ h => h.elim) ?_
  refine cx_det (st2 := [.int (s_X8_isBelow (nI l) (nI 3))]) rfl ?_
  refine r_if_eq 21 dX0_templateIn_9 (by decide) (fun c_1 => absurd c_1 (by rw [ib_nI (by omega) (by omega), decide_eq_true hl]; decide)) (fun c_1 => ?_)
  refine r_aload_n dX0_templateIn_12 rfl 0 rfl ?_
  refine r_get 1 dX0_templateIn_13 fRX0_11 (hW.g 21 c hc) rfl ?_
  refine r_iload_n dX0_templateIn_16 rfl 1 rfl ?_
  refine r_aald dX0_templateIn_17 (hW.g 22 c hc) (vp_in_nI hl (by decide)) ?_
  refine r_topq (.ref (ad 24 (3 * c + l))) (by rw [nI_cl (by omega)]; rw [if_pos hl]; rfl) ?_
  refine r_goto 22 dX0_templateIn_18 (by decide) ?_
  refine r_aret dX0_templateIn_22 rfl (Or.inl ⟨_, rfl⟩) (Or.inr ⟨_, rfl⟩) ?_
  exact ⟨rfl, rfl⟩
set_option maxRecDepth 100000 in
set_option maxHeartbeats 4000000 in
theorem c_X0_templateIn_f {d b0 : Nat} {G : GH} {A B : ST} {ad : AD} (hW : World A B ad G) (hI : Inv A) {c : Nat} {x : Int32} (hc : c < A 9 0) (hx : inB x 3 = false) : CTd mX0_templateIn (d + 1) b0 G [.ref (ad 21 c), .int x] 0 0 (some .null) G := by
  have hb2 := hI.b2
  have hb9 := hI.b9
  have hb15 := hI.b15
  have hb18 := hI.b18
  refine CT.intro (by decide +kernel) rfl (Nat.le_of_ble_eq_true rfl) ?_
  show WP mX0_templateIn _ _ _ _ _ 0 0 0 [(0, .ref (ad 21 c)), (1, .int x)] []
  refine r_iload_n dX0_templateIn_0 rfl 1 rfl ?_
  refine r_aload_n dX0_templateIn_1 rfl 0 rfl ?_
  refine r_get 1 dX0_templateIn_2 fRX0_11 (hW.g 21 c hc) rfl ?_
  refine r_alen (v := nI 3) dX0_templateIn_5 (hW.g 22 c hc) rfl ?_
  refine r_callSN (st := []) [.int x, .int (nI 3)] 0 0 dX0_templateIn_6 kX8_isBelow nX8_isBelow lRX0_26 (c_X8_isBelow x (nI 3)) rfl rfl (Nat.le_of_ble_eq_true rfl) (Nat.le_refl _) (Nat.le_refl _) (fun _ _ h => h.elim) ?_
  refine cx_det (st2 := [.int (s_X8_isBelow x (nI 3))]) rfl ?_
  refine r_if_eq 21 dX0_templateIn_9 (by decide) (fun c_1 => ?_) (fun c_1 => absurd (inB_f hx) c_1)
  refine r_null dX0_templateIn_21 ?_
  refine r_aret dX0_templateIn_22 rfl (Or.inl ⟨_, rfl⟩) (Or.inl rfl) ?_
  exact ⟨rfl, rfl⟩
set_option maxRecDepth 100000 in
set_option maxHeartbeats 4000000 in
theorem c_X8_templateAt_t {d b0 : Nat} {G : GH} {A B : ST} {ad : AD} (hW : World A B ad G) (hI : Inv A) {c l : Nat} (hc : c < A 9 0) (hl : l < 3) : CTd mX8_templateAt (d + 2) b0 G [.ref (ad 0 0), .int (nI c), .int (nI l)] 0 0 (some (.ref (ad 24 (3 * c + l)))) G := by
  have hb2 := hI.b2
  have hb9 := hI.b9
  have hb15 := hI.b15
  have hb18 := hI.b18
  refine CT.intro (by decide +kernel) rfl (Nat.le_of_ble_eq_true rfl) ?_
  show WP mX8_templateAt _ _ _ _ _ 0 0 0 [(0, .ref (ad 0 0)), (1, .int (nI c)), (2, .int (nI l))] []
  refine r_aload_n dX8_templateAt_0 rfl 0 rfl ?_
  refine r_iload_n dX8_templateAt_1 rfl 1 rfl ?_
  refine r_callV (st := []) [.int (nI c)] 0 0 dX8_templateAt_2 kX8_clauseAt nX8_clauseAt lRX8_163 (hW.g 0 0 rfl) rfl (c_X8_clauseAt_t hW hI hc) rfl rfl (Nat.le_of_ble_eq_true rfl) (Nat.le_refl _) (Nat.le_refl _) (fun _ _ h => h.elim) ?_
  refine cx_det (st2 := [.ref (ad 21 c)]) rfl ?_
  refine r_astore_n [(3, .ref (ad 21 c)), (0, .ref (ad 0 0)), (1, .int (nI c)), (2, .int (nI l))] dX8_templateAt_5 rfl (by decide) rfl ?_
  refine r_aload_n dX8_templateAt_6 rfl 0 rfl ?_
  refine r_ifnonnullR 14 dX8_templateAt_7 (by decide) ?_
  refine r_aload_n dX8_templateAt_14 rfl 0 rfl ?_
  refine r_iload_n dX8_templateAt_15 rfl 3 rfl ?_
  refine r_callV (st := []) [.int (nI l)] 0 0 dX8_templateAt_16 kX0_templateIn nX0_templateIn lRX8_278 (hW.g 21 c hc) rfl (c_X0_templateIn_t hW hI hc hl) rfl rfl (Nat.le_of_ble_eq_true rfl) (Nat.le_refl _) (Nat.le_refl _) (fun _ _ h => h.elim) ?_
  refine cx_det (st2 := [.ref (ad 24 (3 * c + l))]) rfl ?_
  refine r_aret dX8_templateAt_19 rfl (Or.inl ⟨_, rfl⟩) (Or.inr ⟨_, rfl⟩) ?_
  exact ⟨rfl, rfl⟩
set_option maxRecDepth 100000 in
set_option maxHeartbeats 4000000 in
theorem c_X8_templateAt_f1 {d b0 : Nat} {G : GH} {A B : ST} {ad : AD} (hW : World A B ad G) (hI : Inv A) {x y : Int32} (hc : inB x (A 9 0) = false) : CTd mX8_templateAt (d + 2) b0 G [.ref (ad 0 0), .int x, .int y] 0 0 (some .null) G := by
  have hb2 := hI.b2
  have hb9 := hI.b9
  have hb15 := hI.b15
  have hb18 := hI.b18
  refine CT.intro (by decide +kernel) rfl (Nat.le_of_ble_eq_true rfl) ?_
  show WP mX8_templateAt _ _ _ _ _ 0 0 0 [(0, .ref (ad 0 0)), (1, .int x), (2, .int y)] []
  refine r_aload_n dX8_templateAt_0 rfl 0 rfl ?_
  refine r_iload_n dX8_templateAt_1 rfl 1 rfl ?_
  refine r_callV (st := []) [.int x] 0 0 dX8_templateAt_2 kX8_clauseAt nX8_clauseAt lRX8_163 (hW.g 0 0 rfl) rfl (c_X8_clauseAt_f hW hI hc) rfl rfl (Nat.le_of_ble_eq_true rfl) (Nat.le_refl _) (Nat.le_refl _) (fun _ _ h => h.elim) ?_
  refine cx_det (st2 := [.null]) rfl ?_
  refine r_astore_nN [(3, .null), (0, .ref (ad 0 0)), (1, .int x), (2, .int y)] dX8_templateAt_5 rfl (by decide) rfl ?_
  refine r_aload_nN dX8_templateAt_6 rfl 0 rfl ?_
  refine r_ifnonnullN dX8_templateAt_7 ?_
  refine r_null dX8_templateAt_10 ?_
  refine r_goto 19 dX8_templateAt_11 (by decide) ?_
  refine r_aret dX8_templateAt_19 rfl (Or.inl ⟨_, rfl⟩) (Or.inl rfl) ?_
  exact ⟨rfl, rfl⟩
set_option maxRecDepth 100000 in
set_option maxHeartbeats 4000000 in
theorem c_X8_templateAt_f2 {d b0 : Nat} {G : GH} {A B : ST} {ad : AD} (hW : World A B ad G) (hI : Inv A) {c : Nat} {y : Int32} (hc : c < A 9 0) (hl : inB y 3 = false) : CTd mX8_templateAt (d + 2) b0 G [.ref (ad 0 0), .int (nI c), .int y] 0 0 (some .null) G := by
  have hb2 := hI.b2
  have hb9 := hI.b9
  have hb15 := hI.b15
  have hb18 := hI.b18
  refine CT.intro (by decide +kernel) rfl (Nat.le_of_ble_eq_true rfl) ?_
  show WP mX8_templateAt _ _ _ _ _ 0 0 0 [(0, .ref (ad 0 0)), (1, .int (nI c)), (2, .int y)] []
  refine r_aload_n dX8_templateAt_0 rfl 0 rfl ?_
  refine r_iload_n dX8_templateAt_1 rfl 1 rfl ?_
  refine r_callV (st := []) [.int (nI c)] 0 0 dX8_templateAt_2 kX8_clauseAt nX8_clauseAt lRX8_163 (hW.g 0 0 rfl) rfl (c_X8_clauseAt_t hW hI hc) rfl rfl (Nat.le_of_ble_eq_true rfl) (Nat.le_refl _) (Nat.le_refl _) (fun _ _ h => h.elim) ?_
  refine cx_det (st2 := [.ref (ad 21 c)]) rfl ?_
  refine r_astore_n [(3, .ref (ad 21 c)), (0, .ref (ad 0 0)), (1, .int (nI c)), (2, .int y)] dX8_templateAt_5 rfl (by decide) rfl ?_
  refine r_aload_n dX8_templateAt_6 rfl 0 rfl ?_
  refine r_ifnonnullR 14 dX8_templateAt_7 (by decide) ?_
  refine r_aload_n dX8_templateAt_14 rfl 0 rfl ?_
  refine r_iload_n dX8_templateAt_15 rfl 3 rfl ?_
  refine r_callV (st := []) [.int y] 0 0 dX8_templateAt_16 kX0_templateIn nX0_templateIn lRX8_278 (hW.g 21 c hc) rfl (c_X0_templateIn_f hW hI hc hl) rfl rfl (Nat.le_of_ble_eq_true rfl) (Nat.le_refl _) (Nat.le_refl _) (fun _ _ h => h.elim) ?_
  refine cx_det (st2 := [.null]) rfl ?_
  refine r_aret dX8_templateAt_19 rfl (Or.inl ⟨_, rfl⟩) (Or.inl rfl) ?_
  exact ⟨rfl, rfl⟩
theorem c_X8_templateAt_f {d b0 : Nat} {G : GH} {A B : ST} {ad : AD} (hW : World A B ad G) (hI : Inv A) {x y : Int32} (h : (inB x (A 9 0) && inB y 3) = false) : CTd mX8_templateAt (d + 2) b0 G [.ref (ad 0 0), .int x, .int y] 0 0 (some .null) G := by
  have hb9 := hI.b9
  cases h1 : inB x (A 9 0) with
  | false => exact c_X8_templateAt_f1 hW hI h1
  | true =>
    rw [h1] at h
    obtain ⟨c, hc, rfl⟩ := inB_t (by omega) h1
    exact c_X8_templateAt_f2 hW hI hc h
def cnx (w : Nat) (x : Int32) : Nat := if s_X8_canStand x (nI w) = 0 then 5 else if (decide (0 < w) || decide (x = 91)) && decide (w < 4) then w + 1 else 0
def cw (f : Nat → Int32) : Nat → Nat
  | 0 => 0
  | n + 1 => if cw f n = 5 then 5 else cnx (cw f n) (f n)
theorem cw_le (f : Nat → Int32) : ∀ n, cw f n ≤ 5
  | 0 => Nat.zero_le 5
  | n + 1 => by
    show (if cw f n = 5 then 5 else cnx (cw f n) (f n)) ≤ 5
    split
    · decide
    · unfold cnx
      split
      · decide
      · split
        · rename_i h; simp at h; omega
        · decide
/-- the first fault: a place before len that cannot stand, or len, or none (-1) -/
def ffI (f : Nat → Int32) (len : Nat) : Nat → Int32
  | 0 => if len = 0 then nI 0 else if cw f len = 0 then -1 else nI len
  | n + 1 => if cw f (len - n) = 5 then nI (len - (n + 1)) else ffI f len n
def ffS (f : Nat → Int32) (len : Nat) : Int32 := ffI f len len
