theorem c_mLang {d b0 : Nat} {G : GH} (x : Int32) : CTd mX9_isLanguage (d + 1) b0 G [.int x] 0 0 (some (.int (b2i (inB x 3)))) G := by
  rw [← in_s (n := 3) (by decide)]
  exact c_X9_isLanguage x
theorem c_mat {d b0 : Nat} {G : GH} (c l : Nat) : CTd mX9_at d b0 G [.int (nI c), .int (nI l)] 0 0 (some (.int (nI (3 * c + l)))) G := by
  have h := c_X9_at (d := d) (b0 := b0) (G := G) (nI c) (nI l)
  have e : s_X9_at (nI c) (nI l) = nI (3 * c + l) := by
    unfold s_X9_at
    have e1 : (3 : Int32) * nI c = nI (3 * c) := pk_mul 3 c
    rw [e1, nI_add]
  rw [e] at h
  exact h
set_option maxRecDepth 100000 in
set_option maxHeartbeats 4000000 in
theorem c_X9_thrown {d b0 : Nat} {G : GH} {A B : ST} {ad : AD} (hW : World A B ad G)  : CTd mX9_thrown d b0 G [.ref (ad 31 0)] 0 0 (some (.int (nI (B 26 0)))) G := by
  refine CT.intro (by decide +kernel) rfl (Nat.le_of_ble_eq_true rfl) ?_
  show WP mX9_thrown _ _ _ _ _ 0 0 0 [(0, .ref (ad 31 0))] []
  refine r_aload_n dX9_thrown_0 rfl 0 rfl ?_
  refine r_get 26 dX9_thrown_1 fRX9_69 (hW.g 31 0 rfl) rfl ?_
  refine r_ireti dX9_thrown_4 rfl ?_
  exact ⟨rfl, rfl⟩
set_option maxRecDepth 100000 in
set_option maxHeartbeats 4000000 in
theorem c_goes0 {d b0 : Nat} {G : GH} {A B : ST} {ad : AD} (hW : World A B ad G) (cd : Nat) (hcd : cd = 0) : CTd mX9_goes d b0 G [.ref (ad 31 0), .int (nI cd)] 0 0 (some (.int 1)) (va_up G (ad 31 0) (some (.inr (9, (mF B ad).set 26 (.int (nI cd)))))) := by
  refine CT.intro (by decide +kernel) rfl (Nat.le_of_ble_eq_true rfl) ?_
  show WP mX9_goes _ _ _ _ _ 0 0 0 [(0, .ref (ad 31 0)), (1, .int (nI cd))] []
  refine r_aload_n dX9_goes_0 rfl 0 rfl ?_
  refine r_iload_n dX9_goes_1 rfl 1 rfl ?_
  refine r_put 26 (.int) dX9_goes_2 gRX9_69 (hW.g 31 0 rfl) (Nat.le_of_ble_eq_true rfl) rfl rfl ?_
  have hW_1 : World A (setA B 26 0 cd) ad (va_up G (ad 31 0) (some (.inr (9, (mF B ad).set 26 (.int (nI cd)))))) := m_s26 hW cd
  refine r_heap (G' := va_up G (ad 31 0) (some (.inr (9, (mF B ad).set 26 (.int (nI cd)))))) rfl ?_
  refine r_iload_n dX9_goes_5 rfl 1 rfl ?_
  refine r_if_ne 13 dX9_goes_6 (by decide) (fun c_2 => absurd (show nI cd = 0 by rw [hcd]; rfl) c_2) (fun c_2 => ?_)
  refine r_iconst (v := 1) dX9_goes_9 (by decide) ?_
  refine r_goto 14 dX9_goes_10 (by decide) ?_
  refine r_ret .boolean dX9_goes_14 rfl rfl ?_
  exact ⟨rfl, rfl⟩
set_option maxRecDepth 100000 in
set_option maxHeartbeats 4000000 in
theorem c_goes1 {d b0 : Nat} {G : GH} {A B : ST} {ad : AD} (hW : World A B ad G) (cd : Nat) (hcd : cd ≠ 0) (hlt : cd < 2 ^ 31) : CTd mX9_goes d b0 G [.ref (ad 31 0), .int (nI cd)] 0 0 (some (.int 0)) (va_up G (ad 31 0) (some (.inr (9, (mF B ad).set 26 (.int (nI cd)))))) := by
  refine CT.intro (by decide +kernel) rfl (Nat.le_of_ble_eq_true rfl) ?_
  show WP mX9_goes _ _ _ _ _ 0 0 0 [(0, .ref (ad 31 0)), (1, .int (nI cd))] []
  refine r_aload_n dX9_goes_0 rfl 0 rfl ?_
  refine r_iload_n dX9_goes_1 rfl 1 rfl ?_
  refine r_put 26 (.int) dX9_goes_2 gRX9_69 (hW.g 31 0 rfl) (Nat.le_of_ble_eq_true rfl) rfl rfl ?_
  have hW_1 : World A (setA B 26 0 cd) ad (va_up G (ad 31 0) (some (.inr (9, (mF B ad).set 26 (.int (nI cd)))))) := m_s26 hW cd
  refine r_heap (G' := va_up G (ad 31 0) (some (.inr (9, (mF B ad).set 26 (.int (nI cd)))))) rfl ?_
  refine r_iload_n dX9_goes_5 rfl 1 rfl ?_
  refine r_if_ne 13 dX9_goes_6 (by decide) (fun c_2 => ?_) (fun c_2 => absurd c_2 (show ¬ nI cd = 0 from fun q => hcd (ni_eq (b := 0) hlt (by decide) q)))
  refine r_iconst (v := 0) dX9_goes_13 (by decide) ?_
  refine r_ret .boolean dX9_goes_14 rfl rfl ?_
  exact ⟨rfl, rfl⟩
theorem c_goes {d b0 : Nat} {G : GH} {A B : ST} {ad : AD} (hW : World A B ad G) (cd : Nat) (hlt : cd < 2 ^ 31 := by decide) : CTd mX9_goes d b0 G [.ref (ad 31 0), .int (nI cd)] 0 0 (some (.int (if cd = 0 then 1 else 0))) (va_up G (ad 31 0) (some (.inr (9, (mF B ad).set 26 (.int (nI cd)))))) := by
  by_cases h : cd = 0
  · rw [if_pos h]; exact c_goes0 hW cd h
  · rw [if_neg h]; exact c_goes1 hW cd h hlt
set_option maxRecDepth 100000 in
set_option maxHeartbeats 4000000 in
theorem c_X9_isWord {d b0 : Nat} {G : GH} {A B : ST} {ad : AD} (hW : World A B ad G) (hb : B 2 0 ≤ 12) (x : Int32) : CTd mX9_isWord (d + 1) b0 G [.ref (ad 31 0), .int x] 0 0 (some (.int (b2i (inB x (B 2 0))))) G := by
  refine CT.intro (by decide +kernel) rfl (Nat.le_of_ble_eq_true rfl) ?_
  show WP mX9_isWord _ _ _ _ _ 0 0 0 [(0, .ref (ad 31 0)), (1, .int x)] []
  refine r_iload_n dX9_isWord_0 rfl 1 rfl ?_
  refine r_iconst (v := 0) dX9_isWord_1 (by decide) ?_
  refine r_aload_n dX9_isWord_2 rfl 0 rfl ?_
  refine r_get 2 dX9_isWord_3 fRX9_77 (hW.g 31 0 rfl) rfl ?_
  refine r_iconst (v := 1) dX9_isWord_6 (by decide) ?_
  refine r_isub dX9_isWord_7 ?_
  refine r_callS (st := []) [.int x, .int 0, .int ((nI (B 2 0)) - 1)] 0 0 dX9_isWord_8 kX9_isIn nX9_isIn lRX9_73 (c_in (n := B 2 0) x (by omega) rfl) rfl rfl (Nat.le_of_ble_eq_true rfl) (Nat.le_refl _) (Nat.le_refl _) (fun _ _ h => h.elim) ?_
  refine cx_det (st2 := [.int (b2i (inB x (B 2 0)))]) rfl ?_
  refine r_ret .boolean dX9_isWord_11 rfl b2i_Z ?_
  exact ⟨rfl, rfl⟩
set_option maxRecDepth 100000 in
set_option maxHeartbeats 4000000 in
theorem c_X9_isClause {d b0 : Nat} {G : GH} {A B : ST} {ad : AD} (hW : World A B ad G) (hb : B 9 0 ≤ 12) (x : Int32) : CTd mX9_isClause (d + 1) b0 G [.ref (ad 31 0), .int x] 0 0 (some (.int (b2i (inB x (B 9 0))))) G := by
  refine CT.intro (by decide +kernel) rfl (Nat.le_of_ble_eq_true rfl) ?_
  show WP mX9_isClause _ _ _ _ _ 0 0 0 [(0, .ref (ad 31 0)), (1, .int x)] []
  refine r_iload_n dX9_isClause_0 rfl 1 rfl ?_
  refine r_iconst (v := 0) dX9_isClause_1 (by decide) ?_
  refine r_aload_n dX9_isClause_2 rfl 0 rfl ?_
  refine r_get 9 dX9_isClause_3 fRX9_80 (hW.g 31 0 rfl) rfl ?_
  refine r_iconst (v := 1) dX9_isClause_6 (by decide) ?_
  refine r_isub dX9_isClause_7 ?_
  refine r_callS (st := []) [.int x, .int 0, .int ((nI (B 9 0)) - 1)] 0 0 dX9_isClause_8 kX9_isIn nX9_isIn lRX9_73 (c_in (n := B 9 0) x (by omega) rfl) rfl rfl (Nat.le_of_ble_eq_true rfl) (Nat.le_refl _) (Nat.le_refl _) (fun _ _ h => h.elim) ?_
  refine cx_det (st2 := [.int (b2i (inB x (B 9 0)))]) rfl ?_
  refine r_ret .boolean dX9_isClause_11 rfl b2i_Z ?_
  exact ⟨rfl, rfl⟩
set_option maxRecDepth 100000 in
set_option maxHeartbeats 4000000 in
theorem c_X9_isLetter {d b0 : Nat} {G : GH} {A B : ST} {ad : AD} (hW : World A B ad G) (hb : B 15 0 ≤ 12) (x : Int32) : CTd mX9_isLetter (d + 1) b0 G [.ref (ad 31 0), .int x] 0 0 (some (.int (b2i (inB x (B 15 0))))) G := by
  refine CT.intro (by decide +kernel) rfl (Nat.le_of_ble_eq_true rfl) ?_
  show WP mX9_isLetter _ _ _ _ _ 0 0 0 [(0, .ref (ad 31 0)), (1, .int x)] []
  refine r_iload_n dX9_isLetter_0 rfl 1 rfl ?_
  refine r_iconst (v := 0) dX9_isLetter_1 (by decide) ?_
  refine r_aload_n dX9_isLetter_2 rfl 0 rfl ?_
  refine r_get 15 dX9_isLetter_3 fRX9_83 (hW.g 31 0 rfl) rfl ?_
  refine r_iconst (v := 1) dX9_isLetter_6 (by decide) ?_
  refine r_isub dX9_isLetter_7 ?_
  refine r_callS (st := []) [.int x, .int 0, .int ((nI (B 15 0)) - 1)] 0 0 dX9_isLetter_8 kX9_isIn nX9_isIn lRX9_73 (c_in (n := B 15 0) x (by omega) rfl) rfl rfl (Nat.le_of_ble_eq_true rfl) (Nat.le_refl _) (Nat.le_refl _) (fun _ _ h => h.elim) ?_
  refine cx_det (st2 := [.int (b2i (inB x (B 15 0)))]) rfl ?_
  refine r_ret .boolean dX9_isLetter_11 rfl b2i_Z ?_
  exact ⟨rfl, rfl⟩
set_option maxRecDepth 100000 in
set_option maxHeartbeats 4000000 in
theorem c_X9_isData {d b0 : Nat} {G : GH} {A B : ST} {ad : AD} (hW : World A B ad G) (hb : B 18 0 ≤ 12) (x : Int32) : CTd mX9_isData (d + 1) b0 G [.ref (ad 31 0), .int x] 0 0 (some (.int (b2i (inB x (B 18 0))))) G := by
  refine CT.intro (by decide +kernel) rfl (Nat.le_of_ble_eq_true rfl) ?_
  show WP mX9_isData _ _ _ _ _ 0 0 0 [(0, .ref (ad 31 0)), (1, .int x)] []
  refine r_iload_n dX9_isData_0 rfl 1 rfl ?_
  refine r_iconst (v := 0) dX9_isData_1 (by decide) ?_
  refine r_aload_n dX9_isData_2 rfl 0 rfl ?_
  refine r_get 18 dX9_isData_3 fRX9_86 (hW.g 31 0 rfl) rfl ?_
  refine r_iconst (v := 1) dX9_isData_6 (by decide) ?_
  refine r_isub dX9_isData_7 ?_
  refine r_callS (st := []) [.int x, .int 0, .int ((nI (B 18 0)) - 1)] 0 0 dX9_isData_8 kX9_isIn nX9_isIn lRX9_73 (c_in (n := B 18 0) x (by omega) rfl) rfl rfl (Nat.le_of_ble_eq_true rfl) (Nat.le_refl _) (Nat.le_refl _) (fun _ _ h => h.elim) ?_
  refine cx_det (st2 := [.int (b2i (inB x (B 18 0)))]) rfl ?_
  refine r_ret .boolean dX9_isData_11 rfl b2i_Z ?_
  exact ⟨rfl, rfl⟩
