theorem fitZ {x : Int32} (h : isZ x) : fits .boolean (.int x) = true := by
  have h1 := fits_narrow_boolean x
  rw [h] at h1
  exact h1
abbrev ltC (row n : Nat) : LC := .inr (2, [.ref row, .int (nI n)])
abbrev LT (G : GH) (a row n : Nat) (f : Nat → Int32) : Prop := G a = some (.inr (2, [.ref row, .int (nI n)])) ∧ G row = some (.inl (.int, (6, .inl f))) ∧ n ≤ 6
abbrev DT (G : GH) (a row : Nat) (bits : Int32) (f : Nat → Int32) : Prop := G a = some (.inr (1, [.ref row, .int bits])) ∧ G row = some (.inl (.int, (5, .inl f)))
theorem ib_t {x : Int32} {n : Nat} (hn : n < 2 ^ 31) (h : ¬ s_X8_isBelow x (nI n) = 0) : ∃ k : Nat, k < n ∧ x = nI k := by
  unfold s_X8_isBelow at h
  by_cases h1 : x < 0
  · rw [if_pos h1] at h; exact absurd rfl h
  · rw [if_neg h1] at h
    by_cases h2 : nI n ≤ x
    · rw [if_pos h2] at h; exact absurd rfl h
    · obtain ⟨j, hj, hx, -⟩ := pk_mu h1 h2 hn
      exact ⟨j, hj, hx⟩
theorem ib_nI {k n : Nat} (hk : k < 2 ^ 31) (hn : n < 2 ^ 31) : s_X8_isBelow (nI k) (nI n) = b2i (decide (k < n)) := by
  unfold s_X8_isBelow
  rw [if_neg (nI_pos hk)]
  by_cases h : k < n
  · rw [if_neg (nI_ge h hn), decide_eq_true h]; rfl
  · rw [if_pos (nI_le (by omega) hk), decide_eq_false h]; rfl
theorem c_X5_at_n {d b0 : Nat} {G : GH} {a arr cap len : Nat} {f : Nat → Int32} (h : SG G a arr cap len f) (hf : ∀ k, k < len → isC (f k)) {k : Nat} (hk : k < 2 ^ 31) : CTd mX5_at d b0 G [.ref a, .int (nI k)] 0 0 (some (.int (chr f len k))) G := by
  have h1 := h.2.2
  rw [← s_X5_at_nI (by omega) hk]
  exact c_X5_at h hf (nI k)
set_option maxRecDepth 100000 in
set_option maxHeartbeats 4000000 in
theorem c_X2_count {d b0 : Nat} {G : GH} {a row n : Nat} {f : Nat → Int32} (h : LT G a row n f) : CTd mX2_count d b0 G [.ref a] 0 0 (some (.int (nI n))) G := by
  refine CT.intro (by decide +kernel) rfl (Nat.le_of_ble_eq_true rfl) ?_
  show WP mX2_count _ _ _ _ _ 0 0 0 [(0, .ref a)] []
  refine r_aload_n dX2_count_0 rfl 0 rfl ?_
  refine r_get 1 dX2_count_1 fRX2_15 h.1 rfl ?_
  refine r_ireti dX2_count_4 rfl ?_
  exact ⟨rfl, rfl⟩
set_option maxRecDepth 100000 in
set_option maxHeartbeats 4000000 in
theorem c_X2_at {d b0 : Nat} {G : GH} {a row n : Nat} {f : Nat → Int32} (h : LT G a row n f) {k : Nat} (hk : k < n) : CTd mX2_at (d + 1) b0 G [.ref a, .int (nI k)] 0 0 (some (.int (f k))) G := by
  refine CT.intro (by decide +kernel) rfl (Nat.le_of_ble_eq_true rfl) ?_
  show WP mX2_at _ _ _ _ _ 0 0 0 [(0, .ref a), (1, .int (nI k))] []
  refine r_iload_n dX2_at_0 rfl 1 rfl ?_
  refine r_aload_n dX2_at_1 rfl 0 rfl ?_
  refine r_get 1 dX2_at_2 fRX2_15 h.1 rfl ?_
  refine r_callSN (st := []) [.int (nI k), .int (nI n)] 0 0 dX2_at_5 kX8_isBelow nX8_isBelow lRX2_19 (c_X8_isBelow (nI k) (nI n)) rfl rfl (Nat.le_of_ble_eq_true rfl) (Nat.le_refl _) (Nat.le_refl _) (fun _ _ h => h.elim) ?_
  refine cx_det (st2 := [.int (s_X8_isBelow (nI k) (nI n))]) rfl ?_
  refine r_if_eq 29 dX2_at_8 (by decide) (fun c_1 => absurd c_1 (by rw [ib_nI (by omega) (by omega), decide_eq_true hk]; decide)) (fun c_1 => ?_)
  refine r_iload_n dX2_at_11 rfl 1 rfl ?_
  refine r_aload_n dX2_at_12 rfl 0 rfl ?_
  refine r_get 0 dX2_at_13 fRX2_9 h.1 rfl ?_
  refine r_alen (v := nI 6) dX2_at_16 h.2.1 rfl ?_
  refine r_icmp_ge 29 dX2_at_17 (by decide) (fun c_2 => absurd c_2 (nI_ge (by omega) (by decide))) (fun c_2 => ?_)
  refine r_aload_n dX2_at_20 rfl 0 rfl ?_
  refine r_get 0 dX2_at_21 fRX2_9 h.1 rfl ?_
  refine r_iload_n dX2_at_24 rfl 1 rfl ?_
  refine r_iald dX2_at_25 h.2.1 (vp_in_nI (by omega) (by decide)) ?_
  refine r_top (f k) (by rw [nI_cl (by omega)]) ?_
  refine r_goto 30 dX2_at_26 (by decide) ?_
  refine r_ireti dX2_at_30 rfl ?_
  exact ⟨rfl, rfl⟩
set_option maxRecDepth 100000 in
set_option maxHeartbeats 4000000 in
theorem c_X2_append_t {d b0 : Nat} {G : GH} {a row n : Nat} {f : Nat → Int32} (h : LT G a row n f) (hlt : n < 6) (x : Int32) : CTd mX2_append (d + 1) b0 G [.ref a, .int x] 0 0 (some (.int 1)) (va_up (va_up G row (some (inA 6 (upd f n x)))) a (some (ltC row (n + 1)))) := by
  refine CT.intro (by decide +kernel) rfl (Nat.le_of_ble_eq_true rfl) ?_
  show WP mX2_append _ _ _ _ _ 0 0 0 [(0, .ref a), (1, .int x)] []
  refine r_aload_n dX2_append_0 rfl 0 rfl ?_
  refine r_get 1 dX2_append_1 fRX2_15 h.1 rfl ?_
  refine r_aload_n dX2_append_4 rfl 0 rfl ?_
  refine r_get 0 dX2_append_5 fRX2_9 h.1 rfl ?_
  refine r_alen (v := nI 6) dX2_append_8 h.2.1 rfl ?_
  refine r_callSN (st := []) [.int (nI n), .int (nI 6)] 0 0 dX2_append_9 kX8_isBelow nX8_isBelow lRX2_19 (c_X8_isBelow (nI n) (nI 6)) rfl rfl (Nat.le_of_ble_eq_true rfl) (Nat.le_refl _) (Nat.le_refl _) (fun _ _ h => h.elim) ?_
  refine cx_det (st2 := [.int (s_X8_isBelow (nI n) (nI 6))]) rfl ?_
  refine r_if_ne 17 dX2_append_12 (by decide) (fun c_1 => ?_) (fun c_1 => absurd c_1 (by rw [ib_nI (by omega) (by decide), decide_eq_true hlt]; decide))
  refine r_aload_n dX2_append_17 rfl 0 rfl ?_
  refine r_get 0 dX2_append_18 fRX2_9 h.1 rfl ?_
  refine r_aload_n dX2_append_21 rfl 0 rfl ?_
  refine r_get 1 dX2_append_22 fRX2_15 h.1 rfl ?_
  refine r_iload_n dX2_append_25 rfl 1 rfl ?_
  refine r_iast dX2_append_26 h.2.1 (vp_in_nI hlt (by decide)) ?_
  have hG_2 := up_n (e := some (.inl (.int, 6, .inl (upd f (nI n).toNatClampNeg x)))) (cx_ne h.1 h.2.1 (by simp)) h.1
  have hG_3 : (va_up G row (some (.inl (.int, 6, .inl (upd f (nI n).toNatClampNeg x))))) row = some (.inl (.int, 6, .inl (upd f (nI n).toNatClampNeg x))) := up_s
  refine r_heap (G' := (va_up G row (some (.inl (.int, 6, .inl (upd f (nI n).toNatClampNeg x)))))) rfl ?_
  refine r_aload_n dX2_append_27 rfl 0 rfl ?_
  refine r_dup dX2_append_28 rfl ?_
  refine r_get 1 dX2_append_29 fRX2_15 hG_2 rfl ?_
  refine r_iconst (v := 1) dX2_append_32 (by decide) ?_
  refine r_iadd dX2_append_33 ?_
  refine r_put 1 (.int) dX2_append_34 gRX2_15 hG_2 (Nat.le_of_ble_eq_true rfl) rfl rfl ?_
  have hG_4 := up_n (e := some (.inr (2, [.ref row, .int ((nI n) + 1)]))) (cx_ne hG_3 hG_2 (by simp)) hG_3
  have hG_5 : (va_up (va_up G row (some (.inl (.int, 6, .inl (upd f (nI n).toNatClampNeg x))))) a (some (.inr (2, [.ref row, .int ((nI n) + 1)])))) a = some (.inr (2, [.ref row, .int ((nI n) + 1)])) := up_s
  refine r_heap (G' := (va_up (va_up G row (some (.inl (.int, 6, .inl (upd f (nI n).toNatClampNeg x))))) a (some (.inr (2, [.ref row, .int ((nI n) + 1)]))))) rfl ?_
  refine r_iconst (v := 1) dX2_append_37 (by decide) ?_
  refine r_ret .boolean dX2_append_38 rfl rfl ?_
  exact ⟨rfl, by rw [nI_cl (by omega), nI_1]⟩
set_option maxRecDepth 100000 in
set_option maxHeartbeats 4000000 in
theorem c_X2_append_f {d b0 : Nat} {G : GH} {a row n : Nat} {f : Nat → Int32} (h : LT G a row n f) (hlt : ¬ n < 6) (x : Int32) : CTd mX2_append (d + 1) b0 G [.ref a, .int x] 0 0 (some (.int 0)) G := by
  refine CT.intro (by decide +kernel) rfl (Nat.le_of_ble_eq_true rfl) ?_
  show WP mX2_append _ _ _ _ _ 0 0 0 [(0, .ref a), (1, .int x)] []
  refine r_aload_n dX2_append_0 rfl 0 rfl ?_
  refine r_get 1 dX2_append_1 fRX2_15 h.1 rfl ?_
  refine r_aload_n dX2_append_4 rfl 0 rfl ?_
  refine r_get 0 dX2_append_5 fRX2_9 h.1 rfl ?_
  refine r_alen (v := nI 6) dX2_append_8 h.2.1 rfl ?_
  refine r_callSN (st := []) [.int (nI n), .int (nI 6)] 0 0 dX2_append_9 kX8_isBelow nX8_isBelow lRX2_19 (c_X8_isBelow (nI n) (nI 6)) rfl rfl (Nat.le_of_ble_eq_true rfl) (Nat.le_refl _) (Nat.le_refl _) (fun _ _ h => h.elim) ?_
  refine cx_det (st2 := [.int (s_X8_isBelow (nI n) (nI 6))]) rfl ?_
  refine r_if_ne 17 dX2_append_12 (by decide) (fun c_1 => absurd (by rw [ib_nI (by omega) (by decide), decide_eq_false hlt]; decide) c_1) (fun c_1 => ?_)
  refine r_iconst (v := 0) dX2_append_15 (by decide) ?_
  refine r_ret .boolean dX2_append_16 rfl rfl ?_
  exact ⟨rfl, rfl⟩
def hsB (f : Nat → Int32) (n : Nat) (c : Int32) : Bool := !(allB (fun k => !(decide (f k = c))) n)
set_option maxRecDepth 100000 in
set_option maxHeartbeats 4000000 in
theorem lp_X2_has {d b0 : Nat} {G : GH} {a row n : Nat} {f : Nat → Int32} (h : LT G a row n f) {c : Int32} : ∀ (fu : Nat) (k : Nat), k ≤ n ∧ (∀ j, j < k → (!(decide (f j = c))) = true) → n - k < fu → WP mX2_has (d + 2) b0 (fun r G' => r = some (.int (b2i (hsB f n c))) ∧ G' = G) (fun _ _ => False) G 0 0 2 [(2, .int (nI k)), (0, .ref a), (1, .int c)] [] := by
  intro fu
  induction fu with
  | zero => intro k hinv hn; exact absurd hn (Nat.not_lt_zero _)
  | succ fu ih =>
    intro k hinv hn
    have hb1 := h.2.2
    refine r_iload_n dX2_has_2 rfl 0 rfl ?_
    refine r_aload_n dX2_has_3 rfl 1 rfl ?_
    refine r_get 1 dX2_has_4 fRX2_15 h.1 rfl ?_
    refine r_icmp_ge 27 dX2_has_7 (by decide) (fun c_1 => ?_) (fun c_1 => ?_)
    · refine r_iconst (v := 0) dX2_has_27 (by decide) ?_
      refine r_ret .boolean dX2_has_28 rfl rfl ?_
      have hk : n ≤ k := ni_le (by omega) (by omega) c_1
      exact ⟨by unfold hsB; rw [(allB_iff _ _).mpr (fun j hj => hinv.2 j (by omega))]; rfl, rfl⟩
    · refine r_aload_n dX2_has_10 rfl 1 rfl ?_
      refine r_iload_n dX2_has_11 rfl 0 rfl ?_
      have hk : k < n := ni_nle (by omega) (by omega) c_1
      refine r_callV (st := []) [.int (nI k)] 0 0 dX2_has_12 kX2_at nX2_at lRX2_23 h.1 rfl (c_X2_at h hk) rfl rfl (Nat.le_of_ble_eq_true rfl) (Nat.le_refl _) (Nat.le_refl _) (fun _ _ h => h.elim) ?_
      refine cx_det (st2 := [.int (f k)]) rfl ?_
      refine r_iload_n dX2_has_15 rfl 2 rfl ?_
      refine r_icmp_ne 21 dX2_has_16 (by decide) (fun c_2 => ?_) (fun c_2 => ?_)
      · refine r_iinc (nI (k + 1)) [(2, .int (nI (k + 1))), (0, .ref a), (1, .int c)] dX2_has_21 0 rfl (nI_1 k) (by decide) rfl ?_
        refine r_goto 2 dX2_has_24 (by decide) ?_
        exact ih (k + 1) ⟨by omega, fun j hj => by
          rcases Nat.lt_or_ge j k with q | q
          · exact hinv.2 j q
          · rw [show j = k by omega, decide_eq_false c_2]; rfl⟩ (by omega)
      · refine r_iconst (v := 1) dX2_has_19 (by decide) ?_
        refine r_ret .boolean dX2_has_20 rfl rfl ?_
        exact ⟨by unfold hsB; rw [allB_no hk (by rw [decide_eq_true c_2]; rfl)]; rfl, rfl⟩
set_option maxRecDepth 100000 in
set_option maxHeartbeats 4000000 in
theorem c_X2_has {d b0 : Nat} {G : GH} {a row n : Nat} {f : Nat → Int32} (h : LT G a row n f) (c : Int32) : CTd mX2_has (d + 2) b0 G [.ref a, .int c] 0 0 (some (.int (b2i (hsB f n c)))) G := by
  refine CT.intro (by decide +kernel) rfl (Nat.le_of_ble_eq_true rfl) ?_
  show WP mX2_has _ _ _ _ _ 0 0 0 [(0, .ref a), (1, .int c)] []
  refine r_iconst (v := nI 0) dX2_has_0 (by decide) ?_
  refine r_istore_n [(2, .int (nI 0)), (0, .ref a), (1, .int c)] dX2_has_1 rfl (by decide) rfl ?_
  exact lp_X2_has h (n + 1) 0 ⟨Nat.zero_le _, fun j hj => absurd hj (Nat.not_lt_zero j)⟩ (by omega)
set_option maxRecDepth 100000 in
set_option maxHeartbeats 4000000 in
theorem c_X2_init {d b0 : Nat} {G : GH} {a : Nat} (h : G a = some (.inr (2, [.null, .int 0]))) : CT mX2_init (d + 1) b0 G [.ref a] 1 6 (fun r G' => r = none ∧ ∃ q : Nat, G q = none ∧ b0 ≤ q ∧ G' = va_up (va_up G q (some (inA 6 (fun _ => 0)))) a (some (ltC q 0))) (fun _ _ => False) := by
  refine CT.intro (by decide +kernel) rfl (Nat.le_of_ble_eq_true rfl) ?_
  show WP mX2_init _ _ _ _ _ 1 6 0 [(0, .ref a)] []
  refine r_aload_n dX2_init_0 rfl 0 rfl ?_
  refine r_obj dX2_init_1 lRX2_3 (by omega) (Nat.le_of_ble_eq_true rfl) ?_
  refine r_aload_n dX2_init_4 rfl 0 rfl ?_
  refine r_bipush (v := 6) dX2_init_5 (by decide) ?_
  refine r_newa (.int) 6 (6, .inl (fun _ => 0)) 0 0 dX2_init_7 ac_int rfl (fun _ _ h => h) (fun _ => rfl) (by decide) (by decide) (by decide) (by decide) (by decide) (fun q_1 hq_2 hb_3 => ?_)
  have hG_4 := up_n (e := some (.inl (.int, 6, .inl (fun _ => 0)))) (cx_nf h hq_2) h
  have hG_5 : (va_up G q_1 (some (.inl (.int, 6, .inl (fun _ => 0))))) q_1 = some (.inl (.int, 6, .inl (fun _ => 0))) := up_s
  refine r_heap (G' := (va_up G q_1 (some (.inl (.int, 6, .inl (fun _ => 0)))))) rfl ?_
  refine r_putF 0 (.array .int) dX2_init_9 gRX2_9 rfl hG_4 (Nat.le_of_ble_eq_true rfl) rfl rfl ?_
  have hG_6 := up_n (e := some (.inr (2, [.ref q_1, .int 0]))) (cx_ne hG_5 hG_4 (by simp)) hG_5
  have hG_7 : (va_up (va_up G q_1 (some (.inl (.int, 6, .inl (fun _ => 0))))) a (some (.inr (2, [.ref q_1, .int 0])))) a = some (.inr (2, [.ref q_1, .int 0])) := up_s
  refine r_heap (G' := (va_up (va_up G q_1 (some (.inl (.int, 6, .inl (fun _ => 0))))) a (some (.inr (2, [.ref q_1, .int 0]))))) rfl ?_
  refine r_vret dX2_init_12 rfl ?_
  exact ⟨rfl, q_1, hq_2, hb_3, by first | rfl | (unfold ltC; rw [nI_0])⟩
set_option maxRecDepth 100000 in
set_option maxHeartbeats 4000000 in
theorem c_X1_wordOf {d b0 : Nat} {G : GH} {a row : Nat} {bits : Int32} {f : Nat → Int32} (h : DT G a row bits f) {k : Nat} (hk : k < 5) : CTd mX1_wordOf (d + 1) b0 G [.ref a, .int (nI k)] 0 0 (some (.int (f k))) G := by
  refine CT.intro (by decide +kernel) rfl (Nat.le_of_ble_eq_true rfl) ?_
  show WP mX1_wordOf _ _ _ _ _ 0 0 0 [(0, .ref a), (1, .int (nI k))] []
  refine r_iload_n dX1_wordOf_0 rfl 1 rfl ?_
  refine r_aload_n dX1_wordOf_1 rfl 0 rfl ?_
  refine r_get 0 dX1_wordOf_2 fRX1_9 h.1 rfl ?_
  refine r_alen (v := nI 5) dX1_wordOf_5 h.2 rfl ?_
  refine r_callSN (st := []) [.int (nI k), .int (nI 5)] 0 0 dX1_wordOf_6 kX8_isBelow nX8_isBelow lRX1_19 (c_X8_isBelow (nI k) (nI 5)) rfl rfl (Nat.le_of_ble_eq_true rfl) (Nat.le_refl _) (Nat.le_refl _) (fun _ _ h => h.elim) ?_
  refine cx_det (st2 := [.int (s_X8_isBelow (nI k) (nI 5))]) rfl ?_
  refine r_if_eq 21 dX1_wordOf_9 (by decide) (fun c_1 => absurd c_1 (by rw [ib_nI (by omega) (by decide), decide_eq_true hk]; decide)) (fun c_1 => ?_)
  refine r_aload_n dX1_wordOf_12 rfl 0 rfl ?_
  refine r_get 0 dX1_wordOf_13 fRX1_9 h.1 rfl ?_
  refine r_iload_n dX1_wordOf_16 rfl 1 rfl ?_
  refine r_iald dX1_wordOf_17 h.2 (vp_in_nI hk (by decide)) ?_
  refine r_top (f k) (by rw [nI_cl (by omega)]) ?_
  refine r_goto 22 dX1_wordOf_18 (by decide) ?_
  refine r_ireti dX1_wordOf_22 rfl ?_
  exact ⟨rfl, rfl⟩
set_option maxRecDepth 100000 in
set_option maxHeartbeats 4000000 in
theorem c_X1_setWord {d b0 : Nat} {G : GH} {a row : Nat} {bits : Int32} {f : Nat → Int32} (h : DT G a row bits f) {k : Nat} (hk : k < 5) (x : Int32) : CTd mX1_setWord (d + 1) b0 G [.ref a, .int (nI k), .int x] 0 0 none (va_up G row (some (inA 5 (upd f k x)))) := by
  refine CT.intro (by decide +kernel) rfl (Nat.le_of_ble_eq_true rfl) ?_
  show WP mX1_setWord _ _ _ _ _ 0 0 0 [(0, .ref a), (1, .int (nI k)), (2, .int x)] []
  refine r_iload_n dX1_setWord_0 rfl 1 rfl ?_
  refine r_aload_n dX1_setWord_1 rfl 0 rfl ?_
  refine r_get 0 dX1_setWord_2 fRX1_9 h.1 rfl ?_
  refine r_alen (v := nI 5) dX1_setWord_5 h.2 rfl ?_
  refine r_callSN (st := []) [.int (nI k), .int (nI 5)] 0 0 dX1_setWord_6 kX8_isBelow nX8_isBelow lRX1_19 (c_X8_isBelow (nI k) (nI 5)) rfl rfl (Nat.le_of_ble_eq_true rfl) (Nat.le_refl _) (Nat.le_refl _) (fun _ _ h => h.elim) ?_
  refine cx_det (st2 := [.int (s_X8_isBelow (nI k) (nI 5))]) rfl ?_
  refine r_if_eq 19 dX1_setWord_9 (by decide) (fun c_1 => absurd c_1 (by rw [ib_nI (by omega) (by decide), decide_eq_true hk]; decide)) (fun c_1 => ?_)
  refine r_aload_n dX1_setWord_12 rfl 0 rfl ?_
  refine r_get 0 dX1_setWord_13 fRX1_9 h.1 rfl ?_
  refine r_iload_n dX1_setWord_16 rfl 1 rfl ?_
  refine r_iload_n dX1_setWord_17 rfl 2 rfl ?_
  refine r_iast dX1_setWord_18 h.2 (vp_in_nI hk (by decide)) ?_
  have hG_2 := up_n (e := some (.inl (.int, 5, .inl (upd f (nI k).toNatClampNeg x)))) (cx_ne h.1 h.2 (by simp)) h.1
  have hG_3 : (va_up G row (some (.inl (.int, 5, .inl (upd f (nI k).toNatClampNeg x))))) row = some (.inl (.int, 5, .inl (upd f (nI k).toNatClampNeg x))) := up_s
  refine r_heap (G' := (va_up G row (some (.inl (.int, 5, .inl (upd f (nI k).toNatClampNeg x)))))) rfl ?_
  refine r_vret dX1_setWord_19 rfl ?_
  exact ⟨rfl, by rw [nI_cl (by omega)]⟩
def s_X1_meets (bits : Int32) (c : Int32) : Int32 := if c = (-1) then 1 else if ((bits >>> (c &&& 31)) &&& 1) = 1 then 1 else 0
set_option maxRecDepth 100000 in
set_option maxHeartbeats 4000000 in
theorem c_X1_meets {d b0 : Nat} {G : GH} {a row : Nat} {bits : Int32} {f : Nat → Int32} (h : DT G a row bits f) (c : Int32) : CTd mX1_meets d b0 G [.ref a, .int c] 0 0 (some (.int (s_X1_meets bits c))) G := by
  refine CT.intro (by decide +kernel) rfl (Nat.le_of_ble_eq_true rfl) ?_
  show WP mX1_meets _ _ _ _ _ 0 0 0 [(0, .ref a), (1, .int c)] []
  refine r_iload_n dX1_meets_0 rfl 1 rfl ?_
  refine r_iconst (v := (-1)) dX1_meets_1 (by decide) ?_
  refine r_icmp_eq 17 dX1_meets_2 (by decide) (fun c_1 => ?_) (fun c_1 => ?_)
  · refine r_iconst (v := 1) dX1_meets_17 (by decide) ?_
    refine r_goto 22 dX1_meets_18 (by decide) ?_
    refine r_ret .boolean dX1_meets_22 rfl rfl ?_
    exact ⟨by unfold s_X1_meets; rw [if_pos c_1], rfl⟩
  · refine r_aload_n dX1_meets_5 rfl 0 rfl ?_
    refine r_get 1 dX1_meets_6 fRX1_15 h.1 rfl ?_
    refine r_iload_n dX1_meets_9 rfl 1 rfl ?_
    refine r_ishr dX1_meets_10 ?_
    refine r_iconst (v := 1) dX1_meets_11 (by decide) ?_
    refine r_iand dX1_meets_12 ?_
    refine r_iconst (v := 1) dX1_meets_13 (by decide) ?_
    refine r_icmp_ne 21 dX1_meets_14 (by decide) (fun c_2 => ?_) (fun c_2 => ?_)
    · refine r_iconst (v := 0) dX1_meets_21 (by decide) ?_
      refine r_ret .boolean dX1_meets_22 rfl rfl ?_
      exact ⟨by unfold s_X1_meets; rw [if_neg c_1, if_neg c_2], rfl⟩
    · refine r_iconst (v := 1) dX1_meets_17 (by decide) ?_
      refine r_goto 22 dX1_meets_18 (by decide) ?_
      refine r_ret .boolean dX1_meets_22 rfl rfl ?_
      exact ⟨by unfold s_X1_meets; rw [if_neg c_1, if_pos c_2], rfl⟩
set_option maxRecDepth 100000 in
set_option maxHeartbeats 4000000 in
theorem lp_X1_init {d b0 : Nat} {G : GH} {a q : Nat} {word bits : Int32} (hab : q ≠ a) (h : G a = some (.inr (1, [.ref q, .int bits]))) : ∀ (fu : Nat) (k : Nat), k ≤ 5 → 5 - k < fu → WP mX1_init d b0 (fun r G' => r = none ∧ G' = va_up G q (some (inA 5 (cpy (fun _ => word) (fun _ => 0) 5)))) (fun _ _ => False) (va_up G q (some (inA 5 (cpy (fun _ => word) (fun _ => 0) k)))) 0 0 18 [(3, .int (nI k)), (0, .ref a), (1, .int word), (2, .int bits)] [] := by
  intro fu
  induction fu with
  | zero => intro k hinv hn; exact absurd hn (Nat.not_lt_zero _)
  | succ fu ih =>
    intro k hinv hn
    have ha : (va_up G q (some (inA 5 (cpy (fun _ => word) (fun _ => 0) k)))) a = some (.inr (1, [.ref q, .int bits])) := up_n (Ne.symm hab) h
    have hq : (va_up G q (some (inA 5 (cpy (fun _ => word) (fun _ => 0) k)))) q = some (inA 5 (cpy (fun _ => word) (fun _ => 0) k)) := up_s
    refine r_iload_n dX1_init_18 rfl 0 rfl ?_
    refine r_aload_n dX1_init_19 rfl 1 rfl ?_
    refine r_get 0 dX1_init_20 fRX1_9 ha rfl ?_
    refine r_alen (v := nI 5) dX1_init_23 hq rfl ?_
    refine r_icmp_ge 40 dX1_init_24 (by decide) (fun c_1 => ?_) (fun c_1 => ?_)
    · refine r_vret dX1_init_40 rfl ?_
      have hk : k = 5 := by have := ni_le (by omega) (by omega) c_1; omega
      exact ⟨rfl, by rw [hk]⟩
    · refine r_aload_n dX1_init_27 rfl 1 rfl ?_
      refine r_get 0 dX1_init_28 fRX1_9 ha rfl ?_
      refine r_iload_n dX1_init_31 rfl 0 rfl ?_
      refine r_iload_n dX1_init_32 rfl 2 rfl ?_
      refine r_iast dX1_init_33 hq (vp_in_nI (ni_nle (by omega) (by omega) c_1) (by decide)) ?_
      have hG_2 := up_n (e := some (.inl (.int, 5, .inl (upd (cpy (fun _ => word) (fun _ => 0) k) (nI k).toNatClampNeg word)))) (cx_ne ha hq (by simp)) ha
      have hG_3 : (va_up (va_up G q (some (inA 5 (cpy (fun _ => word) (fun _ => 0) k)))) q (some (.inl (.int, 5, .inl (upd (cpy (fun _ => word) (fun _ => 0) k) (nI k).toNatClampNeg word))))) q = some (.inl (.int, 5, .inl (upd (cpy (fun _ => word) (fun _ => 0) k) (nI k).toNatClampNeg word))) := up_s
      refine r_heap (G' := (va_up (va_up G q (some (inA 5 (cpy (fun _ => word) (fun _ => 0) k)))) q (some (.inl (.int, 5, .inl (upd (cpy (fun _ => word) (fun _ => 0) k) (nI k).toNatClampNeg word)))))) rfl ?_
      refine r_heap (up_twice.trans (by rw [nI_cl (by omega), show word = (fun _ : Nat => word) k from rfl, cpy_s])) ?_
      refine r_iinc (nI (k + 1)) [(3, .int (nI (k + 1))), (0, .ref a), (1, .int word), (2, .int bits)] dX1_init_34 0 rfl (nI_1 k) (by decide) rfl ?_
      refine r_goto 18 dX1_init_37 (by decide) ?_
      have hk : k < 5 := ni_nle (by omega) (by omega) c_1
      exact ih (k + 1) (by omega) (by omega)
theorem WP.post {M : MD} {d b0 : Nat} {Po Po' : Option Value → GH → Prop} {G : GH} {bc bs pc : Nat} {lv : List (Nat × Value)} {st : List Value} (h : ∀ r G', Po r G' → Po' r G') (k : WP M d b0 Po (fun _ _ => False) G bc bs pc lv st) : WP M d b0 Po' (fun _ _ => False) G bc bs pc lv st := by
  intro p l e s m args below meth c H locs cells slots mc ms D ls hB hK hS hR hl h1 h2 T hT X
  obtain ⟨t, a1, o, b1, b2, b3⟩ := k p l e s m args below meth c H locs cells slots mc ms D ls hB hK hS hR hl h1 h2 T hT X
  refine ⟨t, a1, o, b1, b2, ?_⟩
  rcases b3 with ⟨⟨r, G', q1, q2, q3⟩, q4⟩ | ⟨q, q1, E, ce, L, ⟨G', q2, q3⟩, q4⟩
  · exact Or.inl ⟨⟨r, G', q1, h r G' q2, q3⟩, q4⟩
  · exact q2.elim
set_option maxRecDepth 100000 in
set_option maxHeartbeats 4000000 in
theorem c_X1_init {d b0 : Nat} {G : GH} {a : Nat} (h : G a = some (.inr (1, [.null, .int 0]))) (word bits : Int32) : CT mX1_init (d + 1) b0 G [.ref a, .int word, .int bits] 1 5 (fun r G' => r = none ∧ ∃ q : Nat, G q = none ∧ b0 ≤ q ∧ G' = va_up (va_up G q (some (inA 5 (cpy (fun _ => word) (fun _ => 0) 5)))) a (some (.inr (1, [.ref q, .int bits])))) (fun _ _ => False) := by
  refine CT.intro (by decide +kernel) rfl (Nat.le_of_ble_eq_true rfl) ?_
  show WP mX1_init _ _ _ _ _ 1 5 0 [(0, .ref a), (1, .int word), (2, .int bits)] []
  refine r_aload_n dX1_init_0 rfl 0 rfl ?_
  refine r_obj dX1_init_1 lRX1_3 (by omega) (Nat.le_of_ble_eq_true rfl) ?_
  refine r_aload_n dX1_init_4 rfl 0 rfl ?_
  refine r_iconst (v := 5) dX1_init_5 (by decide) ?_
  refine r_newa (.int) 5 (5, .inl (fun _ => 0)) 0 0 dX1_init_6 ac_int rfl (fun _ _ h => h) (fun _ => rfl) (by decide) (by decide) (by decide) (by decide) (by decide) (fun q_1 hq_2 hb_3 => ?_)
  have hG_4 := up_n (e := some (.inl (.int, 5, .inl (fun _ => 0)))) (cx_nf h hq_2) h
  have hG_5 : (va_up G q_1 (some (.inl (.int, 5, .inl (fun _ => 0))))) q_1 = some (.inl (.int, 5, .inl (fun _ => 0))) := up_s
  refine r_heap (G' := (va_up G q_1 (some (.inl (.int, 5, .inl (fun _ => 0)))))) rfl ?_
  refine r_putF 0 (.array .int) dX1_init_8 gRX1_9 rfl hG_4 (Nat.le_of_ble_eq_true rfl) rfl rfl ?_
  have hG_6 := up_n (e := some (.inr (1, [.ref q_1, .int 0]))) (cx_ne hG_5 hG_4 (by simp)) hG_5
  have hG_7 : (va_up (va_up G q_1 (some (.inl (.int, 5, .inl (fun _ => 0))))) a (some (.inr (1, [.ref q_1, .int 0])))) a = some (.inr (1, [.ref q_1, .int 0])) := up_s
  refine r_heap (G' := (va_up (va_up G q_1 (some (.inl (.int, 5, .inl (fun _ => 0))))) a (some (.inr (1, [.ref q_1, .int 0]))))) rfl ?_
  refine r_aload_n dX1_init_11 rfl 0 rfl ?_
  refine r_iload_n dX1_init_12 rfl 2 rfl ?_
  refine r_putF 1 (.int) dX1_init_13 gRX1_15 rfl hG_7 (Nat.le_of_ble_eq_true rfl) rfl rfl ?_
  have hG_8 := up_n (e := some (.inr (1, [.ref q_1, .int bits]))) (cx_ne hG_6 hG_7 (by simp)) hG_6
  have hG_9 : (va_up (va_up (va_up G q_1 (some (.inl (.int, 5, .inl (fun _ => 0))))) a (some (.inr (1, [.ref q_1, .int 0])))) a (some (.inr (1, [.ref q_1, .int bits])))) a = some (.inr (1, [.ref q_1, .int bits])) := up_s
  refine r_heap (G' := (va_up (va_up (va_up G q_1 (some (.inl (.int, 5, .inl (fun _ => 0))))) a (some (.inr (1, [.ref q_1, .int 0])))) a (some (.inr (1, [.ref q_1, .int bits]))))) rfl ?_
  refine r_iconst (v := nI 0) dX1_init_16 (by decide) ?_
  refine r_istore_n [(3, .int (nI 0)), (0, .ref a), (1, .int word), (2, .int bits)] dX1_init_17 rfl (by decide) rfl ?_
  have hne : q_1 ≠ a := Ne.symm (cx_nf h hq_2)
  have hG0 : (va_up (va_up (va_up G q_1 (some (.inl (.int, 5, .inl (fun _ => 0))))) a (some (.inr (1, [.ref q_1, .int 0])))) a (some (.inr (1, [.ref q_1, .int bits])))) = va_up (va_up G a (some (.inr (1, [.ref q_1, .int bits])))) q_1 (some (inA 5 (cpy (fun _ => word) (fun _ => 0) 0))) := by rw [up_twice, cpy_0, up_swap hne]
  refine r_heap hG0 (WP.post ?_ (lp_X1_init (G := va_up G a (some (.inr (1, [.ref q_1, .int bits])))) hne up_s 6 0 (Nat.zero_le _) (by omega)))
  intro r G9 hr
  obtain ⟨h1, h2⟩ := hr
  exact ⟨h1, q_1, hq_2, hb_3, by rw [h2, up_swap (Ne.symm hne)]⟩
set_option maxRecDepth 100000 in
set_option maxHeartbeats 4000000 in
theorem c_X4_init {d b0 : Nat} {G : GH} {a : Nat} {l o c : Int32} (h : G a = some (.inr (4, [.int l, .int o, .int c]))) : CTd mX4_init (d + 1) b0 G [.ref a] 0 0 none G := by
  refine CT.intro (by decide +kernel) rfl (Nat.le_of_ble_eq_true rfl) ?_
  show WP mX4_init _ _ _ _ _ 0 0 0 [(0, .ref a)] []
  refine r_aload_n dX4_init_0 rfl 0 rfl ?_
  refine r_obj dX4_init_1 lRX4_1 (by omega) (Nat.le_of_ble_eq_true rfl) ?_
  refine r_vret dX4_init_4 rfl ?_
  exact ⟨rfl, rfl⟩
set_option maxRecDepth 100000 in
set_option maxHeartbeats 4000000 in
theorem c_X4_start {d b0 : Nat} {G : GH} {a : Nat} {l o c : Int32} (h : G a = some (.inr (4, [.int l, .int o, .int c]))) (x : Int32) : CTd mX4_start d b0 G [.ref a, .int x] 0 0 none (va_up G a (some (.inr (4, [.int x, .int 1, .int 0])))) := by
  refine CT.intro (by decide +kernel) rfl (Nat.le_of_ble_eq_true rfl) ?_
  show WP mX4_start _ _ _ _ _ 0 0 0 [(0, .ref a), (1, .int x)] []
  refine r_aload_n dX4_start_0 rfl 0 rfl ?_
  refine r_iload_n dX4_start_1 rfl 1 rfl ?_
  refine r_put 0 (.int) dX4_start_2 gRX4_7 h (Nat.le_of_ble_eq_true rfl) rfl rfl ?_
  have hG_1 : (va_up G a (some (.inr (4, [.int x, .int o, .int c])))) a = some (.inr (4, [.int x, .int o, .int c])) := up_s
  refine r_heap (G' := (va_up G a (some (.inr (4, [.int x, .int o, .int c]))))) rfl ?_
  refine r_aload_n dX4_start_5 rfl 0 rfl ?_
  refine r_iconst (v := 1) dX4_start_6 (by decide) ?_
  refine r_put 1 (.boolean) dX4_start_7 gRX4_13 hG_1 (Nat.le_of_ble_eq_true rfl) rfl rfl ?_
  have hG_2 : (va_up (va_up G a (some (.inr (4, [.int x, .int o, .int c])))) a (some (.inr (4, [.int x, .int 1, .int c])))) a = some (.inr (4, [.int x, .int 1, .int c])) := up_s
  refine r_heap (G' := (va_up (va_up G a (some (.inr (4, [.int x, .int o, .int c])))) a (some (.inr (4, [.int x, .int 1, .int c]))))) rfl ?_
  refine r_aload_n dX4_start_10 rfl 0 rfl ?_
  refine r_iconst (v := 0) dX4_start_11 (by decide) ?_
  refine r_put 2 (.char) dX4_start_12 gRX4_17 hG_2 (Nat.le_of_ble_eq_true rfl) rfl rfl ?_
  have hG_3 : (va_up (va_up (va_up G a (some (.inr (4, [.int x, .int o, .int c])))) a (some (.inr (4, [.int x, .int 1, .int c])))) a (some (.inr (4, [.int x, .int 1, .int 0])))) a = some (.inr (4, [.int x, .int 1, .int 0])) := up_s
  refine r_heap (G' := (va_up (va_up (va_up G a (some (.inr (4, [.int x, .int o, .int c])))) a (some (.inr (4, [.int x, .int 1, .int c])))) a (some (.inr (4, [.int x, .int 1, .int 0]))))) rfl ?_
  refine r_vret dX4_start_15 rfl ?_
  exact ⟨rfl, by rw [up_twice, up_twice]⟩
def s_X4_isDone (l : Int32) : Int32 := if 0 ≤ l then 0 else 1
set_option maxRecDepth 100000 in
set_option maxHeartbeats 4000000 in
theorem c_X4_isDone {d b0 : Nat} {G : GH} {a : Nat} {l o c : Int32} (h : G a = some (.inr (4, [.int l, .int o, .int c]))) : CTd mX4_isDone d b0 G [.ref a] 0 0 (some (.int (s_X4_isDone l))) G := by
  refine CT.intro (by decide +kernel) rfl (Nat.le_of_ble_eq_true rfl) ?_
  show WP mX4_isDone _ _ _ _ _ 0 0 0 [(0, .ref a)] []
  refine r_aload_n dX4_isDone_0 rfl 0 rfl ?_
  refine r_get 0 dX4_isDone_1 fRX4_7 h rfl ?_
  refine r_if_ge 11 dX4_isDone_4 (by decide) (fun c_1 => ?_) (fun c_1 => ?_)
  · refine r_iconst (v := 0) dX4_isDone_11 (by decide) ?_
    refine r_ret .boolean dX4_isDone_12 rfl rfl ?_
    exact ⟨by unfold s_X4_isDone; rw [if_pos c_1], rfl⟩
  · refine r_iconst (v := 1) dX4_isDone_7 (by decide) ?_
    refine r_goto 12 dX4_isDone_8 (by decide) ?_
    refine r_ret .boolean dX4_isDone_12 rfl rfl ?_
    exact ⟨by unfold s_X4_isDone; rw [if_neg c_1], rfl⟩
set_option maxRecDepth 100000 in
set_option maxHeartbeats 4000000 in
theorem c_X4_left {d b0 : Nat} {G : GH} {a : Nat} {l o c : Int32} (h : G a = some (.inr (4, [.int l, .int o, .int c]))) : CTd mX4_left d b0 G [.ref a] 0 0 (some (.int l)) G := by
  refine CT.intro (by decide +kernel) rfl (Nat.le_of_ble_eq_true rfl) ?_
  show WP mX4_left _ _ _ _ _ 0 0 0 [(0, .ref a)] []
  refine r_aload_n dX4_left_0 rfl 0 rfl ?_
  refine r_get 0 dX4_left_1 fRX4_7 h rfl ?_
  refine r_ireti dX4_left_4 rfl ?_
  exact ⟨rfl, rfl⟩
set_option maxRecDepth 100000 in
set_option maxHeartbeats 4000000 in
theorem c_X4_found {d b0 : Nat} {G : GH} {a : Nat} {l o c : Int32} (h : G a = some (.inr (4, [.int l, .int o, .int c]))) (hc : isC c) : CTd mX4_found d b0 G [.ref a] 0 0 (some (.int c)) G := by
  refine CT.intro (by decide +kernel) rfl (Nat.le_of_ble_eq_true rfl) ?_
  show WP mX4_found _ _ _ _ _ 0 0 0 [(0, .ref a)] []
  refine r_aload_n dX4_found_0 rfl 0 rfl ?_
  refine r_get 2 dX4_found_1 fRX4_17 h rfl ?_
  refine r_ret .char dX4_found_4 rfl hc ?_
  exact ⟨rfl, rfl⟩
def skp (l o c x : Int32) : LC := .inr (4, [.int (l - 1), .int (s_X8_isOpenBehind x o), .int (if l = 0 then (if o = 0 then x else s_X8_capital x) else c)])
def skf (l o c n x : Int32) : LC := .inr (4, [.int (l - n), .int 0, .int (if n ≤ l then c else if o = 0 then x else if l = 0 then s_X8_capital x else x)])
set_option maxRecDepth 100000 in
set_option maxHeartbeats 4000000 in
theorem c_X4_pass {d b0 : Nat} {G : GH} {a : Nat} {l o c : Int32} (h : G a = some (.inr (4, [.int l, .int o, .int c]))) {x : Int32} (hc_x : isC x) : CTd mX4_pass (d + 2) b0 G [.ref a, .int x] 0 0 none (va_up G a (some (skp l o c x))) := by
  refine CT.intro (by decide +kernel) rfl (Nat.le_of_ble_eq_true rfl) ?_
  show WP mX4_pass _ _ _ _ _ 0 0 0 [(0, .ref a), (1, .int x)] []
  refine r_aload_n dX4_pass_0 rfl 0 rfl ?_
  refine r_get 0 dX4_pass_1 fRX4_7 h rfl ?_
  refine r_if_ne 26 dX4_pass_4 (by decide) (fun c_1 => ?_) (fun c_1 => ?_)
  · refine r_aload_n dX4_pass_26 rfl 0 rfl ?_
    refine r_iload_n dX4_pass_27 rfl 1 rfl ?_
    refine r_aload_n dX4_pass_28 rfl 0 rfl ?_
    refine r_get 1 dX4_pass_29 fRX4_13 h rfl ?_
    refine r_callSN (st := [.ref a]) [.int x, .int o] 0 0 dX4_pass_32 kX8_isOpenBehind nX8_isOpenBehind lRX4_27 (c_X8_isOpenBehind x o) rfl rfl (Nat.le_of_ble_eq_true rfl) (Nat.le_refl _) (Nat.le_refl _) (fun _ _ h => h.elim) ?_
    refine cx_det (st2 := [.int (s_X8_isOpenBehind x o), .ref a]) rfl ?_
    refine r_put 1 (.boolean) dX4_pass_35 gRX4_13 h (Nat.le_of_ble_eq_true rfl) nb_X8_isOpenBehind (fitZ nb_X8_isOpenBehind) ?_
    have hG_2 : (va_up G a (some (.inr (4, [.int l, .int (s_X8_isOpenBehind x o), .int c])))) a = some (.inr (4, [.int l, .int (s_X8_isOpenBehind x o), .int c])) := up_s
    refine r_heap (G' := (va_up G a (some (.inr (4, [.int l, .int (s_X8_isOpenBehind x o), .int c]))))) rfl ?_
    refine r_aload_n dX4_pass_38 rfl 0 rfl ?_
    refine r_dup dX4_pass_39 rfl ?_
    refine r_get 0 dX4_pass_40 fRX4_7 hG_2 rfl ?_
    refine r_iconst (v := 1) dX4_pass_43 (by decide) ?_
    refine r_isub dX4_pass_44 ?_
    refine r_put 0 (.int) dX4_pass_45 gRX4_7 hG_2 (Nat.le_of_ble_eq_true rfl) rfl rfl ?_
    have hG_3 : (va_up (va_up G a (some (.inr (4, [.int l, .int (s_X8_isOpenBehind x o), .int c])))) a (some (.inr (4, [.int (l - 1), .int (s_X8_isOpenBehind x o), .int c])))) a = some (.inr (4, [.int (l - 1), .int (s_X8_isOpenBehind x o), .int c])) := up_s
    refine r_heap (G' := (va_up (va_up G a (some (.inr (4, [.int l, .int (s_X8_isOpenBehind x o), .int c])))) a (some (.inr (4, [.int (l - 1), .int (s_X8_isOpenBehind x o), .int c]))))) rfl ?_
    refine r_vret dX4_pass_48 rfl ?_
    exact ⟨rfl, by simp only [up_twice]; unfold skp; rw [if_neg c_1]⟩
  · refine r_aload_n dX4_pass_7 rfl 0 rfl ?_
    refine r_aload_n dX4_pass_8 rfl 0 rfl ?_
    refine r_get 1 dX4_pass_9 fRX4_13 h rfl ?_
    refine r_if_eq 22 dX4_pass_12 (by decide) (fun c_4 => ?_) (fun c_4 => ?_)
    · refine r_iload_n dX4_pass_22 rfl 1 rfl ?_
      refine r_put 2 (.char) dX4_pass_23 gRX4_17 h (Nat.le_of_ble_eq_true rfl) hc_x (fitC hc_x) ?_
      have hG_5 : (va_up G a (some (.inr (4, [.int l, .int o, .int x])))) a = some (.inr (4, [.int l, .int o, .int x])) := up_s
      refine r_heap (G' := (va_up G a (some (.inr (4, [.int l, .int o, .int x]))))) rfl ?_
      refine r_aload_n dX4_pass_26 rfl 0 rfl ?_
      refine r_iload_n dX4_pass_27 rfl 1 rfl ?_
      refine r_aload_n dX4_pass_28 rfl 0 rfl ?_
      refine r_get 1 dX4_pass_29 fRX4_13 hG_5 rfl ?_
      refine r_callSN (st := [.ref a]) [.int x, .int o] 0 0 dX4_pass_32 kX8_isOpenBehind nX8_isOpenBehind lRX4_27 (c_X8_isOpenBehind x o) rfl rfl (Nat.le_of_ble_eq_true rfl) (Nat.le_refl _) (Nat.le_refl _) (fun _ _ h => h.elim) ?_
      refine cx_det (st2 := [.int (s_X8_isOpenBehind x o), .ref a]) rfl ?_
      refine r_put 1 (.boolean) dX4_pass_35 gRX4_13 hG_5 (Nat.le_of_ble_eq_true rfl) nb_X8_isOpenBehind (fitZ nb_X8_isOpenBehind) ?_
      have hG_6 : (va_up (va_up G a (some (.inr (4, [.int l, .int o, .int x])))) a (some (.inr (4, [.int l, .int (s_X8_isOpenBehind x o), .int x])))) a = some (.inr (4, [.int l, .int (s_X8_isOpenBehind x o), .int x])) := up_s
      refine r_heap (G' := (va_up (va_up G a (some (.inr (4, [.int l, .int o, .int x])))) a (some (.inr (4, [.int l, .int (s_X8_isOpenBehind x o), .int x]))))) rfl ?_
      refine r_aload_n dX4_pass_38 rfl 0 rfl ?_
      refine r_dup dX4_pass_39 rfl ?_
      refine r_get 0 dX4_pass_40 fRX4_7 hG_6 rfl ?_
      refine r_iconst (v := 1) dX4_pass_43 (by decide) ?_
      refine r_isub dX4_pass_44 ?_
      refine r_put 0 (.int) dX4_pass_45 gRX4_7 hG_6 (Nat.le_of_ble_eq_true rfl) rfl rfl ?_
      have hG_7 : (va_up (va_up (va_up G a (some (.inr (4, [.int l, .int o, .int x])))) a (some (.inr (4, [.int l, .int (s_X8_isOpenBehind x o), .int x])))) a (some (.inr (4, [.int (l - 1), .int (s_X8_isOpenBehind x o), .int x])))) a = some (.inr (4, [.int (l - 1), .int (s_X8_isOpenBehind x o), .int x])) := up_s
      refine r_heap (G' := (va_up (va_up (va_up G a (some (.inr (4, [.int l, .int o, .int x])))) a (some (.inr (4, [.int l, .int (s_X8_isOpenBehind x o), .int x])))) a (some (.inr (4, [.int (l - 1), .int (s_X8_isOpenBehind x o), .int x]))))) rfl ?_
      refine r_vret dX4_pass_48 rfl ?_
      exact ⟨rfl, by simp only [up_twice]; unfold skp; rw [if_pos c_1, if_pos c_4]⟩
    · refine r_iload_n dX4_pass_15 rfl 1 rfl ?_
      refine r_callSN (st := [.ref a]) [.int x] 0 0 dX4_pass_16 kX8_capital nX8_capital lRX4_21 (c_X8_capital x hc_x) rfl rfl (Nat.le_of_ble_eq_true rfl) (Nat.le_refl _) (Nat.le_refl _) (fun _ _ h => h.elim) ?_
      refine cx_det (st2 := [.int (s_X8_capital x), .ref a]) rfl ?_
      refine r_goto 23 dX4_pass_19 (by decide) ?_
      refine r_put 2 (.char) dX4_pass_23 gRX4_17 h (Nat.le_of_ble_eq_true rfl) (nb_X8_capital hc_x) (fitC (nb_X8_capital hc_x)) ?_
      have hG_8 : (va_up G a (some (.inr (4, [.int l, .int o, .int (s_X8_capital x)])))) a = some (.inr (4, [.int l, .int o, .int (s_X8_capital x)])) := up_s
      refine r_heap (G' := (va_up G a (some (.inr (4, [.int l, .int o, .int (s_X8_capital x)]))))) rfl ?_
      refine r_aload_n dX4_pass_26 rfl 0 rfl ?_
      refine r_iload_n dX4_pass_27 rfl 1 rfl ?_
      refine r_aload_n dX4_pass_28 rfl 0 rfl ?_
      refine r_get 1 dX4_pass_29 fRX4_13 hG_8 rfl ?_
      refine r_callSN (st := [.ref a]) [.int x, .int o] 0 0 dX4_pass_32 kX8_isOpenBehind nX8_isOpenBehind lRX4_27 (c_X8_isOpenBehind x o) rfl rfl (Nat.le_of_ble_eq_true rfl) (Nat.le_refl _) (Nat.le_refl _) (fun _ _ h => h.elim) ?_
      refine cx_det (st2 := [.int (s_X8_isOpenBehind x o), .ref a]) rfl ?_
      refine r_put 1 (.boolean) dX4_pass_35 gRX4_13 hG_8 (Nat.le_of_ble_eq_true rfl) nb_X8_isOpenBehind (fitZ nb_X8_isOpenBehind) ?_
      have hG_9 : (va_up (va_up G a (some (.inr (4, [.int l, .int o, .int (s_X8_capital x)])))) a (some (.inr (4, [.int l, .int (s_X8_isOpenBehind x o), .int (s_X8_capital x)])))) a = some (.inr (4, [.int l, .int (s_X8_isOpenBehind x o), .int (s_X8_capital x)])) := up_s
      refine r_heap (G' := (va_up (va_up G a (some (.inr (4, [.int l, .int o, .int (s_X8_capital x)])))) a (some (.inr (4, [.int l, .int (s_X8_isOpenBehind x o), .int (s_X8_capital x)]))))) rfl ?_
      refine r_aload_n dX4_pass_38 rfl 0 rfl ?_
      refine r_dup dX4_pass_39 rfl ?_
      refine r_get 0 dX4_pass_40 fRX4_7 hG_9 rfl ?_
      refine r_iconst (v := 1) dX4_pass_43 (by decide) ?_
      refine r_isub dX4_pass_44 ?_
      refine r_put 0 (.int) dX4_pass_45 gRX4_7 hG_9 (Nat.le_of_ble_eq_true rfl) rfl rfl ?_
      have hG_10 : (va_up (va_up (va_up G a (some (.inr (4, [.int l, .int o, .int (s_X8_capital x)])))) a (some (.inr (4, [.int l, .int (s_X8_isOpenBehind x o), .int (s_X8_capital x)])))) a (some (.inr (4, [.int (l - 1), .int (s_X8_isOpenBehind x o), .int (s_X8_capital x)])))) a = some (.inr (4, [.int (l - 1), .int (s_X8_isOpenBehind x o), .int (s_X8_capital x)])) := up_s
      refine r_heap (G' := (va_up (va_up (va_up G a (some (.inr (4, [.int l, .int o, .int (s_X8_capital x)])))) a (some (.inr (4, [.int l, .int (s_X8_isOpenBehind x o), .int (s_X8_capital x)])))) a (some (.inr (4, [.int (l - 1), .int (s_X8_isOpenBehind x o), .int (s_X8_capital x)]))))) rfl ?_
      refine r_vret dX4_pass_48 rfl ?_
      exact ⟨rfl, by simp only [up_twice]; unfold skp; rw [if_pos c_1, if_neg c_4]⟩
set_option maxRecDepth 100000 in
set_option maxHeartbeats 4000000 in
theorem c_X4_passForm {d b0 : Nat} {G : GH} {a : Nat} {l o c : Int32} (h : G a = some (.inr (4, [.int l, .int o, .int c]))) (n : Int32) {x : Int32} (hc_x : isC x) : CTd mX4_passForm (d + 2) b0 G [.ref a, .int n, .int x] 0 0 none (va_up G a (some (skf l o c n x))) := by
  refine CT.intro (by decide +kernel) rfl (Nat.le_of_ble_eq_true rfl) ?_
  show WP mX4_passForm _ _ _ _ _ 0 0 0 [(0, .ref a), (1, .int n), (2, .int x)] []
  refine r_aload_n dX4_passForm_0 rfl 0 rfl ?_
  refine r_get 0 dX4_passForm_1 fRX4_7 h rfl ?_
  refine r_iload_n dX4_passForm_4 rfl 1 rfl ?_
  refine r_icmp_ge 34 dX4_passForm_5 (by decide) (fun c_1 => ?_) (fun c_1 => ?_)
  · refine r_aload_n dX4_passForm_34 rfl 0 rfl ?_
    refine r_iconst (v := 0) dX4_passForm_35 (by decide) ?_
    refine r_put 1 (.boolean) dX4_passForm_36 gRX4_13 h (Nat.le_of_ble_eq_true rfl) rfl rfl ?_
    have hG_2 : (va_up G a (some (.inr (4, [.int l, .int 0, .int c])))) a = some (.inr (4, [.int l, .int 0, .int c])) := up_s
    refine r_heap (G' := (va_up G a (some (.inr (4, [.int l, .int 0, .int c]))))) rfl ?_
    refine r_aload_n dX4_passForm_39 rfl 0 rfl ?_
    refine r_dup dX4_passForm_40 rfl ?_
    refine r_get 0 dX4_passForm_41 fRX4_7 hG_2 rfl ?_
    refine r_iload_n dX4_passForm_44 rfl 1 rfl ?_
    refine r_isub dX4_passForm_45 ?_
    refine r_put 0 (.int) dX4_passForm_46 gRX4_7 hG_2 (Nat.le_of_ble_eq_true rfl) rfl rfl ?_
    have hG_3 : (va_up (va_up G a (some (.inr (4, [.int l, .int 0, .int c])))) a (some (.inr (4, [.int (l - n), .int 0, .int c])))) a = some (.inr (4, [.int (l - n), .int 0, .int c])) := up_s
    refine r_heap (G' := (va_up (va_up G a (some (.inr (4, [.int l, .int 0, .int c])))) a (some (.inr (4, [.int (l - n), .int 0, .int c]))))) rfl ?_
    refine r_vret dX4_passForm_49 rfl ?_
    exact ⟨rfl, by simp only [up_twice]; unfold skf; rw [if_pos c_1]⟩
  · refine r_aload_n dX4_passForm_8 rfl 0 rfl ?_
    refine r_aload_n dX4_passForm_9 rfl 0 rfl ?_
    refine r_get 1 dX4_passForm_10 fRX4_13 h rfl ?_
    refine r_if_eq 30 dX4_passForm_13 (by decide) (fun c_4 => ?_) (fun c_4 => ?_)
    · refine r_iload_n dX4_passForm_30 rfl 2 rfl ?_
      refine r_put 2 (.char) dX4_passForm_31 gRX4_17 h (Nat.le_of_ble_eq_true rfl) hc_x (fitC hc_x) ?_
      have hG_5 : (va_up G a (some (.inr (4, [.int l, .int o, .int x])))) a = some (.inr (4, [.int l, .int o, .int x])) := up_s
      refine r_heap (G' := (va_up G a (some (.inr (4, [.int l, .int o, .int x]))))) rfl ?_
      refine r_aload_n dX4_passForm_34 rfl 0 rfl ?_
      refine r_iconst (v := 0) dX4_passForm_35 (by decide) ?_
      refine r_put 1 (.boolean) dX4_passForm_36 gRX4_13 hG_5 (Nat.le_of_ble_eq_true rfl) rfl rfl ?_
      have hG_6 : (va_up (va_up G a (some (.inr (4, [.int l, .int o, .int x])))) a (some (.inr (4, [.int l, .int 0, .int x])))) a = some (.inr (4, [.int l, .int 0, .int x])) := up_s
      refine r_heap (G' := (va_up (va_up G a (some (.inr (4, [.int l, .int o, .int x])))) a (some (.inr (4, [.int l, .int 0, .int x]))))) rfl ?_
      refine r_aload_n dX4_passForm_39 rfl 0 rfl ?_
      refine r_dup dX4_passForm_40 rfl ?_
      refine r_get 0 dX4_passForm_41 fRX4_7 hG_6 rfl ?_
      refine r_iload_n dX4_passForm_44 rfl 1 rfl ?_
      refine r_isub dX4_passForm_45 ?_
      refine r_put 0 (.int) dX4_passForm_46 gRX4_7 hG_6 (Nat.le_of_ble_eq_true rfl) rfl rfl ?_
      have hG_7 : (va_up (va_up (va_up G a (some (.inr (4, [.int l, .int o, .int x])))) a (some (.inr (4, [.int l, .int 0, .int x])))) a (some (.inr (4, [.int (l - n), .int 0, .int x])))) a = some (.inr (4, [.int (l - n), .int 0, .int x])) := up_s
      refine r_heap (G' := (va_up (va_up (va_up G a (some (.inr (4, [.int l, .int o, .int x])))) a (some (.inr (4, [.int l, .int 0, .int x])))) a (some (.inr (4, [.int (l - n), .int 0, .int x]))))) rfl ?_
      refine r_vret dX4_passForm_49 rfl ?_
      exact ⟨rfl, by simp only [up_twice]; unfold skf; rw [if_neg c_1, if_pos c_4]⟩
    · refine r_aload_n dX4_passForm_16 rfl 0 rfl ?_
      refine r_get 0 dX4_passForm_17 fRX4_7 h rfl ?_
      refine r_if_ne 30 dX4_passForm_20 (by decide) (fun c_8 => ?_) (fun c_8 => ?_)
      · refine r_iload_n dX4_passForm_30 rfl 2 rfl ?_
        refine r_put 2 (.char) dX4_passForm_31 gRX4_17 h (Nat.le_of_ble_eq_true rfl) hc_x (fitC hc_x) ?_
        have hG_9 : (va_up G a (some (.inr (4, [.int l, .int o, .int x])))) a = some (.inr (4, [.int l, .int o, .int x])) := up_s
        refine r_heap (G' := (va_up G a (some (.inr (4, [.int l, .int o, .int x]))))) rfl ?_
        refine r_aload_n dX4_passForm_34 rfl 0 rfl ?_
        refine r_iconst (v := 0) dX4_passForm_35 (by decide) ?_
        refine r_put 1 (.boolean) dX4_passForm_36 gRX4_13 hG_9 (Nat.le_of_ble_eq_true rfl) rfl rfl ?_
        have hG_10 : (va_up (va_up G a (some (.inr (4, [.int l, .int o, .int x])))) a (some (.inr (4, [.int l, .int 0, .int x])))) a = some (.inr (4, [.int l, .int 0, .int x])) := up_s
        refine r_heap (G' := (va_up (va_up G a (some (.inr (4, [.int l, .int o, .int x])))) a (some (.inr (4, [.int l, .int 0, .int x]))))) rfl ?_
        refine r_aload_n dX4_passForm_39 rfl 0 rfl ?_
        refine r_dup dX4_passForm_40 rfl ?_
        refine r_get 0 dX4_passForm_41 fRX4_7 hG_10 rfl ?_
        refine r_iload_n dX4_passForm_44 rfl 1 rfl ?_
        refine r_isub dX4_passForm_45 ?_
        refine r_put 0 (.int) dX4_passForm_46 gRX4_7 hG_10 (Nat.le_of_ble_eq_true rfl) rfl rfl ?_
        have hG_11 : (va_up (va_up (va_up G a (some (.inr (4, [.int l, .int o, .int x])))) a (some (.inr (4, [.int l, .int 0, .int x])))) a (some (.inr (4, [.int (l - n), .int 0, .int x])))) a = some (.inr (4, [.int (l - n), .int 0, .int x])) := up_s
        refine r_heap (G' := (va_up (va_up (va_up G a (some (.inr (4, [.int l, .int o, .int x])))) a (some (.inr (4, [.int l, .int 0, .int x])))) a (some (.inr (4, [.int (l - n), .int 0, .int x]))))) rfl ?_
        refine r_vret dX4_passForm_49 rfl ?_
        exact ⟨rfl, by simp only [up_twice]; unfold skf; rw [if_neg c_1, if_neg c_4, if_neg c_8]⟩
      · refine r_iload_n dX4_passForm_23 rfl 2 rfl ?_
        refine r_callSN (st := [.ref a]) [.int x] 0 0 dX4_passForm_24 kX8_capital nX8_capital lRX4_21 (c_X8_capital x hc_x) rfl rfl (Nat.le_of_ble_eq_true rfl) (Nat.le_refl _) (Nat.le_refl _) (fun _ _ h => h.elim) ?_
        refine cx_det (st2 := [.int (s_X8_capital x), .ref a]) rfl ?_
        refine r_goto 31 dX4_passForm_27 (by decide) ?_
        refine r_put 2 (.char) dX4_passForm_31 gRX4_17 h (Nat.le_of_ble_eq_true rfl) (nb_X8_capital hc_x) (fitC (nb_X8_capital hc_x)) ?_
        have hG_12 : (va_up G a (some (.inr (4, [.int l, .int o, .int (s_X8_capital x)])))) a = some (.inr (4, [.int l, .int o, .int (s_X8_capital x)])) := up_s
        refine r_heap (G' := (va_up G a (some (.inr (4, [.int l, .int o, .int (s_X8_capital x)]))))) rfl ?_
        refine r_aload_n dX4_passForm_34 rfl 0 rfl ?_
        refine r_iconst (v := 0) dX4_passForm_35 (by decide) ?_
        refine r_put 1 (.boolean) dX4_passForm_36 gRX4_13 hG_12 (Nat.le_of_ble_eq_true rfl) rfl rfl ?_
        have hG_13 : (va_up (va_up G a (some (.inr (4, [.int l, .int o, .int (s_X8_capital x)])))) a (some (.inr (4, [.int l, .int 0, .int (s_X8_capital x)])))) a = some (.inr (4, [.int l, .int 0, .int (s_X8_capital x)])) := up_s
        refine r_heap (G' := (va_up (va_up G a (some (.inr (4, [.int l, .int o, .int (s_X8_capital x)])))) a (some (.inr (4, [.int l, .int 0, .int (s_X8_capital x)]))))) rfl ?_
        refine r_aload_n dX4_passForm_39 rfl 0 rfl ?_
        refine r_dup dX4_passForm_40 rfl ?_
        refine r_get 0 dX4_passForm_41 fRX4_7 hG_13 rfl ?_
        refine r_iload_n dX4_passForm_44 rfl 1 rfl ?_
        refine r_isub dX4_passForm_45 ?_
        refine r_put 0 (.int) dX4_passForm_46 gRX4_7 hG_13 (Nat.le_of_ble_eq_true rfl) rfl rfl ?_
        have hG_14 : (va_up (va_up (va_up G a (some (.inr (4, [.int l, .int o, .int (s_X8_capital x)])))) a (some (.inr (4, [.int l, .int 0, .int (s_X8_capital x)])))) a (some (.inr (4, [.int (l - n), .int 0, .int (s_X8_capital x)])))) a = some (.inr (4, [.int (l - n), .int 0, .int (s_X8_capital x)])) := up_s
        refine r_heap (G' := (va_up (va_up (va_up G a (some (.inr (4, [.int l, .int o, .int (s_X8_capital x)])))) a (some (.inr (4, [.int l, .int 0, .int (s_X8_capital x)])))) a (some (.inr (4, [.int (l - n), .int 0, .int (s_X8_capital x)]))))) rfl ?_
        refine r_vret dX4_passForm_49 rfl ?_
        exact ⟨rfl, by simp only [up_twice]; unfold skf; rw [if_neg c_1, if_neg c_4, if_pos c_8]⟩
