set_option maxRecDepth 100000 in
set_option maxHeartbeats 4000000 in
theorem c_X5_init {d b0 : Nat} {G : GH} {a N : Nat} (hN : 0 < N) (hN2 : N < 2000) (h : G a = some (.inr (5, [.null, .int 0]))) : CT mX5_init (d + 1) b0 G [.ref a, .int (nI N)] 1 N (fun r G' => r = none ∧ ∃ q : Nat, G q = none ∧ b0 ≤ q ∧ G' = va_up (va_up G q (some (chA N (fun _ => 0)))) a (some (sgC q 0))) (fun _ _ => False) := by
  refine CT.intro (by decide +kernel) rfl (Nat.le_of_ble_eq_true rfl) ?_
  show WP mX5_init _ _ _ _ _ 1 N 0 [(0, .ref a), (1, .int (nI N))] []
  refine r_aload_n dX5_init_0 rfl 0 rfl ?_
  refine r_obj dX5_init_1 lRX5_1 (by omega) (Nat.le_of_ble_eq_true rfl) ?_
  refine r_aload_n dX5_init_4 rfl 0 rfl ?_
  refine r_iload_n dX5_init_5 rfl 1 rfl ?_
  refine r_if_le 13 dX5_init_6 (by decide) (fun c_1 => absurd c_1 (fun q => nI_nle hN (by omega) q)) (fun c_1 => ?_)
  refine r_iload_n dX5_init_9 rfl 1 rfl ?_
  refine r_goto 14 dX5_init_10 (by decide) ?_
  refine r_newa (.char) N (N, .inl (fun _ => 0)) 0 0 dX5_init_14 ac_char rfl (fun _ _ h => h) (fun _ => rfl) (nI_pos (by omega)) (nI_cl (by omega)) (by show N * 2 ≤ 536870912; omega) (Nat.le_refl _) (by omega) (fun q_2 hq_3 hb_4 => ?_)
  have hG_5 := up_n (e := some (.inl (.char, N, .inl (fun _ => 0)))) (cx_nf h hq_3) h
  have hG_6 : (va_up G q_2 (some (.inl (.char, N, .inl (fun _ => 0))))) q_2 = some (.inl (.char, N, .inl (fun _ => 0))) := up_s
  refine r_heap (G' := (va_up G q_2 (some (.inl (.char, N, .inl (fun _ => 0)))))) rfl ?_
  refine r_putF 0 (.array .char) dX5_init_16 gRX5_7 rfl hG_5 (Nat.le_of_ble_eq_true rfl) rfl rfl ?_
  have hG_7 := up_n (e := some (.inr (5, [.ref q_2, .int 0]))) (cx_ne hG_6 hG_5 (by simp)) hG_6
  have hG_8 : (va_up (va_up G q_2 (some (.inl (.char, N, .inl (fun _ => 0))))) a (some (.inr (5, [.ref q_2, .int 0])))) a = some (.inr (5, [.ref q_2, .int 0])) := up_s
  refine r_heap (G' := (va_up (va_up G q_2 (some (.inl (.char, N, .inl (fun _ => 0))))) a (some (.inr (5, [.ref q_2, .int 0]))))) rfl ?_
  refine r_vret dX5_init_19 rfl ?_
  exact ⟨rfl, q_2, hq_3, hb_4, by first | rfl | (unfold sgC; rw [nI_0])⟩
set_option maxRecDepth 100000 in
set_option maxHeartbeats 4000000 in
theorem c_X5_length {d b0 : Nat} {G : GH} {a arr cap len : Nat} {f : Nat → Int32} (h : SG G a arr cap len f) : CTd mX5_length d b0 G [.ref a] 0 0 (some (.int (nI len))) G := by
  refine CT.intro (by decide +kernel) rfl (Nat.le_of_ble_eq_true rfl) ?_
  show WP mX5_length _ _ _ _ _ 0 0 0 [(0, .ref a)] []
  refine r_aload_n dX5_length_0 rfl 0 rfl ?_
  refine r_get 1 dX5_length_1 fRX5_13 h.1 rfl ?_
  refine r_ireti dX5_length_4 rfl ?_
  exact ⟨rfl, rfl⟩
def s_X5_at (len : Nat) (f : Nat → Int32) (i : Int32) : Int32 := if i < 0 then 0 else if nI len ≤ i then 0 else f i.toNatClampNeg
theorem s_X5_at_nI {len : Nat} {f : Nat → Int32} {k : Nat} (hl : len < 2000) (hk : k < 2 ^ 31) : s_X5_at len f (nI k) = chr f len k := by
  unfold s_X5_at chr
  rw [if_neg (nI_pos hk)]
  by_cases h : k < len
  · rw [if_pos h, if_neg (nI_ge h (by omega)), nI_cl hk]
  · rw [if_neg h, if_pos (nI_le (by omega) hk)]
theorem s_X5_at_lt {len : Nat} {f : Nat → Int32} {k : Nat} (hl : len < 2000) (h : k < len) : s_X5_at len f (nI k) = f k := by
  rw [s_X5_at_nI hl (by omega)]; unfold chr; rw [if_pos h]
theorem s_X5_at_C {len : Nat} {f : Nat → Int32} {i : Int32} (hl : len < 2000) (hf : ∀ k, k < len → isC (f k)) : isC (s_X5_at len f i) := by
  by_cases h0 : i < 0
  · unfold s_X5_at; rw [if_pos h0]; rfl
  · obtain ⟨k, hk, rfl⟩ := nI_of h0
    rw [s_X5_at_nI hl hk]
    unfold chr
    split
    · exact hf k (by assumption)
    · rfl
theorem chr_C {len : Nat} {f : Nat → Int32} {k : Nat} (hf : ∀ k, k < len → isC (f k)) : isC (chr f len k) := by
  unfold chr
  split
  · exact hf k (by assumption)
  · rfl
set_option maxRecDepth 100000 in
set_option maxHeartbeats 4000000 in
theorem c_X5_at {d b0 : Nat} {G : GH} {a arr cap len : Nat} {f : Nat → Int32} (h : SG G a arr cap len f) (hf : ∀ k, k < len → isC (f k)) (i : Int32) : CTd mX5_at d b0 G [.ref a, .int i] 0 0 (some (.int (s_X5_at len f i))) G := by
  have hf2 : ∀ i : Int32, ¬ i < 0 → ¬ nI len ≤ i → isC (f i.toNatClampNeg) := fun i h1 h2 => by
    obtain ⟨j, hj, hx, -⟩ := pk_mu h1 h2 (by omega)
    rw [hx, nI_cl (by omega)]
    exact hf j hj
  refine CT.intro (by decide +kernel) rfl (Nat.le_of_ble_eq_true rfl) ?_
  show WP mX5_at _ _ _ _ _ 0 0 0 [(0, .ref a), (1, .int i)] []
  refine r_iload_n dX5_at_0 rfl 1 rfl ?_
  refine r_if_lt 30 dX5_at_1 (by decide) (fun c_1 => ?_) (fun c_1 => ?_)
  · refine r_iconst (v := 0) dX5_at_30 (by decide) ?_
    refine r_ret .char dX5_at_31 rfl rfl ?_
    exact ⟨by unfold s_X5_at; rw [if_pos c_1], rfl⟩
  · refine r_iload_n dX5_at_4 rfl 1 rfl ?_
    refine r_aload_n dX5_at_5 rfl 0 rfl ?_
    refine r_get 1 dX5_at_6 fRX5_13 h.1 rfl ?_
    refine r_icmp_ge 30 dX5_at_9 (by decide) (fun c_2 => ?_) (fun c_2 => ?_)
    · refine r_iconst (v := 0) dX5_at_30 (by decide) ?_
      refine r_ret .char dX5_at_31 rfl rfl ?_
      exact ⟨by unfold s_X5_at; rw [if_neg c_1, if_pos c_2], rfl⟩
    · refine r_iload_n dX5_at_12 rfl 1 rfl ?_
      refine r_aload_n dX5_at_13 rfl 0 rfl ?_
      refine r_get 0 dX5_at_14 fRX5_7 h.1 rfl ?_
      refine r_alen (v := nI cap) dX5_at_17 h.2.1 rfl ?_
      refine r_icmp_ge 30 dX5_at_18 (by decide) (fun c_3 => absurd c_3 (fun q => c_2 (nI_up h.2.2.1 (by omega) q))) (fun c_3 => ?_)
      refine r_aload_n dX5_at_21 rfl 0 rfl ?_
      refine r_get 0 dX5_at_22 fRX5_7 h.1 rfl ?_
      refine r_iload_n dX5_at_25 rfl 1 rfl ?_
      refine r_cald dX5_at_26 h.2.1 (vin c_1 (fun q => c_2 (nI_up h.2.2.1 (by omega) q)) (by omega)) ?_
      refine r_goto 31 dX5_at_27 (by decide) ?_
      refine r_ret .char dX5_at_31 rfl (hf2 _ c_1 c_2) ?_
      exact ⟨by unfold s_X5_at; rw [if_neg c_1, if_neg c_2], rfl⟩
set_option maxRecDepth 100000 in
set_option maxHeartbeats 4000000 in
theorem c_X5_append_t {d b0 : Nat} {G : GH} {a arr cap len : Nat} {f : Nat → Int32} (h : SG G a arr cap len f) (hlt : len < cap) {x : Int32} (hx : isC x) : CTd mX5_append d b0 G [.ref a, .int x] 0 0 (some (.int 1)) (va_up (va_up G arr (some (chA cap (upd f len x)))) a (some (sgC arr (len + 1)))) := by
  refine CT.intro (by decide +kernel) rfl (Nat.le_of_ble_eq_true rfl) ?_
  show WP mX5_append _ _ _ _ _ 0 0 0 [(0, .ref a), (1, .int x)] []
  refine r_aload_n dX5_append_0 rfl 0 rfl ?_
  refine r_get 1 dX5_append_1 fRX5_13 h.1 rfl ?_
  refine r_if_lt 19 dX5_append_4 (by decide) (fun c_1 => absurd c_1 (nI_pos (by omega))) (fun c_1 => ?_)
  refine r_aload_n dX5_append_7 rfl 0 rfl ?_
  refine r_get 1 dX5_append_8 fRX5_13 h.1 rfl ?_
  refine r_aload_n dX5_append_11 rfl 0 rfl ?_
  refine r_get 0 dX5_append_12 fRX5_7 h.1 rfl ?_
  refine r_alen (v := nI cap) dX5_append_15 h.2.1 rfl ?_
  refine r_icmp_lt 21 dX5_append_16 (by decide) (fun c_2 => ?_) (fun c_2 => absurd (nI_lt hlt (by omega)) c_2)
  refine r_aload_n dX5_append_21 rfl 0 rfl ?_
  refine r_get 0 dX5_append_22 fRX5_7 h.1 rfl ?_
  refine r_aload_n dX5_append_25 rfl 0 rfl ?_
  refine r_get 1 dX5_append_26 fRX5_13 h.1 rfl ?_
  refine r_iload_n dX5_append_29 rfl 1 rfl ?_
  refine r_cast dX5_append_30 h.2.1 (vp_in_nI hlt (by omega)) hx ?_
  have hG_3 := up_n (e := some (.inl (.char, cap, .inl (upd f (nI len).toNatClampNeg x)))) (cx_ne h.1 h.2.1 (by simp)) h.1
  have hG_4 : (va_up G arr (some (.inl (.char, cap, .inl (upd f (nI len).toNatClampNeg x))))) arr = some (.inl (.char, cap, .inl (upd f (nI len).toNatClampNeg x))) := up_s
  refine r_heap (G' := (va_up G arr (some (.inl (.char, cap, .inl (upd f (nI len).toNatClampNeg x)))))) rfl ?_
  refine r_aload_n dX5_append_31 rfl 0 rfl ?_
  refine r_dup dX5_append_32 rfl ?_
  refine r_get 1 dX5_append_33 fRX5_13 hG_3 rfl ?_
  refine r_iconst (v := 1) dX5_append_36 (by decide) ?_
  refine r_iadd dX5_append_37 ?_
  refine r_put 1 (.int) dX5_append_38 gRX5_13 hG_3 (Nat.le_of_ble_eq_true rfl) rfl rfl ?_
  have hG_5 := up_n (e := some (.inr (5, [.ref arr, .int ((nI len) + 1)]))) (cx_ne hG_4 hG_3 (by simp)) hG_4
  have hG_6 : (va_up (va_up G arr (some (.inl (.char, cap, .inl (upd f (nI len).toNatClampNeg x))))) a (some (.inr (5, [.ref arr, .int ((nI len) + 1)])))) a = some (.inr (5, [.ref arr, .int ((nI len) + 1)])) := up_s
  refine r_heap (G' := (va_up (va_up G arr (some (.inl (.char, cap, .inl (upd f (nI len).toNatClampNeg x))))) a (some (.inr (5, [.ref arr, .int ((nI len) + 1)]))))) rfl ?_
  refine r_iconst (v := 1) dX5_append_41 (by decide) ?_
  refine r_ret .boolean dX5_append_42 rfl rfl ?_
  exact ⟨rfl, by rw [nI_cl (by omega), nI_1]⟩
set_option maxRecDepth 100000 in
set_option maxHeartbeats 4000000 in
theorem c_X5_append_f {d b0 : Nat} {G : GH} {a arr cap len : Nat} {f : Nat → Int32} (h : SG G a arr cap len f) (hge : ¬ len < cap) (x : Int32) : CTd mX5_append d b0 G [.ref a, .int x] 0 0 (some (.int 0)) G := by
  refine CT.intro (by decide +kernel) rfl (Nat.le_of_ble_eq_true rfl) ?_
  show WP mX5_append _ _ _ _ _ 0 0 0 [(0, .ref a), (1, .int x)] []
  refine r_aload_n dX5_append_0 rfl 0 rfl ?_
  refine r_get 1 dX5_append_1 fRX5_13 h.1 rfl ?_
  refine r_if_lt 19 dX5_append_4 (by decide) (fun c_1 => absurd c_1 (nI_pos (by omega))) (fun c_1 => ?_)
  refine r_aload_n dX5_append_7 rfl 0 rfl ?_
  refine r_get 1 dX5_append_8 fRX5_13 h.1 rfl ?_
  refine r_aload_n dX5_append_11 rfl 0 rfl ?_
  refine r_get 0 dX5_append_12 fRX5_7 h.1 rfl ?_
  refine r_alen (v := nI cap) dX5_append_15 h.2.1 rfl ?_
  refine r_icmp_lt 21 dX5_append_16 (by decide) (fun c_2 => absurd c_2 (nI_nlt (by omega) (by omega))) (fun c_2 => ?_)
  refine r_iconst (v := 0) dX5_append_19 (by decide) ?_
  refine r_ret .boolean dX5_append_20 rfl rfl ?_
  exact ⟨rfl, rfl⟩
set_option maxRecDepth 100000 in
set_option maxHeartbeats 4000000 in
theorem c_X5_empty {d b0 : Nat} {G : GH} {a arr cap len : Nat} {f : Nat → Int32} (h : SG G a arr cap len f) : CTd mX5_empty d b0 G [.ref a] 0 0 none (va_up G a (some (sgC arr 0))) := by
  refine CT.intro (by decide +kernel) rfl (Nat.le_of_ble_eq_true rfl) ?_
  show WP mX5_empty _ _ _ _ _ 0 0 0 [(0, .ref a)] []
  refine r_aload_n dX5_empty_0 rfl 0 rfl ?_
  refine r_iconst (v := 0) dX5_empty_1 (by decide) ?_
  refine r_put 1 (.int) dX5_empty_2 gRX5_13 h.1 (Nat.le_of_ble_eq_true rfl) rfl rfl ?_
  have hG_1 := up_n (e := some (.inr (5, [.ref arr, .int 0]))) (cx_ne h.2.1 h.1 (by simp)) h.2.1
  have hG_2 : (va_up G a (some (.inr (5, [.ref arr, .int 0])))) a = some (.inr (5, [.ref arr, .int 0])) := up_s
  refine r_heap (G' := (va_up G a (some (.inr (5, [.ref arr, .int 0]))))) rfl ?_
  refine r_vret dX5_empty_5 rfl ?_
  exact ⟨rfl, by first | rfl | (unfold sgC; rw [nI_0])⟩
def s_X5_isLetters (f : Nat → Int32) (len lo hi : Nat) : Int32 := b2i (allB (fun k => smB (f k)) len && (decide (lo ≤ len) && decide (len ≤ hi)))
set_option maxRecDepth 100000 in
set_option maxHeartbeats 4000000 in
theorem lp_X5_isLetters {d b0 : Nat} {G : GH} {a arr cap len : Nat} {f : Nat → Int32} (h : SG G a arr cap len f) (hf : ∀ k, k < len → isC (f k)) {lo hi : Nat} (hlo : lo < 2000) (hhi : hi < 2000) : ∀ (fu : Nat) (k : Nat), k ≤ len ∧ (∀ j, j < k → smB (f j) = true) → len - k < fu → WP mX5_isLetters (d + 1) b0 (fun r G' => r = some (.int (s_X5_isLetters f len lo hi)) ∧ G' = G) (fun _ _ => False) G 0 0 2 [(3, .int (nI k)), (0, .ref a), (1, .int (nI lo)), (2, .int (nI hi))] [] := by
  intro fu
  induction fu with
  | zero => intro k hinv hn; exact absurd hn (Nat.not_lt_zero _)
  | succ fu ih =>
    intro k hinv hn
    have hb1 := h.2.2.1
    have hb2 := h.2.2.2
    refine r_iload_n dX5_isLetters_2 rfl 0 rfl ?_
    refine r_aload_n dX5_isLetters_3 rfl 1 rfl ?_
    refine r_get 1 dX5_isLetters_4 fRX5_13 h.1 rfl ?_
    refine r_icmp_ge 29 dX5_isLetters_7 (by decide) (fun c_1 => ?_) (fun c_1 => ?_)
    · refine r_aload_n dX5_isLetters_29 rfl 1 rfl ?_
      refine r_get 1 dX5_isLetters_30 fRX5_13 h.1 rfl ?_
      refine r_iload_n dX5_isLetters_33 rfl 2 rfl ?_
      refine r_icmp_lt 49 dX5_isLetters_34 (by decide) (fun c_2 => ?_) (fun c_2 => ?_)
      · refine r_iconst (v := 0) dX5_isLetters_49 (by decide) ?_
        refine r_ret .boolean dX5_isLetters_50 rfl rfl ?_
        have hk : len ≤ k := ni_le (by omega) (by omega) c_1
        have hall : allB (fun k => smB (f k)) len = true := (allB_iff _ _).mpr (fun j hj => hinv.2 j (by omega))
        have h1 : ¬ lo ≤ len := Nat.not_le.mpr (ni_lt (by omega) (by omega) c_2)
        exact ⟨by unfold s_X5_isLetters; rw [hall, decide_eq_false h1]; rfl, rfl⟩
      · refine r_aload_n dX5_isLetters_37 rfl 1 rfl ?_
        refine r_get 1 dX5_isLetters_38 fRX5_13 h.1 rfl ?_
        refine r_iload_n dX5_isLetters_41 rfl 3 rfl ?_
        refine r_icmp_gt 49 dX5_isLetters_42 (by decide) (fun c_3 => ?_) (fun c_3 => ?_)
        · refine r_iconst (v := 0) dX5_isLetters_49 (by decide) ?_
          refine r_ret .boolean dX5_isLetters_50 rfl rfl ?_
          have hk : len ≤ k := ni_le (by omega) (by omega) c_1
          have hall : allB (fun k => smB (f k)) len = true := (allB_iff _ _).mpr (fun j hj => hinv.2 j (by omega))
          have h1 : lo ≤ len := ni_nlt (by omega) (by omega) c_2
          have h2 : ¬ len ≤ hi := Nat.not_le.mpr (ni_lt (by omega) (by omega) c_3)
          exact ⟨by unfold s_X5_isLetters; rw [hall, decide_eq_true h1, decide_eq_false h2]; rfl, rfl⟩
        · refine r_iconst (v := 1) dX5_isLetters_45 (by decide) ?_
          refine r_goto 50 dX5_isLetters_46 (by decide) ?_
          refine r_ret .boolean dX5_isLetters_50 rfl rfl ?_
          have hk : len ≤ k := ni_le (by omega) (by omega) c_1
          have hall : allB (fun k => smB (f k)) len = true := (allB_iff _ _).mpr (fun j hj => hinv.2 j (by omega))
          have h1 : lo ≤ len := ni_nlt (by omega) (by omega) c_2
          have h2 : len ≤ hi := ni_nlt (by omega) (by omega) c_3
          exact ⟨by unfold s_X5_isLetters; rw [hall, decide_eq_true h1, decide_eq_true h2]; rfl, rfl⟩
    · refine r_aload_n dX5_isLetters_10 rfl 1 rfl ?_
      refine r_iload_n dX5_isLetters_11 rfl 0 rfl ?_
      refine r_callV (st := []) [.int (nI k)] 0 0 dX5_isLetters_12 kX5_at nX5_at lRX5_23 h.1 rfl (c_X5_at h hf (nI k)) rfl rfl (Nat.le_of_ble_eq_true rfl) (Nat.le_refl _) (Nat.le_refl _) (fun _ _ h => h.elim) ?_
      refine cx_det (st2 := [.int (s_X5_at len f (nI k))]) rfl ?_
      have hat : s_X5_at len f (nI k) = f k := s_X5_at_lt (by omega) (ni_nle (by omega) (by omega) c_1)
      refine r_top (f k) hat ?_
      refine r_callSN (st := []) [.int (f k)] 0 0 dX5_isLetters_15 kX8_isSmall nX8_isSmall lRX5_31 (c_X8_isSmall (f k)) rfl rfl (Nat.le_of_ble_eq_true rfl) (Nat.le_refl _) (Nat.le_refl _) (fun _ _ h => h.elim) ?_
      refine cx_det (st2 := [.int (s_X8_isSmall (f k))]) rfl ?_
      refine r_if_ne 23 dX5_isLetters_18 (by decide) (fun c_4 => ?_) (fun c_4 => ?_)
      · have hk : k < len := ni_nle (by omega) (by omega) c_1
        refine r_iinc (nI (k + 1)) [(3, .int (nI (k + 1))), (0, .ref a), (1, .int (nI lo)), (2, .int (nI hi))] dX5_isLetters_23 0 rfl (nI_1 k) (by decide) rfl ?_
        refine r_goto 2 dX5_isLetters_26 (by decide) ?_
        exact ih (k + 1) ⟨by omega, fun j hj => by
          rcases Nat.lt_or_ge j k with q | q
          · exact hinv.2 j q
          · rw [show j = k by omega]; exact smB_t c_4⟩ (by omega)
      · refine r_iconst (v := 0) dX5_isLetters_21 (by decide) ?_
        refine r_ret .boolean dX5_isLetters_22 rfl rfl ?_
        have hk : k < len := ni_nle (by omega) (by omega) c_1
        exact ⟨by unfold s_X5_isLetters; rw [allB_no hk (smB_f c_4)]; rfl, rfl⟩
set_option maxRecDepth 100000 in
set_option maxHeartbeats 4000000 in
theorem c_X5_isLetters {d b0 : Nat} {G : GH} {a arr cap len : Nat} {f : Nat → Int32} (h : SG G a arr cap len f) (hf : ∀ k, k < len → isC (f k)) {lo hi : Nat} (hlo : lo < 2000) (hhi : hi < 2000) : CTd mX5_isLetters (d + 1) b0 G [.ref a, .int (nI lo), .int (nI hi)] 0 0 (some (.int (s_X5_isLetters f len lo hi))) G := by
  refine CT.intro (by decide +kernel) rfl (Nat.le_of_ble_eq_true rfl) ?_
  show WP mX5_isLetters _ _ _ _ _ 0 0 0 [(0, .ref a), (1, .int (nI lo)), (2, .int (nI hi))] []
  refine r_iconst (v := nI 0) dX5_isLetters_0 (by decide) ?_
  refine r_istore_n [(3, .int (nI 0)), (0, .ref a), (1, .int (nI lo)), (2, .int (nI hi))] dX5_isLetters_1 rfl (by decide) rfl ?_
  exact lp_X5_isLetters h hf hlo hhi (len + 1) 0 ⟨Nat.zero_le _, fun j hj => absurd hj (Nat.not_lt_zero j)⟩ (by omega)
set_option maxRecDepth 100000 in
set_option maxHeartbeats 4000000 in
theorem lp_X5_take {d b0 : Nat} {G : GH} {a arr cap len b brr bcap blen : Nat} {f g : Nat → Int32} (h : SG G a arr cap len f) (h2 : SG G b brr bcap blen g) (hab : a ≠ b) (hrr : arr ≠ brr) (hg : ∀ k, k < blen → isC (g k)) (hle : blen ≤ cap) : ∀ (fu : Nat) (k : Nat), k ≤ blen → blen - k < fu → WP mX5_take (d + 1) b0 (fun r G' => r = none ∧ G' = va_up (va_up G arr (some (chA cap (cpy g f blen)))) a (some (sgC arr blen))) (fun _ _ => False) (va_up (va_up G arr (some (chA cap (cpy g f k)))) a (some (sgC arr k))) 0 0 6 [(2, .int (nI k)), (0, .ref a), (1, .ref b)] [] := by
  intro fu
  induction fu with
  | zero => intro k hinv hn; exact absurd hn (Nat.not_lt_zero _)
  | succ fu ih =>
    intro k hinv hn
    have hb1 := h.2.2.1
    have hb2 := h.2.2.2
    have hb3 := h2.2.2.1
    have hb4 := h2.2.2.2
    have ha : SG (va_up (va_up G arr (some (chA cap (cpy g f k)))) a (some (sgC arr k))) a arr cap k (cpy g f k) := ⟨up_s, up_n (Ne.symm h.ne) up_s, by omega, by omega⟩
    have hb : SG (va_up (va_up G arr (some (chA cap (cpy g f k)))) a (some (sgC arr k))) b brr bcap blen g := (h2.keep (cx_ne h2.1 h.2.1 (by simp)) (Ne.symm hrr)).keep (Ne.symm hab) (cx_ne h2.2.1 h.1 (by simp))
    refine r_iload_n dX5_take_6 rfl 0 rfl ?_
    refine r_aload_n dX5_take_7 rfl 2 rfl ?_
    refine r_callV (st := [.int (nI k)]) [] 0 0 dX5_take_8 kX5_length nX5_length lRX5_20 hb.1 rfl (c_X5_length hb) rfl rfl (Nat.le_of_ble_eq_true rfl) (Nat.le_refl _) (Nat.le_refl _) (fun _ _ h => h.elim) ?_
    refine cx_det (st2 := [.int (nI blen), .int (nI k)]) rfl ?_
    refine r_icmp_ge 30 dX5_take_11 (by decide) (fun c_1 => ?_) (fun c_1 => ?_)
    · refine r_vret dX5_take_30 rfl ?_
      have hk : k = blen := by have := ni_le (by omega) (by omega) c_1; omega
      exact ⟨rfl, by rw [hk]⟩
    · refine r_aload_n dX5_take_14 rfl 1 rfl ?_
      refine r_aload_n dX5_take_15 rfl 2 rfl ?_
      refine r_iload_n dX5_take_16 rfl 0 rfl ?_
      refine r_callV (st := [.ref a]) [.int (nI k)] 0 0 dX5_take_17 kX5_at nX5_at lRX5_23 hb.1 rfl (c_X5_at hb hg (nI k)) rfl rfl (Nat.le_of_ble_eq_true rfl) (Nat.le_refl _) (Nat.le_refl _) (fun _ _ h => h.elim) ?_
      refine cx_det (st2 := [.int (s_X5_at blen g (nI k)), .ref a]) rfl ?_
      have hk : k < blen := ni_nle (by omega) (by omega) c_1
      refine r_top (g k) (s_X5_at_lt (by omega) hk) ?_
      refine r_callV (st := []) [.int (g k)] 0 0 dX5_take_20 kX5_append nX5_append lRX5_27 ha.1 rfl (c_X5_append_t ha (by omega) (hg k hk)) rfl rfl (Nat.le_of_ble_eq_true rfl) (Nat.le_refl _) (Nat.le_refl _) (fun _ _ h => h.elim) ?_
      refine cx_det (st2 := [.int 1]) rfl ?_
      refine r_pop dX5_take_23 rfl ?_
      refine r_heap ((up_four (Ne.symm h.ne)).trans (by rw [cpy_s])) ?_
      refine r_iinc (nI (k + 1)) [(2, .int (nI (k + 1))), (0, .ref a), (1, .ref b)] dX5_take_24 0 rfl (nI_1 k) (by decide) rfl ?_
      refine r_goto 6 dX5_take_27 (by decide) ?_
      exact ih (k + 1) (by omega) (by omega)
set_option maxRecDepth 100000 in
set_option maxHeartbeats 4000000 in
theorem c_X5_take {d b0 : Nat} {G : GH} {a arr cap len b brr bcap blen : Nat} {f g : Nat → Int32} (h : SG G a arr cap len f) (h2 : SG G b brr bcap blen g) (hab : a ≠ b) (hrr : arr ≠ brr) (hg : ∀ k, k < blen → isC (g k)) (hle : blen ≤ cap) : CTd mX5_take (d + 1) b0 G [.ref a, .ref b] 0 0 none (va_up (va_up G arr (some (chA cap (cpy g f blen)))) a (some (sgC arr blen))) := by
  refine CT.intro (by decide +kernel) rfl (Nat.le_of_ble_eq_true rfl) ?_
  show WP mX5_take _ _ _ _ _ 0 0 0 [(0, .ref a), (1, .ref b)] []
  refine r_aload_n dX5_take_0 rfl 0 rfl ?_
  refine r_callV (st := []) [] 0 0 dX5_take_1 kX5_empty nX5_empty lRX5_17 h.1 rfl (c_X5_empty h) rfl rfl (Nat.le_of_ble_eq_true rfl) (Nat.le_refl _) (Nat.le_refl _) (fun _ _ h => h.elim) ?_
  refine cx_det (st2 := []) rfl ?_
  refine r_iconst (v := nI 0) dX5_take_4 (by decide) ?_
  refine r_istore_n [(2, .int (nI 0)), (0, .ref a), (1, .ref b)] dX5_take_5 rfl (by decide) rfl ?_
  have h0 : va_up G a (some (sgC arr 0)) = va_up (va_up G arr (some (chA cap (cpy g f 0)))) a (some (sgC arr 0)) := by rw [cpy_0, up_self h.2.1]
  refine r_heap h0 ?_
  exact lp_X5_take h h2 hab hrr hg hle (blen + 1) 0 (Nat.zero_le _) (by omega)
