abbrev pgC (s : Nat) (o : Int32) : LC := .inr (3, [.ref s, .int o])
abbrev PG (G : GH) (a s arr len : Nat) (f : Nat → Int32) (o : Int32) : Prop := G a = some (.inr (3, [.ref s, .int o])) ∧ SG G s arr 1014 len f
abbrev tpC (s : Nat) (o : Int32) : LC := .inr (6, [.ref s, .int o])
abbrev TP (G : GH) (a s arr len : Nat) (f : Nat → Int32) (o : Int32) : Prop := G a = some (.inr (6, [.ref s, .int o])) ∧ SG G s arr 60 len f
def cap (o x : Int32) : Int32 := if o = 0 then x else s_X8_capital x
theorem cap_C {o x : Int32} (h : isC x) : isC (cap o x) := by unfold cap; exact isC_ite h (nb_X8_capital h)
abbrev pgU (G : GH) (a s arr len : Nat) (f : Nat → Int32) (o x : Int32) : GH := va_up (va_up (va_up G arr (some (chA 1014 (upd f len (cap o x))))) s (some (sgC arr (len + 1)))) a (some (pgC s (s_X8_isOpenBehind x o)))
theorem PG.up {G : GH} {a s arr len : Nat} {f : Nat → Int32} {o : Int32} (h : PG G a s arr len f o) (hlt : len < 1014) (x : Int32) : PG (pgU G a s arr len f o x) a s arr (len + 1) (upd f len (cap o x)) (s_X8_isOpenBehind x o) := by
  have h1 : s ≠ a := cx_ne h.2.1 h.1 (by simp)
  have h2 : arr ≠ a := cx_ne h.2.2.1 h.1 (by simp)
  have h3 : arr ≠ s := Ne.symm h.2.ne
  exact ⟨up_s, up_n h1 up_s, up_n h2 (up_n h3 up_s), by omega, by omega⟩
set_option maxRecDepth 100000 in
set_option maxHeartbeats 4000000 in
theorem c_X3_start {d b0 : Nat} {G : GH} {a s arr len : Nat} {f : Nat → Int32} {o : Int32} (h : PG G a s arr len f o) : CTd mX3_start (d + 1) b0 G [.ref a] 0 0 none (va_up (va_up G s (some (sgC arr 0))) a (some (pgC s 1))) := by
  refine CT.intro (by decide +kernel) rfl (Nat.le_of_ble_eq_true rfl) ?_
  show WP mX3_start _ _ _ _ _ 0 0 0 [(0, .ref a)] []
  refine r_aload_n dX3_start_0 rfl 0 rfl ?_
  refine r_get 0 dX3_start_1 fRX3_14 h.1 rfl ?_
  refine r_callV (st := []) [] 0 0 dX3_start_4 kX5_empty nX5_empty lRX3_24 h.2.1 rfl (c_X5_empty h.2) rfl rfl (Nat.le_of_ble_eq_true rfl) (Nat.le_refl _) (Nat.le_refl _) (fun _ _ h => h.elim) ?_
  refine cx_det (st2 := []) rfl ?_
  have hG_1 := up_n (e := some (sgC arr 0)) (cx_ne h.1 h.2.1 (by simp)) h.1
  have hG_2 := up_n (e := some (sgC arr 0)) (cx_ne h.2.2.1 h.2.1 (by simp)) h.2.2.1
  have hG_3 : (va_up G s (some (sgC arr 0))) s = some (sgC arr 0) := up_s
  refine r_aload_n dX3_start_7 rfl 0 rfl ?_
  refine r_iconst (v := 1) dX3_start_8 (by decide) ?_
  refine r_put 1 (.boolean) dX3_start_9 gRX3_20 hG_1 (Nat.le_of_ble_eq_true rfl) rfl rfl ?_
  have hG_4 := up_n (e := some (.inr (3, [.ref s, .int 1]))) (cx_ne hG_3 hG_1 (by simp)) hG_3
  have hG_5 := up_n (e := some (.inr (3, [.ref s, .int 1]))) (cx_ne hG_2 hG_1 (by simp)) hG_2
  have hG_6 : (va_up (va_up G s (some (sgC arr 0))) a (some (.inr (3, [.ref s, .int 1])))) a = some (.inr (3, [.ref s, .int 1])) := up_s
  refine r_heap (G' := (va_up (va_up G s (some (sgC arr 0))) a (some (.inr (3, [.ref s, .int 1]))))) rfl ?_
  refine r_vret dX3_start_12 rfl ?_
  exact ⟨rfl, rfl⟩
set_option maxRecDepth 100000 in
set_option maxHeartbeats 4000000 in
theorem c_X3_lay {d b0 : Nat} {G : GH} {a s arr len : Nat} {f : Nat → Int32} {o : Int32} (h : PG G a s arr len f o) (hlt : len < 1014) {x : Int32} (hc_x : isC x) : CTd mX3_lay (d + 2) b0 G [.ref a, .int x] 0 0 none (pgU G a s arr len f o x) := by
  refine CT.intro (by decide +kernel) rfl (Nat.le_of_ble_eq_true rfl) ?_
  show WP mX3_lay _ _ _ _ _ 0 0 0 [(0, .ref a), (1, .int x)] []
  refine r_aload_n dX3_lay_0 rfl 0 rfl ?_
  refine r_get 0 dX3_lay_1 fRX3_14 h.1 rfl ?_
  refine r_aload_n dX3_lay_4 rfl 0 rfl ?_
  refine r_get 1 dX3_lay_5 fRX3_20 h.1 rfl ?_
  refine r_if_eq 18 dX3_lay_8 (by decide) (fun c_1 => ?_) (fun c_1 => ?_)
  · refine r_iload_n dX3_lay_18 rfl 1 rfl ?_
    refine r_top (cap o x) (by unfold cap; rw [if_pos c_1]) ?_
    refine r_callV (st := []) [.int (cap o x)] 0 0 dX3_lay_19 kX5_append nX5_append lRX3_31 h.2.1 rfl (c_X5_append_t h.2 hlt (cap_C hc_x)) rfl rfl (Nat.le_of_ble_eq_true rfl) (Nat.le_refl _) (Nat.le_refl _) (fun _ _ h => h.elim) ?_
    refine cx_det (st2 := [.int 1]) rfl ?_
    have hG_2 := up_n (e := some (chA 1014 (upd f len (cap o x)))) (cx_ne h.1 h.2.2.1 (by simp)) h.1
    have hG_3 := up_n (e := some (chA 1014 (upd f len (cap o x)))) (cx_ne h.2.1 h.2.2.1 (by simp)) h.2.1
    have hG_4 : (va_up G arr (some (chA 1014 (upd f len (cap o x))))) arr = some (chA 1014 (upd f len (cap o x))) := up_s
    have hG_5 := up_n (e := some (sgC arr (len + 1))) (cx_ne hG_2 hG_3 (by simp)) hG_2
    have hG_6 := up_n (e := some (sgC arr (len + 1))) (cx_ne hG_4 hG_3 (by simp)) hG_4
    have hG_7 : (va_up (va_up G arr (some (chA 1014 (upd f len (cap o x))))) s (some (sgC arr (len + 1)))) s = some (sgC arr (len + 1)) := up_s
    refine r_pop dX3_lay_22 rfl ?_
    refine r_aload_n dX3_lay_23 rfl 0 rfl ?_
    refine r_iload_n dX3_lay_24 rfl 1 rfl ?_
    refine r_aload_n dX3_lay_25 rfl 0 rfl ?_
    refine r_get 1 dX3_lay_26 fRX3_20 hG_5 rfl ?_
    refine r_callSN (st := [.ref a]) [.int x, .int o] 0 0 dX3_lay_29 kX8_isOpenBehind nX8_isOpenBehind lRX3_35 (c_X8_isOpenBehind x o) rfl rfl (Nat.le_of_ble_eq_true rfl) (Nat.le_refl _) (Nat.le_refl _) (fun _ _ h => h.elim) ?_
    refine cx_det (st2 := [.int (s_X8_isOpenBehind x o), .ref a]) rfl ?_
    refine r_put 1 (.boolean) dX3_lay_32 gRX3_20 hG_5 (Nat.le_of_ble_eq_true rfl) nb_X8_isOpenBehind (fitZ nb_X8_isOpenBehind) ?_
    have hG_8 := up_n (e := some (.inr (3, [.ref s, .int (s_X8_isOpenBehind x o)]))) (cx_ne hG_7 hG_5 (by simp)) hG_7
    have hG_9 := up_n (e := some (.inr (3, [.ref s, .int (s_X8_isOpenBehind x o)]))) (cx_ne hG_6 hG_5 (by simp)) hG_6
    have hG_10 : (va_up (va_up (va_up G arr (some (chA 1014 (upd f len (cap o x))))) s (some (sgC arr (len + 1)))) a (some (.inr (3, [.ref s, .int (s_X8_isOpenBehind x o)])))) a = some (.inr (3, [.ref s, .int (s_X8_isOpenBehind x o)])) := up_s
    refine r_heap (G' := (va_up (va_up (va_up G arr (some (chA 1014 (upd f len (cap o x))))) s (some (sgC arr (len + 1)))) a (some (.inr (3, [.ref s, .int (s_X8_isOpenBehind x o)]))))) rfl ?_
    refine r_vret dX3_lay_35 rfl ?_
    exact ⟨rfl, rfl⟩
  · refine r_iload_n dX3_lay_11 rfl 1 rfl ?_
    refine r_callSN (st := [.ref s]) [.int x] 0 0 dX3_lay_12 kX8_capital nX8_capital lRX3_27 (c_X8_capital x hc_x) rfl rfl (Nat.le_of_ble_eq_true rfl) (Nat.le_refl _) (Nat.le_refl _) (fun _ _ h => h.elim) ?_
    refine cx_det (st2 := [.int (s_X8_capital x), .ref s]) rfl ?_
    refine r_goto 19 dX3_lay_15 (by decide) ?_
    refine r_top (cap o x) (by unfold cap; rw [if_neg c_1]) ?_
    refine r_callV (st := []) [.int (cap o x)] 0 0 dX3_lay_19 kX5_append nX5_append lRX3_31 h.2.1 rfl (c_X5_append_t h.2 hlt (cap_C hc_x)) rfl rfl (Nat.le_of_ble_eq_true rfl) (Nat.le_refl _) (Nat.le_refl _) (fun _ _ h => h.elim) ?_
    refine cx_det (st2 := [.int 1]) rfl ?_
    have hG_11 := up_n (e := some (chA 1014 (upd f len (cap o x)))) (cx_ne h.1 h.2.2.1 (by simp)) h.1
    have hG_12 := up_n (e := some (chA 1014 (upd f len (cap o x)))) (cx_ne h.2.1 h.2.2.1 (by simp)) h.2.1
    have hG_13 : (va_up G arr (some (chA 1014 (upd f len (cap o x))))) arr = some (chA 1014 (upd f len (cap o x))) := up_s
    have hG_14 := up_n (e := some (sgC arr (len + 1))) (cx_ne hG_11 hG_12 (by simp)) hG_11
    have hG_15 := up_n (e := some (sgC arr (len + 1))) (cx_ne hG_13 hG_12 (by simp)) hG_13
    have hG_16 : (va_up (va_up G arr (some (chA 1014 (upd f len (cap o x))))) s (some (sgC arr (len + 1)))) s = some (sgC arr (len + 1)) := up_s
    refine r_pop dX3_lay_22 rfl ?_
    refine r_aload_n dX3_lay_23 rfl 0 rfl ?_
    refine r_iload_n dX3_lay_24 rfl 1 rfl ?_
    refine r_aload_n dX3_lay_25 rfl 0 rfl ?_
    refine r_get 1 dX3_lay_26 fRX3_20 hG_14 rfl ?_
    refine r_callSN (st := [.ref a]) [.int x, .int o] 0 0 dX3_lay_29 kX8_isOpenBehind nX8_isOpenBehind lRX3_35 (c_X8_isOpenBehind x o) rfl rfl (Nat.le_of_ble_eq_true rfl) (Nat.le_refl _) (Nat.le_refl _) (fun _ _ h => h.elim) ?_
    refine cx_det (st2 := [.int (s_X8_isOpenBehind x o), .ref a]) rfl ?_
    refine r_put 1 (.boolean) dX3_lay_32 gRX3_20 hG_14 (Nat.le_of_ble_eq_true rfl) nb_X8_isOpenBehind (fitZ nb_X8_isOpenBehind) ?_
    have hG_17 := up_n (e := some (.inr (3, [.ref s, .int (s_X8_isOpenBehind x o)]))) (cx_ne hG_16 hG_14 (by simp)) hG_16
    have hG_18 := up_n (e := some (.inr (3, [.ref s, .int (s_X8_isOpenBehind x o)]))) (cx_ne hG_15 hG_14 (by simp)) hG_15
    have hG_19 : (va_up (va_up (va_up G arr (some (chA 1014 (upd f len (cap o x))))) s (some (sgC arr (len + 1)))) a (some (.inr (3, [.ref s, .int (s_X8_isOpenBehind x o)])))) a = some (.inr (3, [.ref s, .int (s_X8_isOpenBehind x o)])) := up_s
    refine r_heap (G' := (va_up (va_up (va_up G arr (some (chA 1014 (upd f len (cap o x))))) s (some (sgC arr (len + 1)))) a (some (.inr (3, [.ref s, .int (s_X8_isOpenBehind x o)]))))) rfl ?_
    refine r_vret dX3_lay_35 rfl ?_
    exact ⟨rfl, rfl⟩
set_option maxRecDepth 100000 in
set_option maxHeartbeats 4000000 in
theorem c_X3_length {d b0 : Nat} {G : GH} {a s arr len : Nat} {f : Nat → Int32} {o : Int32} (h : PG G a s arr len f o) : CTd mX3_length (d + 1) b0 G [.ref a] 0 0 (some (.int (nI len))) G := by
  refine CT.intro (by decide +kernel) rfl (Nat.le_of_ble_eq_true rfl) ?_
  show WP mX3_length _ _ _ _ _ 0 0 0 [(0, .ref a)] []
  refine r_aload_n dX3_length_0 rfl 0 rfl ?_
  refine r_get 0 dX3_length_1 fRX3_14 h.1 rfl ?_
  refine r_callV (st := []) [] 0 0 dX3_length_4 kX5_length nX5_length lRX3_39 h.2.1 rfl (c_X5_length h.2) rfl rfl (Nat.le_of_ble_eq_true rfl) (Nat.le_refl _) (Nat.le_refl _) (fun _ _ h => h.elim) ?_
  refine cx_det (st2 := [.int (nI len)]) rfl ?_
  refine r_ireti dX3_length_7 rfl ?_
  exact ⟨rfl, rfl⟩
set_option maxRecDepth 100000 in
set_option maxHeartbeats 4000000 in
theorem c_X3_at {d b0 : Nat} {G : GH} {a s arr len : Nat} {f : Nat → Int32} {o : Int32} (h : PG G a s arr len f o) (hf : ∀ k, k < len → isC (f k)) (i : Int32) : CTd mX3_at (d + 1) b0 G [.ref a, .int i] 0 0 (some (.int (s_X5_at len f i))) G := by
  have hz := h.2.2.2
  refine CT.intro (by decide +kernel) rfl (Nat.le_of_ble_eq_true rfl) ?_
  show WP mX3_at _ _ _ _ _ 0 0 0 [(0, .ref a), (1, .int i)] []
  refine r_aload_n dX3_at_0 rfl 0 rfl ?_
  refine r_get 0 dX3_at_1 fRX3_14 h.1 rfl ?_
  refine r_iload_n dX3_at_4 rfl 1 rfl ?_
  refine r_callV (st := []) [.int i] 0 0 dX3_at_5 kX5_at nX5_at lRX3_43 h.2.1 rfl (c_X5_at h.2 hf i) rfl rfl (Nat.le_of_ble_eq_true rfl) (Nat.le_refl _) (Nat.le_refl _) (fun _ _ h => h.elim) ?_
  refine cx_det (st2 := [.int (s_X5_at len f i)]) rfl ?_
  refine r_ret .char dX3_at_8 rfl (s_X5_at_C (by omega) hf) ?_
  exact ⟨rfl, rfl⟩
/-- words among the first signs: how many, and whether one stands open -/
def lB (x : Int32) : Bool := !(decide (x = 32)) && !(decide (x = 46))
def wcs (f : Nat → Int32) : Nat → Nat × Bool
  | 0 => (0, false)
  | n + 1 => ((wcs f n).1 + (if lB (f n) && !(wcs f n).2 then 1 else 0), lB (f n))
theorem wcs_le (f : Nat → Int32) : ∀ n, (wcs f n).1 ≤ n
  | 0 => Nat.le_refl 0
  | n + 1 => by
    have h := wcs_le f n
    show (wcs f n).1 + (if lB (f n) && !(wcs f n).2 then 1 else 0) ≤ n + 1
    split <;> omega
set_option maxRecDepth 100000 in
set_option maxHeartbeats 4000000 in
theorem lp_X3_countWords {d b0 : Nat} {G : GH} {a s arr len : Nat} {f : Nat → Int32} {o : Int32} (h : PG G a s arr len f o) (hf : ∀ k, k < len → isC (f k)) : ∀ (fu : Nat) (k : Nat), k ≤ len → len - k < fu → WP mX3_countWords (d + 1) b0 (fun r G' => r = some (.int (nI (wcs f len).1)) ∧ G' = G) (fun _ _ => False) G 0 0 6 [(3, .int (nI k)), (2, .int (b2i (wcs f k).2)), (1, .int (nI (wcs f k).1)), (0, .ref a)] [] := by
  intro fu
  induction fu with
  | zero => intro k hinv hn; exact absurd hn (Nat.not_lt_zero _)
  | succ fu ih =>
    intro k hinv hn
    have hb1 := h.2.2.2.1
    have hb2 := h.2.2.2.2
    have hb3 := wcs_le f k
    refine r_iload_n dX3_countWords_6 rfl 0 rfl ?_
    refine r_aload_n dX3_countWords_7 rfl 3 rfl ?_
    refine r_get 0 dX3_countWords_8 fRX3_14 h.1 rfl ?_
    refine r_callV (st := [.int (nI k)]) [] 0 0 dX3_countWords_11 kX5_length nX5_length lRX3_39 h.2.1 rfl (c_X5_length h.2) rfl rfl (Nat.le_of_ble_eq_true rfl) (Nat.le_refl _) (Nat.le_refl _) (fun _ _ h => h.elim) ?_
    refine cx_det (st2 := [.int (nI len), .int (nI k)]) rfl ?_
    refine r_icmp_ge 69 dX3_countWords_14 (by decide) (fun c_1 => ?_) (fun c_1 => ?_)
    · refine r_iload_n dX3_countWords_69 rfl 2 rfl ?_
      refine r_ireti dX3_countWords_70 rfl ?_
      have hk : k = len := by have := ni_le (by omega) (by omega) c_1; omega
      exact ⟨by rw [hk], rfl⟩
    · refine r_aload_n dX3_countWords_17 rfl 3 rfl ?_
      refine r_get 0 dX3_countWords_18 fRX3_14 h.1 rfl ?_
      refine r_iload_n dX3_countWords_21 rfl 0 rfl ?_
      have hk : k < len := ni_nle (by omega) (by omega) c_1
      refine r_callV (st := []) [.int (nI k)] 0 0 dX3_countWords_22 kX5_at nX5_at lRX3_43 h.2.1 rfl (c_X5_at_n h.2 hf (by omega)) rfl rfl (Nat.le_of_ble_eq_true rfl) (Nat.le_refl _) (Nat.le_refl _) (fun _ _ h => h.elim) ?_
      refine cx_det (st2 := [.int (chr f len k)]) rfl ?_
      refine r_top (f k) (by unfold chr; rw [if_pos hk]) ?_
      refine r_istore [(4, .int (f k)), (3, .int (nI k)), (2, .int (b2i (wcs f k).2)), (1, .int (nI (wcs f k).1)), (0, .ref a)] dX3_countWords_25 (by decide) rfl ?_
      refine r_iload dX3_countWords_27 0 rfl ?_
      refine r_bipush (v := 32) dX3_countWords_29 (by decide) ?_
      refine r_icmp_eq 45 dX3_countWords_31 (by decide) (fun c_3 => ?_) (fun c_3 => ?_)
      · refine r_iconst (v := 0) dX3_countWords_45 (by decide) ?_
        refine r_istore [(5, .int 0), (4, .int (f k)), (3, .int (nI k)), (2, .int (b2i (wcs f k).2)), (1, .int (nI (wcs f k).1)), (0, .ref a)] dX3_countWords_46 (by decide) rfl ?_
        refine r_iload dX3_countWords_48 0 rfl ?_
        refine r_if_eq 60 dX3_countWords_50 (by decide) (fun c_4 => ?_) (fun c_4 => absurd (by decide) c_4)
        refine r_iload dX3_countWords_60 0 rfl ?_
        refine r_istore_n [(2, .int 0), (5, .int 0), (4, .int (f k)), (3, .int (nI k)), (1, .int (nI (wcs f k).1)), (0, .ref a)] dX3_countWords_62 rfl (by decide) rfl ?_
        refine r_iinc (nI (k + 1)) [(3, .int (nI (k + 1))), (2, .int 0), (5, .int 0), (4, .int (f k)), (1, .int (nI (wcs f k).1)), (0, .ref a)] dX3_countWords_63 3 rfl (nI_1 k) (by decide) rfl ?_
        refine r_goto 6 dX3_countWords_66 (by decide) ?_
        have hl : lB (f k) = false := by unfold lB; rw [decide_eq_true c_3]; rfl
        have e1 : (wcs f (k + 1)).1 = (wcs f k).1 := by
          show (wcs f k).1 + (if lB (f k) && !(wcs f k).2 then 1 else 0) = _
          rw [hl]; rfl
        have e2 : b2i (wcs f (k + 1)).2 = 0 := by
          show b2i (lB (f k)) = _
          rw [hl]; rfl
        have hh := ih (k + 1) (by omega) (by omega)
        rw [e1, e2] at hh
        exact WP.loc [0, 1, 4, 5] rfl hh
      · refine r_iload dX3_countWords_34 0 rfl ?_
        refine r_bipush (v := 46) dX3_countWords_36 (by decide) ?_
        refine r_icmp_eq 45 dX3_countWords_38 (by decide) (fun c_5 => ?_) (fun c_5 => ?_)
        · refine r_iconst (v := 0) dX3_countWords_45 (by decide) ?_
          refine r_istore [(5, .int 0), (4, .int (f k)), (3, .int (nI k)), (2, .int (b2i (wcs f k).2)), (1, .int (nI (wcs f k).1)), (0, .ref a)] dX3_countWords_46 (by decide) rfl ?_
          refine r_iload dX3_countWords_48 0 rfl ?_
          refine r_if_eq 60 dX3_countWords_50 (by decide) (fun c_6 => ?_) (fun c_6 => absurd (by decide) c_6)
          refine r_iload dX3_countWords_60 0 rfl ?_
          refine r_istore_n [(2, .int 0), (5, .int 0), (4, .int (f k)), (3, .int (nI k)), (1, .int (nI (wcs f k).1)), (0, .ref a)] dX3_countWords_62 rfl (by decide) rfl ?_
          refine r_iinc (nI (k + 1)) [(3, .int (nI (k + 1))), (2, .int 0), (5, .int 0), (4, .int (f k)), (1, .int (nI (wcs f k).1)), (0, .ref a)] dX3_countWords_63 3 rfl (nI_1 k) (by decide) rfl ?_
          refine r_goto 6 dX3_countWords_66 (by decide) ?_
          have hl : lB (f k) = false := by unfold lB; rw [decide_eq_true c_5]; simp
          have e1 : (wcs f (k + 1)).1 = (wcs f k).1 := by
            show (wcs f k).1 + (if lB (f k) && !(wcs f k).2 then 1 else 0) = _
            rw [hl]; rfl
          have e2 : b2i (wcs f (k + 1)).2 = 0 := by
            show b2i (lB (f k)) = _
            rw [hl]; rfl
          have hh := ih (k + 1) (by omega) (by omega)
          rw [e1, e2] at hh
          exact WP.loc [0, 1, 4, 5] rfl hh
        · refine r_iconst (v := 1) dX3_countWords_41 (by decide) ?_
          refine r_goto 46 dX3_countWords_42 (by decide) ?_
          refine r_istore [(5, .int 1), (4, .int (f k)), (3, .int (nI k)), (2, .int (b2i (wcs f k).2)), (1, .int (nI (wcs f k).1)), (0, .ref a)] dX3_countWords_46 (by decide) rfl ?_
          refine r_iload dX3_countWords_48 0 rfl ?_
          refine r_if_eq 60 dX3_countWords_50 (by decide) (fun c_7 => absurd c_7 (by decide)) (fun c_7 => ?_)
          refine r_iload_n dX3_countWords_53 rfl 3 rfl ?_
          refine r_if_ne 60 dX3_countWords_54 (by decide) (fun c_8 => ?_) (fun c_8 => ?_)
          · refine r_iload dX3_countWords_60 0 rfl ?_
            refine r_istore_n [(2, .int 1), (5, .int 1), (4, .int (f k)), (3, .int (nI k)), (1, .int (nI (wcs f k).1)), (0, .ref a)] dX3_countWords_62 rfl (by decide) rfl ?_
            refine r_iinc (nI (k + 1)) [(3, .int (nI (k + 1))), (2, .int 1), (5, .int 1), (4, .int (f k)), (1, .int (nI (wcs f k).1)), (0, .ref a)] dX3_countWords_63 3 rfl (nI_1 k) (by decide) rfl ?_
            refine r_goto 6 dX3_countWords_66 (by decide) ?_
            have hl : lB (f k) = true := by unfold lB; rw [decide_eq_false c_3, decide_eq_false c_5]; rfl
            have hw : (wcs f k).2 = true := by
              cases hx : (wcs f k).2 with
              | false => rw [hx] at c_8; exact absurd b2i_f c_8
              | true => rfl
            have e1 : (wcs f (k + 1)).1 = (wcs f k).1 := by
              show (wcs f k).1 + (if lB (f k) && !(wcs f k).2 then 1 else 0) = _
              rw [hl, hw]; rfl
            have e2 : b2i (wcs f (k + 1)).2 = 1 := by
              show b2i (lB (f k)) = _
              rw [hl]; rfl
            have hh := ih (k + 1) (by omega) (by omega)
            rw [e1, e2] at hh
            exact WP.loc [0, 1, 4, 5] rfl hh
          · refine r_iinc (nI ((wcs f k).1 + 1)) [(1, .int (nI ((wcs f k).1 + 1))), (5, .int 1), (4, .int (f k)), (3, .int (nI k)), (2, .int (b2i (wcs f k).2)), (0, .ref a)] dX3_countWords_57 4 rfl (nI_1 _) (by decide) rfl ?_
            refine r_iload dX3_countWords_60 1 rfl ?_
            refine r_istore_n [(2, .int 1), (1, .int (nI ((wcs f k).1 + 1))), (5, .int 1), (4, .int (f k)), (3, .int (nI k)), (0, .ref a)] dX3_countWords_62 rfl (by decide) rfl ?_
            refine r_iinc (nI (k + 1)) [(3, .int (nI (k + 1))), (2, .int 1), (1, .int (nI ((wcs f k).1 + 1))), (5, .int 1), (4, .int (f k)), (0, .ref a)] dX3_countWords_63 4 rfl (nI_1 k) (by decide) rfl ?_
            refine r_goto 6 dX3_countWords_66 (by decide) ?_
            have hl : lB (f k) = true := by unfold lB; rw [decide_eq_false c_3, decide_eq_false c_5]; rfl
            have hw : (wcs f k).2 = false := by
              cases hx : (wcs f k).2 with
              | false => rfl
              | true => rw [hx] at c_8; exact absurd c_8 (by decide)
            have e1 : (wcs f (k + 1)).1 = (wcs f k).1 + 1 := by
              show (wcs f k).1 + (if lB (f k) && !(wcs f k).2 then 1 else 0) = _
              rw [hl, hw]; rfl
            have e2 : b2i (wcs f (k + 1)).2 = 1 := by
              show b2i (lB (f k)) = _
              rw [hl]; rfl
            have hh := ih (k + 1) (by omega) (by omega)
            rw [e1, e2] at hh
            exact WP.loc [0, 1, 2, 5] rfl hh
set_option maxRecDepth 100000 in
set_option maxHeartbeats 4000000 in
theorem c_X3_countWords {d b0 : Nat} {G : GH} {a s arr len : Nat} {f : Nat → Int32} {o : Int32} (h : PG G a s arr len f o) (hf : ∀ k, k < len → isC (f k)) : CTd mX3_countWords (d + 1) b0 G [.ref a] 0 0 (some (.int (nI (wcs f len).1))) G := by
  refine CT.intro (by decide +kernel) rfl (Nat.le_of_ble_eq_true rfl) ?_
  show WP mX3_countWords _ _ _ _ _ 0 0 0 [(0, .ref a)] []
  refine r_iconst (v := nI 0) dX3_countWords_0 (by decide) ?_
  refine r_istore_n [(1, .int (nI 0)), (0, .ref a)] dX3_countWords_1 rfl (by decide) rfl ?_
  refine r_iconst (v := 0) dX3_countWords_2 (by decide) ?_
  refine r_istore_n [(2, .int 0), (1, .int (nI 0)), (0, .ref a)] dX3_countWords_3 rfl (by decide) rfl ?_
  refine r_iconst (v := nI 0) dX3_countWords_4 (by decide) ?_
  refine r_istore_n [(3, .int (nI 0)), (2, .int 0), (1, .int (nI 0)), (0, .ref a)] dX3_countWords_5 rfl (by decide) rfl ?_
  have hh := lp_X3_countWords (d := d) (b0 := b0) h hf (len + 1) 0 (Nat.zero_le _) (by omega)
  exact hh
set_option maxRecDepth 100000 in
set_option maxHeartbeats 4000000 in
theorem c_X3_init {d b0 : Nat} {G : GH} {a : Nat} (h : G a = some (.inr (3, [.null, .int 0]))) : CT mX3_init (d + 2) b0 G [.ref a] 2 1016 (fun r G' => r = none ∧ ∃ q qa : Nat, G q = none ∧ G qa = none ∧ q ≠ qa ∧ b0 ≤ q ∧ b0 ≤ qa ∧ G' = va_up (va_up (va_up G q (some (sgC qa 0))) qa (some (chA 1014 (fun _ => 0)))) a (some (pgC q 1))) (fun _ _ => False) := by
  refine CT.intro (by decide +kernel) rfl (Nat.le_of_ble_eq_true rfl) ?_
  show WP mX3_init _ _ _ _ _ 2 1016 0 [(0, .ref a)] []
  refine r_aload_n dX3_init_0 rfl 0 rfl ?_
  refine r_obj dX3_init_1 lRX3_3 (by omega) (Nat.le_of_ble_eq_true rfl) ?_
  refine r_aload_n dX3_init_4 rfl 0 rfl ?_
  refine r_new [.null, .int 0] 1 1014 dX3_init_5 wRX3_9 (by decide) (by decide) (fun q_1 hq_2 hb_3 => ?_)
  have hG_4 := up_n (e := some (.inr (5, [.null, .int 0]))) (cx_nf h hq_2) h
  have hG_5 : (va_up G q_1 (some (.inr (5, [.null, .int 0])))) q_1 = some (.inr (5, [.null, .int 0])) := up_s
  refine r_heap (G' := (va_up G q_1 (some (.inr (5, [.null, .int 0]))))) rfl ?_
  refine r_dup dX3_init_8 rfl ?_
  refine r_sipush (v := nI 1014) dX3_init_9 (by decide) ?_
  refine r_callI (st := [.ref q_1, .ref a]) [.int (nI 1014)] 0 0 dX3_init_12 kX5_init nX5_init rfl rfl lRX3_11 (c_X5_init (N := 1014) (by decide) (by decide) hG_5) rfl rfl (Nat.le_of_ble_eq_true rfl) (Nat.le_refl _) (Nat.le_refl _) (fun _ _ h => h.elim) ?_
  intro r G9 hr
  obtain ⟨rfl, qa, hqa, hb2, rfl⟩ := hr
  have hqn : qa ≠ q_1 := Ne.symm (cx_nf hG_5 hqa)
  have hG_6 := up_n (e := some (sgC qa 0)) (cx_ne hG_4 hG_5 (by simp)) (up_n (e := some (chA 1014 (fun _ => 0))) (cx_nf hG_4 hqa) hG_4)
  have hG_7 : (va_up (va_up (va_up G q_1 (some (.inr (5, [.null, .int 0])))) qa (some (chA 1014 (fun _ => 0)))) q_1 (some (sgC qa 0))) q_1 = some (sgC qa 0) := up_s
  refine r_putF 0 (.object "Glosstemplate$Signs") dX3_init_15 gRX3_14 rfl hG_6 (Nat.le_of_ble_eq_true rfl) rfl rfl ?_
  have hG_8 := up_n (e := some (.inr (3, [.ref q_1, .int 0]))) (cx_ne hG_7 hG_6 (by simp)) hG_7
  have hG_9 : (va_up (va_up (va_up (va_up G q_1 (some (.inr (5, [.null, .int 0])))) qa (some (chA 1014 (fun _ => 0)))) q_1 (some (sgC qa 0))) a (some (.inr (3, [.ref q_1, .int 0])))) a = some (.inr (3, [.ref q_1, .int 0])) := up_s
  refine r_heap (G' := (va_up (va_up (va_up (va_up G q_1 (some (.inr (5, [.null, .int 0])))) qa (some (chA 1014 (fun _ => 0)))) q_1 (some (sgC qa 0))) a (some (.inr (3, [.ref q_1, .int 0]))))) rfl ?_
  refine r_aload_n dX3_init_18 rfl 0 rfl ?_
  refine r_iconst (v := 1) dX3_init_19 (by decide) ?_
  refine r_put 1 (.boolean) dX3_init_20 gRX3_20 hG_9 (Nat.le_of_ble_eq_true rfl) rfl rfl ?_
  have hG_10 := up_n (e := some (.inr (3, [.ref q_1, .int 1]))) (cx_ne hG_8 hG_9 (by simp)) hG_8
  have hG_11 : (va_up (va_up (va_up (va_up (va_up G q_1 (some (.inr (5, [.null, .int 0])))) qa (some (chA 1014 (fun _ => 0)))) q_1 (some (sgC qa 0))) a (some (.inr (3, [.ref q_1, .int 0])))) a (some (.inr (3, [.ref q_1, .int 1])))) a = some (.inr (3, [.ref q_1, .int 1])) := up_s
  refine r_heap (G' := (va_up (va_up (va_up (va_up (va_up G q_1 (some (.inr (5, [.null, .int 0])))) qa (some (chA 1014 (fun _ => 0)))) q_1 (some (sgC qa 0))) a (some (.inr (3, [.ref q_1, .int 0])))) a (some (.inr (3, [.ref q_1, .int 1]))))) rfl ?_
  refine r_vret dX3_init_23 rfl ?_
  have hqa2 : G qa = none := by
    have h9 := hqa
    unfold va_up at h9
    rwa [if_neg hqn] at h9
  exact ⟨rfl, q_1, qa, hq_2, hqa2, Ne.symm hqn, hb_3, hb2, by rw [up_twice, up_three hqn]⟩
set_option maxRecDepth 100000 in
set_option maxHeartbeats 4000000 in
theorem c_X6_init {d b0 : Nat} {G : GH} {a : Nat} (h : G a = some (.inr (6, [.null, .int 0]))) : CT mX6_init (d + 2) b0 G [.ref a] 2 62 (fun r G' => r = none ∧ ∃ q qa : Nat, G q = none ∧ G qa = none ∧ q ≠ qa ∧ b0 ≤ q ∧ b0 ≤ qa ∧ G' = va_up (va_up (va_up G q (some (sgC qa 0))) qa (some (chA 60 (fun _ => 0)))) a (some (tpC q 0))) (fun _ _ => False) := by
  refine CT.intro (by decide +kernel) rfl (Nat.le_of_ble_eq_true rfl) ?_
  show WP mX6_init _ _ _ _ _ 2 62 0 [(0, .ref a)] []
  refine r_aload_n dX6_init_0 rfl 0 rfl ?_
  refine r_obj dX6_init_1 lRX6_3 (by omega) (Nat.le_of_ble_eq_true rfl) ?_
  refine r_aload_n dX6_init_4 rfl 0 rfl ?_
  refine r_new [.null, .int 0] 1 60 dX6_init_5 wRX6_9 (by decide) (by decide) (fun q_1 hq_2 hb_3 => ?_)
  have hG_4 := up_n (e := some (.inr (5, [.null, .int 0]))) (cx_nf h hq_2) h
  have hG_5 : (va_up G q_1 (some (.inr (5, [.null, .int 0])))) q_1 = some (.inr (5, [.null, .int 0])) := up_s
  refine r_heap (G' := (va_up G q_1 (some (.inr (5, [.null, .int 0]))))) rfl ?_
  refine r_dup dX6_init_8 rfl ?_
  refine r_bipush (v := nI 60) dX6_init_9 (by decide) ?_
  refine r_callI (st := [.ref q_1, .ref a]) [.int (nI 60)] 0 0 dX6_init_11 kX5_init nX5_init rfl rfl lRX6_11 (c_X5_init (N := 60) (by decide) (by decide) hG_5) rfl rfl (Nat.le_of_ble_eq_true rfl) (Nat.le_refl _) (Nat.le_refl _) (fun _ _ h => h.elim) ?_
  intro r G9 hr
  obtain ⟨rfl, qa, hqa, hb2, rfl⟩ := hr
  have hqn : qa ≠ q_1 := Ne.symm (cx_nf hG_5 hqa)
  have hG_6 := up_n (e := some (sgC qa 0)) (cx_ne hG_4 hG_5 (by simp)) (up_n (e := some (chA 60 (fun _ => 0))) (cx_nf hG_4 hqa) hG_4)
  have hG_7 : (va_up (va_up (va_up G q_1 (some (.inr (5, [.null, .int 0])))) qa (some (chA 60 (fun _ => 0)))) q_1 (some (sgC qa 0))) q_1 = some (sgC qa 0) := up_s
  refine r_putF 0 (.object "Glosstemplate$Signs") dX6_init_14 gRX6_14 rfl hG_6 (Nat.le_of_ble_eq_true rfl) rfl rfl ?_
  have hG_8 := up_n (e := some (.inr (6, [.ref q_1, .int 0]))) (cx_ne hG_7 hG_6 (by simp)) hG_7
  have hG_9 : (va_up (va_up (va_up (va_up G q_1 (some (.inr (5, [.null, .int 0])))) qa (some (chA 60 (fun _ => 0)))) q_1 (some (sgC qa 0))) a (some (.inr (6, [.ref q_1, .int 0])))) a = some (.inr (6, [.ref q_1, .int 0])) := up_s
  refine r_heap (G' := (va_up (va_up (va_up (va_up G q_1 (some (.inr (5, [.null, .int 0])))) qa (some (chA 60 (fun _ => 0)))) q_1 (some (sgC qa 0))) a (some (.inr (6, [.ref q_1, .int 0]))))) rfl ?_
  refine r_vret dX6_init_17 rfl ?_
  have hqa2 : G qa = none := by
    have h9 := hqa
    unfold va_up at h9
    rwa [if_neg hqn] at h9
  exact ⟨rfl, q_1, qa, hq_2, hqa2, Ne.symm hqn, hb_3, hb2, by rw [up_three hqn]⟩
def slB (f : Nat → Int32) (len k : Nat) : Bool := decide (chr f len k = 91)
set_option maxRecDepth 100000 in
set_option maxHeartbeats 4000000 in
theorem c_X6_isThere {d b0 : Nat} {G : GH} {a s arr len : Nat} {f : Nat → Int32} {o : Int32} (h : TP G a s arr len f o) : CTd mX6_isThere (d + 1) b0 G [.ref a] 0 0 (some (.int (b2i (decide (0 < len))))) G := by
  have hz := h.2.2.2
  refine CT.intro (by decide +kernel) rfl (Nat.le_of_ble_eq_true rfl) ?_
  show WP mX6_isThere _ _ _ _ _ 0 0 0 [(0, .ref a)] []
  refine r_aload_n dX6_isThere_0 rfl 0 rfl ?_
  refine r_get 0 dX6_isThere_1 fRX6_14 h.1 rfl ?_
  refine r_callV (st := []) [] 0 0 dX6_isThere_4 kX5_length nX5_length lRX6_20 h.2.1 rfl (c_X5_length h.2) rfl rfl (Nat.le_of_ble_eq_true rfl) (Nat.le_refl _) (Nat.le_refl _) (fun _ _ h => h.elim) ?_
  refine cx_det (st2 := [.int (nI len)]) rfl ?_
  refine r_if_le 14 dX6_isThere_7 (by decide) (fun c_1 => ?_) (fun c_1 => ?_)
  · refine r_iconst (v := 0) dX6_isThere_14 (by decide) ?_
    refine r_ret .boolean dX6_isThere_15 rfl rfl ?_
    exact ⟨by rw [decide_eq_false (Nat.not_lt.mpr (ni_le (b := 0) (by omega) (by decide) (by rw [nI_0]; exact c_1)))]; rfl, rfl⟩
  · refine r_iconst (v := 1) dX6_isThere_10 (by decide) ?_
    refine r_goto 15 dX6_isThere_11 (by decide) ?_
    refine r_ret .boolean dX6_isThere_15 rfl rfl ?_
    exact ⟨by rw [decide_eq_true (ni_nle (b := 0) (by omega) (by decide) (by rw [nI_0]; exact c_1))]; rfl, rfl⟩
set_option maxRecDepth 100000 in
set_option maxHeartbeats 4000000 in
theorem c_X6_isApproved {d b0 : Nat} {G : GH} {a s arr len : Nat} {f : Nat → Int32} {o : Int32} (h : TP G a s arr len f o) (ho : isZ o) : CTd mX6_isApproved d b0 G [.ref a] 0 0 (some (.int o)) G := by
  refine CT.intro (by decide +kernel) rfl (Nat.le_of_ble_eq_true rfl) ?_
  show WP mX6_isApproved _ _ _ _ _ 0 0 0 [(0, .ref a)] []
  refine r_aload_n dX6_isApproved_0 rfl 0 rfl ?_
  refine r_get 1 dX6_isApproved_1 fRX6_24 h.1 rfl ?_
  refine r_ret .boolean dX6_isApproved_4 rfl ho ?_
  exact ⟨rfl, rfl⟩
set_option maxRecDepth 100000 in
set_option maxHeartbeats 4000000 in
theorem c_X6_setApproved {d b0 : Nat} {G : GH} {a s arr len : Nat} {f : Nat → Int32} {o : Int32} (h : TP G a s arr len f o) : CTd mX6_setApproved d b0 G [.ref a] 0 0 none (va_up G a (some (tpC s 1))) := by
  refine CT.intro (by decide +kernel) rfl (Nat.le_of_ble_eq_true rfl) ?_
  show WP mX6_setApproved _ _ _ _ _ 0 0 0 [(0, .ref a)] []
  refine r_aload_n dX6_setApproved_0 rfl 0 rfl ?_
  refine r_iconst (v := 1) dX6_setApproved_1 (by decide) ?_
  refine r_put 1 (.boolean) dX6_setApproved_2 gRX6_24 h.1 (Nat.le_of_ble_eq_true rfl) rfl rfl ?_
  have hG_1 := up_n (e := some (.inr (6, [.ref s, .int 1]))) (cx_ne h.2.1 h.1 (by simp)) h.2.1
  have hG_2 := up_n (e := some (.inr (6, [.ref s, .int 1]))) (cx_ne h.2.2.1 h.1 (by simp)) h.2.2.1
  have hG_3 : (va_up G a (some (.inr (6, [.ref s, .int 1])))) a = some (.inr (6, [.ref s, .int 1])) := up_s
  refine r_heap (G' := (va_up G a (some (.inr (6, [.ref s, .int 1]))))) rfl ?_
  refine r_vret dX6_setApproved_5 rfl ?_
  exact ⟨rfl, rfl⟩
set_option maxRecDepth 100000 in
set_option maxHeartbeats 4000000 in
theorem c_X6_length {d b0 : Nat} {G : GH} {a s arr len : Nat} {f : Nat → Int32} {o : Int32} (h : TP G a s arr len f o) : CTd mX6_length (d + 1) b0 G [.ref a] 0 0 (some (.int (nI len))) G := by
  refine CT.intro (by decide +kernel) rfl (Nat.le_of_ble_eq_true rfl) ?_
  show WP mX6_length _ _ _ _ _ 0 0 0 [(0, .ref a)] []
  refine r_aload_n dX6_length_0 rfl 0 rfl ?_
  refine r_get 0 dX6_length_1 fRX6_14 h.1 rfl ?_
  refine r_callV (st := []) [] 0 0 dX6_length_4 kX5_length nX5_length lRX6_20 h.2.1 rfl (c_X5_length h.2) rfl rfl (Nat.le_of_ble_eq_true rfl) (Nat.le_refl _) (Nat.le_refl _) (fun _ _ h => h.elim) ?_
  refine cx_det (st2 := [.int (nI len)]) rfl ?_
  refine r_ireti dX6_length_7 rfl ?_
  exact ⟨rfl, rfl⟩
set_option maxRecDepth 100000 in
set_option maxHeartbeats 4000000 in
theorem c_X6_at_n {d b0 : Nat} {G : GH} {a s arr len : Nat} {f : Nat → Int32} {o : Int32} (h : TP G a s arr len f o) (hf : ∀ k, k < len → isC (f k)) {k : Nat} (hk : k < 2 ^ 31) : CTd mX6_at (d + 1) b0 G [.ref a, .int (nI k)] 0 0 (some (.int (chr f len k))) G := by
  refine CT.intro (by decide +kernel) rfl (Nat.le_of_ble_eq_true rfl) ?_
  show WP mX6_at _ _ _ _ _ 0 0 0 [(0, .ref a), (1, .int (nI k))] []
  refine r_aload_n dX6_at_0 rfl 0 rfl ?_
  refine r_get 0 dX6_at_1 fRX6_14 h.1 rfl ?_
  refine r_iload_n dX6_at_4 rfl 1 rfl ?_
  refine r_callV (st := []) [.int (nI k)] 0 0 dX6_at_5 kX5_at nX5_at lRX6_32 h.2.1 rfl (c_X5_at_n h.2 hf (k := k) (by omega)) rfl rfl (Nat.le_of_ble_eq_true rfl) (Nat.le_refl _) (Nat.le_refl _) (fun _ _ h => h.elim) ?_
  refine cx_det (st2 := [.int (chr f len k)]) rfl ?_
  refine r_ret .char dX6_at_8 rfl (chr_C hf) ?_
  exact ⟨rfl, rfl⟩
set_option maxRecDepth 100000 in
set_option maxHeartbeats 4000000 in
theorem c_X6_isSlot_n {d b0 : Nat} {G : GH} {a s arr len : Nat} {f : Nat → Int32} {o : Int32} (h : TP G a s arr len f o) (hf : ∀ k, k < len → isC (f k)) {k : Nat} (hk : k < 2 ^ 31) : CTd mX6_isSlot (d + 1) b0 G [.ref a, .int (nI k)] 0 0 (some (.int (b2i (slB f len k)))) G := by
  refine CT.intro (by decide +kernel) rfl (Nat.le_of_ble_eq_true rfl) ?_
  show WP mX6_isSlot _ _ _ _ _ 0 0 0 [(0, .ref a), (1, .int (nI k))] []
  refine r_aload_n dX6_isSlot_0 rfl 0 rfl ?_
  refine r_get 0 dX6_isSlot_1 fRX6_14 h.1 rfl ?_
  refine r_iload_n dX6_isSlot_4 rfl 1 rfl ?_
  refine r_callV (st := []) [.int (nI k)] 0 0 dX6_isSlot_5 kX5_at nX5_at lRX6_32 h.2.1 rfl (c_X5_at_n h.2 hf (k := k) (by omega)) rfl rfl (Nat.le_of_ble_eq_true rfl) (Nat.le_refl _) (Nat.le_refl _) (fun _ _ h => h.elim) ?_
  refine cx_det (st2 := [.int (chr f len k)]) rfl ?_
  refine r_bipush (v := 91) dX6_isSlot_8 (by decide) ?_
  refine r_icmp_ne 17 dX6_isSlot_10 (by decide) (fun c_1 => ?_) (fun c_1 => ?_)
  · refine r_iconst (v := 0) dX6_isSlot_17 (by decide) ?_
    refine r_ret .boolean dX6_isSlot_18 rfl rfl ?_
    exact ⟨by unfold slB; rw [decide_eq_false c_1]; rfl, rfl⟩
  · refine r_iconst (v := 1) dX6_isSlot_13 (by decide) ?_
    refine r_goto 18 dX6_isSlot_14 (by decide) ?_
    refine r_ret .boolean dX6_isSlot_18 rfl rfl ?_
    exact ⟨by unfold slB; rw [decide_eq_true c_1]; rfl, rfl⟩
set_option maxRecDepth 100000 in
set_option maxHeartbeats 4000000 in
theorem c_X6_slotAt_n {d b0 : Nat} {G : GH} {a s arr len : Nat} {f : Nat → Int32} {o : Int32} (h : TP G a s arr len f o) (hf : ∀ k, k < len → isC (f k)) {k : Nat} (hk : k < 2000) : CTd mX6_slotAt (d + 1) b0 G [.ref a, .int (nI k)] 0 0 (some (.int (s_X8_slotOf (chr f len (k + 1))))) G := by
  refine CT.intro (by decide +kernel) rfl (Nat.le_of_ble_eq_true rfl) ?_
  show WP mX6_slotAt _ _ _ _ _ 0 0 0 [(0, .ref a), (1, .int (nI k))] []
  refine r_aload_n dX6_slotAt_0 rfl 0 rfl ?_
  refine r_get 0 dX6_slotAt_1 fRX6_14 h.1 rfl ?_
  refine r_iload_n dX6_slotAt_4 rfl 1 rfl ?_
  refine r_iconst (v := 1) dX6_slotAt_5 (by decide) ?_
  refine r_iadd dX6_slotAt_6 ?_
  refine r_top (nI (k + 1)) (nI_add k 1) ?_
  refine r_callV (st := []) [.int (nI (k + 1))] 0 0 dX6_slotAt_7 kX5_at nX5_at lRX6_32 h.2.1 rfl (c_X5_at_n h.2 hf (k := (k + 1)) (by omega)) rfl rfl (Nat.le_of_ble_eq_true rfl) (Nat.le_refl _) (Nat.le_refl _) (fun _ _ h => h.elim) ?_
  refine cx_det (st2 := [.int (chr f len (k + 1))]) rfl ?_
  refine r_callSN (st := []) [.int (chr f len (k + 1))] 0 0 dX6_slotAt_10 kX8_slotOf nX8_slotOf lRX6_36 (c_X8_slotOf (chr f len (k + 1))) rfl rfl (Nat.le_of_ble_eq_true rfl) (Nat.le_refl _) (Nat.le_refl _) (fun _ _ h => h.elim) ?_
  refine cx_det (st2 := [.int (s_X8_slotOf (chr f len (k + 1)))]) rfl ?_
  refine r_ireti dX6_slotAt_13 rfl ?_
  exact ⟨rfl, rfl⟩
set_option maxRecDepth 100000 in
set_option maxHeartbeats 4000000 in
theorem c_X6_grammarAt_n {d b0 : Nat} {G : GH} {a s arr len : Nat} {f : Nat → Int32} {o : Int32} (h : TP G a s arr len f o) (hf : ∀ k, k < len → isC (f k)) {k : Nat} (hk : k < 2000) : CTd mX6_grammarAt (d + 1) b0 G [.ref a, .int (nI k)] 0 0 (some (.int (2 * s_X8_caseOf (chr f len (k + 2)) + s_X8_numberOf (chr f len (k + 3))))) G := by
  refine CT.intro (by decide +kernel) rfl (Nat.le_of_ble_eq_true rfl) ?_
  show WP mX6_grammarAt _ _ _ _ _ 0 0 0 [(0, .ref a), (1, .int (nI k))] []
  refine r_iconst (v := 2) dX6_grammarAt_0 (by decide) ?_
  refine r_aload_n dX6_grammarAt_1 rfl 0 rfl ?_
  refine r_get 0 dX6_grammarAt_2 fRX6_14 h.1 rfl ?_
  refine r_iload_n dX6_grammarAt_5 rfl 1 rfl ?_
  refine r_iconst (v := 2) dX6_grammarAt_6 (by decide) ?_
  refine r_iadd dX6_grammarAt_7 ?_
  refine r_top (nI (k + 2)) (nI_add k 2) ?_
  refine r_callV (st := [.int 2]) [.int (nI (k + 2))] 0 0 dX6_grammarAt_8 kX5_at nX5_at lRX6_32 h.2.1 rfl (c_X5_at_n h.2 hf (k := (k + 2)) (by omega)) rfl rfl (Nat.le_of_ble_eq_true rfl) (Nat.le_refl _) (Nat.le_refl _) (fun _ _ h => h.elim) ?_
  refine cx_det (st2 := [.int (chr f len (k + 2)), .int 2]) rfl ?_
  refine r_callSN (st := [.int 2]) [.int (chr f len (k + 2))] 0 0 dX6_grammarAt_11 kX8_caseOf nX8_caseOf lRX6_40 (c_X8_caseOf (chr f len (k + 2))) rfl rfl (Nat.le_of_ble_eq_true rfl) (Nat.le_refl _) (Nat.le_refl _) (fun _ _ h => h.elim) ?_
  refine cx_det (st2 := [.int (s_X8_caseOf (chr f len (k + 2))), .int 2]) rfl ?_
  refine r_imul dX6_grammarAt_14 ?_
  refine r_aload_n dX6_grammarAt_15 rfl 0 rfl ?_
  refine r_get 0 dX6_grammarAt_16 fRX6_14 h.1 rfl ?_
  refine r_iload_n dX6_grammarAt_19 rfl 1 rfl ?_
  refine r_iconst (v := 3) dX6_grammarAt_20 (by decide) ?_
  refine r_iadd dX6_grammarAt_21 ?_
  refine r_top (nI (k + 3)) (nI_add k 3) ?_
  refine r_callV (st := [.int (2 * (s_X8_caseOf (chr f len (k + 2))))]) [.int (nI (k + 3))] 0 0 dX6_grammarAt_22 kX5_at nX5_at lRX6_32 h.2.1 rfl (c_X5_at_n h.2 hf (k := (k + 3)) (by omega)) rfl rfl (Nat.le_of_ble_eq_true rfl) (Nat.le_refl _) (Nat.le_refl _) (fun _ _ h => h.elim) ?_
  refine cx_det (st2 := [.int (chr f len (k + 3)), .int (2 * (s_X8_caseOf (chr f len (k + 2))))]) rfl ?_
  refine r_callSN (st := [.int (2 * (s_X8_caseOf (chr f len (k + 2))))]) [.int (chr f len (k + 3))] 0 0 dX6_grammarAt_25 kX8_numberOf nX8_numberOf lRX6_43 (c_X8_numberOf (chr f len (k + 3))) rfl rfl (Nat.le_of_ble_eq_true rfl) (Nat.le_refl _) (Nat.le_refl _) (fun _ _ h => h.elim) ?_
  refine cx_det (st2 := [.int (s_X8_numberOf (chr f len (k + 3))), .int (2 * (s_X8_caseOf (chr f len (k + 2))))]) rfl ?_
  refine r_iadd dX6_grammarAt_28 ?_
  refine r_ireti dX6_grammarAt_29 rfl ?_
  exact ⟨rfl, rfl⟩
set_option maxRecDepth 100000 in
set_option maxHeartbeats 4000000 in
theorem lp_X6_slotCount {d b0 : Nat} {G : GH} {a s arr len : Nat} {f : Nat → Int32} {o : Int32} (h : TP G a s arr len f o) (hf : ∀ k, k < len → isC (f k)) : ∀ (fu : Nat) (k : Nat), k ≤ len → len - k < fu → WP mX6_slotCount (d + 2) b0 (fun r G' => r = some (.int (nI (cntB (slB f len) len))) ∧ G' = G) (fun _ _ => False) G 0 0 4 [(2, .int (nI k)), (1, .int (nI (cntB (slB f len) k))), (0, .ref a)] [] := by
  intro fu
  induction fu with
  | zero => intro k hinv hn; exact absurd hn (Nat.not_lt_zero _)
  | succ fu ih =>
    intro k hinv hn
    have hb1 := h.2.2.2.1
    have hb2 := h.2.2.2.2
    refine r_iload_n dX6_slotCount_4 rfl 0 rfl ?_
    refine r_aload_n dX6_slotCount_5 rfl 2 rfl ?_
    refine r_get 0 dX6_slotCount_6 fRX6_14 h.1 rfl ?_
    refine r_callV (st := [.int (nI k)]) [] 0 0 dX6_slotCount_9 kX5_length nX5_length lRX6_20 h.2.1 rfl (c_X5_length h.2) rfl rfl (Nat.le_of_ble_eq_true rfl) (Nat.le_refl _) (Nat.le_refl _) (fun _ _ h => h.elim) ?_
    refine cx_det (st2 := [.int (nI len), .int (nI k)]) rfl ?_
    refine r_icmp_ge 32 dX6_slotCount_12 (by decide) (fun c_1 => ?_) (fun c_1 => ?_)
    · refine r_iload_n dX6_slotCount_32 rfl 1 rfl ?_
      refine r_ireti dX6_slotCount_33 rfl ?_
      have hk : k = len := by have := ni_le (by omega) (by omega) c_1; omega
      exact ⟨by rw [hk], rfl⟩
    · refine r_aload_n dX6_slotCount_15 rfl 2 rfl ?_
      refine r_iload_n dX6_slotCount_16 rfl 0 rfl ?_
      have hk : k < len := ni_nle (by omega) (by omega) c_1
      refine r_callV (st := []) [.int (nI k)] 0 0 dX6_slotCount_17 kX6_isSlot nX6_isSlot lRX6_46 h.1 rfl (c_X6_isSlot_n h hf (by omega)) rfl rfl (Nat.le_of_ble_eq_true rfl) (Nat.le_refl _) (Nat.le_refl _) (fun _ _ h => h.elim) ?_
      refine cx_det (st2 := [.int (b2i (slB f len k))]) rfl ?_
      refine r_if_eq 26 dX6_slotCount_20 (by decide) (fun c_2 => ?_) (fun c_2 => ?_)
      · refine r_iinc (nI (k + 1)) [(2, .int (nI (k + 1))), (1, .int (nI (cntB (slB f len) k))), (0, .ref a)] dX6_slotCount_26 0 rfl (nI_1 k) (by decide) rfl ?_
        refine r_goto 4 dX6_slotCount_29 (by decide) ?_
        have hs : slB f len k = false := by
          cases hx : slB f len k with
          | false => rfl
          | true => rw [hx] at c_2; exact absurd c_2 (by decide)
        have e1 : cntB (slB f len) (k + 1) = cntB (slB f len) k := by
          show cntB (slB f len) k + (if slB f len k = true then 1 else 0) = _
          rw [hs]; rfl
        have hh := ih (k + 1) (by omega) (by omega)
        rw [e1] at hh
        exact WP.loc [0, 1, 2] rfl hh
      · refine r_iinc (nI (cntB (slB f len) k + 1)) [(1, .int (nI (cntB (slB f len) k + 1))), (2, .int (nI k)), (0, .ref a)] dX6_slotCount_23 1 rfl (nI_1 _) (by decide) rfl ?_
        refine r_iinc (nI (k + 1)) [(2, .int (nI (k + 1))), (1, .int (nI (cntB (slB f len) k + 1))), (0, .ref a)] dX6_slotCount_26 1 rfl (nI_1 k) (by decide) rfl ?_
        refine r_goto 4 dX6_slotCount_29 (by decide) ?_
        have hs : slB f len k = true := by
          cases hx : slB f len k with
          | false => rw [hx] at c_2; exact absurd b2i_f c_2
          | true => rfl
        have e1 : cntB (slB f len) (k + 1) = cntB (slB f len) k + 1 := by
          show cntB (slB f len) k + (if slB f len k = true then 1 else 0) = _
          rw [hs]; rfl
        have hh := ih (k + 1) (by omega) (by omega)
        rw [e1] at hh
        exact WP.loc [0, 1, 2] rfl hh
set_option maxRecDepth 100000 in
set_option maxHeartbeats 4000000 in
theorem c_X6_slotCount {d b0 : Nat} {G : GH} {a s arr len : Nat} {f : Nat → Int32} {o : Int32} (h : TP G a s arr len f o) (hf : ∀ k, k < len → isC (f k)) : CTd mX6_slotCount (d + 2) b0 G [.ref a] 0 0 (some (.int (nI (cntB (slB f len) len)))) G := by
  refine CT.intro (by decide +kernel) rfl (Nat.le_of_ble_eq_true rfl) ?_
  show WP mX6_slotCount _ _ _ _ _ 0 0 0 [(0, .ref a)] []
  refine r_iconst (v := nI 0) dX6_slotCount_0 (by decide) ?_
  refine r_istore_n [(1, .int (nI 0)), (0, .ref a)] dX6_slotCount_1 rfl (by decide) rfl ?_
  refine r_iconst (v := nI 0) dX6_slotCount_2 (by decide) ?_
  refine r_istore_n [(2, .int (nI 0)), (1, .int (nI 0)), (0, .ref a)] dX6_slotCount_3 rfl (by decide) rfl ?_
  exact lp_X6_slotCount h hf (len + 1) 0 (Nat.zero_le _) (by omega)
def csB (f : Nat → Int32) (len : Nat) (s : Int32) (k : Nat) : Bool := slB f len k && decide (s_X8_slotOf (chr f len (k + 1)) = s)
set_option maxRecDepth 100000 in
set_option maxHeartbeats 4000000 in
theorem lp_X6_countOfSlot {d b0 : Nat} {G : GH} {a s arr len : Nat} {f : Nat → Int32} {o : Int32} (h : TP G a s arr len f o) (hf : ∀ k, k < len → isC (f k)) {sl : Int32} : ∀ (fu : Nat) (k : Nat), k ≤ len → len - k < fu → WP mX6_countOfSlot (d + 2) b0 (fun r G' => r = some (.int (nI (cntB (csB f len sl) len))) ∧ G' = G) (fun _ _ => False) G 0 0 4 [(3, .int (nI k)), (2, .int (nI (cntB (csB f len sl) k))), (0, .ref a), (1, .int sl)] [] := by
  intro fu
  induction fu with
  | zero => intro k hinv hn; exact absurd hn (Nat.not_lt_zero _)
  | succ fu ih =>
    intro k hinv hn
    have hb1 := h.2.2.2.1
    have hb2 := h.2.2.2.2
    refine r_iload_n dX6_countOfSlot_4 rfl 0 rfl ?_
    refine r_aload_n dX6_countOfSlot_5 rfl 2 rfl ?_
    refine r_get 0 dX6_countOfSlot_6 fRX6_14 h.1 rfl ?_
    refine r_callV (st := [.int (nI k)]) [] 0 0 dX6_countOfSlot_9 kX5_length nX5_length lRX6_20 h.2.1 rfl (c_X5_length h.2) rfl rfl (Nat.le_of_ble_eq_true rfl) (Nat.le_refl _) (Nat.le_refl _) (fun _ _ h => h.elim) ?_
    refine cx_det (st2 := [.int (nI len), .int (nI k)]) rfl ?_
    refine r_icmp_ge 41 dX6_countOfSlot_12 (by decide) (fun c_1 => ?_) (fun c_1 => ?_)
    · refine r_iload_n dX6_countOfSlot_41 rfl 1 rfl ?_
      refine r_ireti dX6_countOfSlot_42 rfl ?_
      have hk : k = len := by have := ni_le (by omega) (by omega) c_1; omega
      exact ⟨by rw [hk], rfl⟩
    · refine r_aload_n dX6_countOfSlot_15 rfl 2 rfl ?_
      refine r_iload_n dX6_countOfSlot_16 rfl 0 rfl ?_
      have hk : k < len := ni_nle (by omega) (by omega) c_1
      refine r_callV (st := []) [.int (nI k)] 0 0 dX6_countOfSlot_17 kX6_isSlot nX6_isSlot lRX6_46 h.1 rfl (c_X6_isSlot_n h hf (by omega)) rfl rfl (Nat.le_of_ble_eq_true rfl) (Nat.le_refl _) (Nat.le_refl _) (fun _ _ h => h.elim) ?_
      refine cx_det (st2 := [.int (b2i (slB f len k))]) rfl ?_
      refine r_if_eq 35 dX6_countOfSlot_20 (by decide) (fun c_2 => ?_) (fun c_2 => ?_)
      · refine r_iinc (nI (k + 1)) [(3, .int (nI (k + 1))), (2, .int (nI (cntB (csB f len sl) k))), (0, .ref a), (1, .int sl)] dX6_countOfSlot_35 0 rfl (nI_1 k) (by decide) rfl ?_
        refine r_goto 4 dX6_countOfSlot_38 (by decide) ?_
        have hs : slB f len k = false := by
          cases hx : slB f len k with
          | false => rfl
          | true => rw [hx] at c_2; exact absurd c_2 (by decide)
        have hp : csB f len sl k = false := by unfold csB; rw [hs]; rfl
        have e1 : cntB (csB f len sl) (k + 1) = cntB (csB f len sl) k := by
          show cntB (csB f len sl) k + (if csB f len sl k = true then 1 else 0) = _
          rw [hp]; rfl
        have hh := ih (k + 1) (by omega) (by omega)
        rw [e1] at hh
        exact WP.loc [0, 1, 2, 3] rfl hh
      · refine r_aload_n dX6_countOfSlot_23 rfl 2 rfl ?_
        refine r_iload_n dX6_countOfSlot_24 rfl 0 rfl ?_
        refine r_callV (st := []) [.int (nI k)] 0 0 dX6_countOfSlot_25 kX6_slotAt nX6_slotAt lRX6_50 h.1 rfl (c_X6_slotAt_n h hf (by omega)) rfl rfl (Nat.le_of_ble_eq_true rfl) (Nat.le_refl _) (Nat.le_refl _) (fun _ _ h => h.elim) ?_
        refine cx_det (st2 := [.int (s_X8_slotOf (chr f len (k + 1)))]) rfl ?_
        refine r_iload_n dX6_countOfSlot_28 rfl 3 rfl ?_
        refine r_icmp_ne 35 dX6_countOfSlot_29 (by decide) (fun c_3 => ?_) (fun c_3 => ?_)
        · refine r_iinc (nI (k + 1)) [(3, .int (nI (k + 1))), (2, .int (nI (cntB (csB f len sl) k))), (0, .ref a), (1, .int sl)] dX6_countOfSlot_35 0 rfl (nI_1 k) (by decide) rfl ?_
          refine r_goto 4 dX6_countOfSlot_38 (by decide) ?_
          have hs : slB f len k = true := by
            cases hx : slB f len k with
            | false => rw [hx] at c_2; exact absurd b2i_f c_2
            | true => rfl
          have hp : csB f len sl k = false := by unfold csB; rw [hs, decide_eq_false c_3]; rfl
          have e1 : cntB (csB f len sl) (k + 1) = cntB (csB f len sl) k := by
            show cntB (csB f len sl) k + (if csB f len sl k = true then 1 else 0) = _
            rw [hp]; rfl
          have hh := ih (k + 1) (by omega) (by omega)
          rw [e1] at hh
          exact WP.loc [0, 1, 2, 3] rfl hh
        · refine r_iinc (nI (cntB (csB f len sl) k + 1)) [(2, .int (nI (cntB (csB f len sl) k + 1))), (3, .int (nI k)), (0, .ref a), (1, .int sl)] dX6_countOfSlot_32 1 rfl (nI_1 _) (by decide) rfl ?_
          refine r_iinc (nI (k + 1)) [(3, .int (nI (k + 1))), (2, .int (nI (cntB (csB f len sl) k + 1))), (0, .ref a), (1, .int sl)] dX6_countOfSlot_35 1 rfl (nI_1 k) (by decide) rfl ?_
          refine r_goto 4 dX6_countOfSlot_38 (by decide) ?_
          have hs : slB f len k = true := by
            cases hx : slB f len k with
            | false => rw [hx] at c_2; exact absurd b2i_f c_2
            | true => rfl
          have hp : csB f len sl k = true := by unfold csB; rw [hs, decide_eq_true c_3]; rfl
          have e1 : cntB (csB f len sl) (k + 1) = cntB (csB f len sl) k + 1 := by
            show cntB (csB f len sl) k + (if csB f len sl k = true then 1 else 0) = _
            rw [hp]; rfl
          have hh := ih (k + 1) (by omega) (by omega)
          rw [e1] at hh
          exact WP.loc [0, 1, 2, 3] rfl hh
set_option maxRecDepth 100000 in
set_option maxHeartbeats 4000000 in
theorem c_X6_countOfSlot {d b0 : Nat} {G : GH} {a s arr len : Nat} {f : Nat → Int32} {o : Int32} (h : TP G a s arr len f o) (hf : ∀ k, k < len → isC (f k)) (sl : Int32) : CTd mX6_countOfSlot (d + 2) b0 G [.ref a, .int sl] 0 0 (some (.int (nI (cntB (csB f len sl) len)))) G := by
  refine CT.intro (by decide +kernel) rfl (Nat.le_of_ble_eq_true rfl) ?_
  show WP mX6_countOfSlot _ _ _ _ _ 0 0 0 [(0, .ref a), (1, .int sl)] []
  refine r_iconst (v := nI 0) dX6_countOfSlot_0 (by decide) ?_
  refine r_istore_n [(2, .int (nI 0)), (0, .ref a), (1, .int sl)] dX6_countOfSlot_1 rfl (by decide) rfl ?_
  refine r_iconst (v := nI 0) dX6_countOfSlot_2 (by decide) ?_
  refine r_istore_n [(3, .int (nI 0)), (2, .int (nI 0)), (0, .ref a), (1, .int sl)] dX6_countOfSlot_3 rfl (by decide) rfl ?_
  exact lp_X6_countOfSlot h hf (len + 1) 0 (Nat.zero_le _) (by omega)
