set_option maxRecDepth 100000 in
set_option maxHeartbeats 4000000 in
theorem c_X0_condition {d b0 : Nat} {G : GH} {A B : ST} {ad : AD} (hW : World A B ad G) (hI : Inv A) {c : Nat} (hc : c < A 9 0) : CTd mX0_condition d b0 G [.ref (ad 21 c)] 0 0 (some (.int (nI (A 10 c) - 1))) G := by
  have hb0 := hI.b0
  have hb2 := hI.b2
  have hb9 := hI.b9
  have hb15 := hI.b15
  have hb18 := hI.b18
  refine CT.intro (by decide +kernel) rfl (Nat.le_of_ble_eq_true rfl) ?_
  show WP mX0_condition _ _ _ _ _ 0 0 0 [(0, .ref (ad 21 c))] []
  refine r_aload_n dX0_condition_0 rfl 0 rfl ?_
  refine r_get 0 dX0_condition_1 fRX0_21 (hW.g 21 c hc) rfl ?_
  refine r_ireti dX0_condition_4 rfl ?_
  exact ⟨rfl, rfl⟩
set_option maxRecDepth 100000 in
set_option maxHeartbeats 4000000 in
theorem c_X0_howIndex {d b0 : Nat} {G : GH} {a o k : Nat} (ho : o < 10) (hk : k < 4) : CTd mX0_howIndex (d + 1) b0 G [.ref a, .int (nI o), .int (nI k)] 0 0 (some (.int (nI (o * 4 + k)))) G := by
  refine CT.intro (by decide +kernel) rfl (Nat.le_of_ble_eq_true rfl) ?_
  show WP mX0_howIndex _ _ _ _ _ 0 0 0 [(0, .ref a), (1, .int (nI o)), (2, .int (nI k))] []
  refine r_iload_n dX0_howIndex_0 rfl 1 rfl ?_
  refine r_bipush (v := 10) dX0_howIndex_1 (by decide) ?_
  refine r_callSN (st := []) [.int (nI o), .int 10] 0 0 dX0_howIndex_3 kX8_isBelow nX8_isBelow lRX0_26 (c_isB (nI o) 10) rfl rfl (Nat.le_of_ble_eq_true rfl) (Nat.le_refl _) (Nat.le_refl _) (fun _ _ h => h.elim) ?_
  refine cx_det (st2 := [.int (b2i (inB (nI o) 10))]) rfl ?_
  refine r_if_eq 21 dX0_howIndex_6 (by decide) (fun c_1 => absurd c_1 (b2i_no (inB_k ho (by decide)))) (fun c_1 => ?_)
  refine r_iload_n dX0_howIndex_9 rfl 2 rfl ?_
  refine r_iconst (v := 4) dX0_howIndex_10 (by decide) ?_
  refine r_callSN (st := []) [.int (nI k), .int 4] 0 0 dX0_howIndex_11 kX8_isBelow nX8_isBelow lRX0_26 (c_isB (nI k) 4) rfl rfl (Nat.le_of_ble_eq_true rfl) (Nat.le_refl _) (Nat.le_refl _) (fun _ _ h => h.elim) ?_
  refine cx_det (st2 := [.int (b2i (inB (nI k) 4))]) rfl ?_
  refine r_if_eq 21 dX0_howIndex_14 (by decide) (fun c_2 => absurd c_2 (b2i_no (inB_k hk (by decide)))) (fun c_2 => ?_)
  refine r_iconst (v := 1) dX0_howIndex_17 (by decide) ?_
  refine r_goto 22 dX0_howIndex_18 (by decide) ?_
  refine r_istore_n [(3, .int 1), (0, .ref a), (1, .int (nI o)), (2, .int (nI k))] dX0_howIndex_22 rfl (by decide) rfl ?_
  refine r_iload_n dX0_howIndex_23 rfl 0 rfl ?_
  refine r_if_eq 35 dX0_howIndex_24 (by decide) (fun c_3 => absurd c_3 (by decide)) (fun c_3 => ?_)
  refine r_iload_n dX0_howIndex_27 rfl 2 rfl ?_
  refine r_iconst (v := 4) dX0_howIndex_28 (by decide) ?_
  refine r_imul dX0_howIndex_29 ?_
  refine r_top (nI (o * 4)) (pk_mul o 4) ?_
  refine r_iload_n dX0_howIndex_30 rfl 3 rfl ?_
  refine r_iadd dX0_howIndex_31 ?_
  refine r_top (nI (o * 4 + k)) (nI_add (o * 4) k) ?_
  refine r_goto 36 dX0_howIndex_32 (by decide) ?_
  refine r_ireti dX0_howIndex_36 rfl ?_
  exact ⟨rfl, rfl⟩
set_option maxRecDepth 100000 in
set_option maxHeartbeats 4000000 in
theorem c_X0_how {d b0 : Nat} {G : GH} {A B : ST} {ad : AD} (hW : World A B ad G) (hI : Inv A) {c o k : Nat} (hc : c < A 9 0) (ho : o < 10) (hk : k < 4) : CTd mX0_how (d + 2) b0 G [.ref (ad 21 c), .int (nI o), .int (nI k)] 0 0 (some (.int (nI (A 14 (100 * k + 10 * c + o))))) G := by
  have hb0 := hI.b0
  have hb2 := hI.b2
  have hb9 := hI.b9
  have hb15 := hI.b15
  have hb18 := hI.b18
  refine CT.intro (by decide +kernel) rfl (Nat.le_of_ble_eq_true rfl) ?_
  show WP mX0_how _ _ _ _ _ 0 0 0 [(0, .ref (ad 21 c)), (1, .int (nI o)), (2, .int (nI k))] []
  refine r_aload_n dX0_how_0 rfl 0 rfl ?_
  refine r_iload_n dX0_how_1 rfl 1 rfl ?_
  refine r_iload_n dX0_how_2 rfl 2 rfl ?_
  refine r_callV (st := []) [.int (nI o), .int (nI k)] 0 0 dX0_how_3 kX0_howIndex nX0_howIndex lRX0_30 (hW.g 21 c hc) rfl (c_X0_howIndex ho hk) rfl rfl (Nat.le_of_ble_eq_true rfl) (Nat.le_refl _) (Nat.le_refl _) (fun _ _ h => h.elim) ?_
  refine cx_det (st2 := [.int (nI (o * 4 + k))]) rfl ?_
  refine r_istore_n [(3, .int (nI (o * 4 + k))), (0, .ref (ad 21 c)), (1, .int (nI o)), (2, .int (nI k))] dX0_how_6 rfl (by decide) rfl ?_
  refine r_iload_n dX0_how_7 rfl 0 rfl ?_
  refine r_aload_n dX0_how_8 rfl 1 rfl ?_
  refine r_get 2 dX0_how_9 fRX0_17 (hW.g 21 c hc) rfl ?_
  refine r_alen (v := nI 40) dX0_how_12 (hW.g 23 c hc) rfl ?_
  refine r_callSN (st := []) [.int (nI (o * 4 + k)), .int (nI 40)] 0 0 dX0_how_13 kX8_isBelow nX8_isBelow lRX0_26 (c_isB (nI (o * 4 + k)) 40) rfl rfl (Nat.le_of_ble_eq_true rfl) (Nat.le_refl _) (Nat.le_refl _) (fun _ _ h => h.elim) ?_
  refine cx_det (st2 := [.int (b2i (inB (nI (o * 4 + k)) 40))]) rfl ?_
  refine r_if_eq 28 dX0_how_16 (by decide) (fun c_2 => absurd c_2 (b2i_no (inB_k (show o * 4 + k < 40 by omega) (by decide)))) (fun c_2 => ?_)
  refine r_aload_n dX0_how_19 rfl 1 rfl ?_
  refine r_get 2 dX0_how_20 fRX0_17 (hW.g 21 c hc) rfl ?_
  refine r_iload_n dX0_how_23 rfl 0 rfl ?_
  refine r_iald dX0_how_24 (hW.g 23 c hc) (vp_in_nI (show o * 4 + k < 40 by omega) (by decide)) ?_
  refine r_top (nI (A 14 (100 * k + 10 * c + o))) (by rw [nI_cl (show o * 4 + k < 2147483648 by omega), if_pos (show o * 4 + k < 40 by omega), show (o * 4 + k) % 4 = k by omega, show (o * 4 + k) / 4 = o by omega]) ?_
  refine r_goto 29 dX0_how_25 (by decide) ?_
  refine r_ireti dX0_how_29 rfl ?_
  exact ⟨rfl, rfl⟩
set_option maxRecDepth 100000 in
set_option maxHeartbeats 4000000 in
theorem c_X0_setHow {d b0 : Nat} {G : GH} {A B : ST} {ad : AD} (hW : World A B ad G) (hI : Inv A) {c o k h : Nat} (hc : c < A 9 0) (ho : o < 10) (hk : k < 4) : CTd mX0_setHow (d + 2) b0 G [.ref (ad 21 c), .int (nI o), .int (nI k), .int (nI h)] 0 0 none (va_up G (ad 23 c) (some (inA 40 (upd (fun j => if j < 40 then nI (A 14 (100 * (j % 4) + 10 * c + j / 4)) else 0) (4 * o + k) (nI h))))) := by
  have hb0 := hI.b0
  have hb2 := hI.b2
  have hb9 := hI.b9
  have hb15 := hI.b15
  have hb18 := hI.b18
  refine CT.intro (by decide +kernel) rfl (Nat.le_of_ble_eq_true rfl) ?_
  show WP mX0_setHow _ _ _ _ _ 0 0 0 [(0, .ref (ad 21 c)), (1, .int (nI o)), (2, .int (nI k)), (3, .int (nI h))] []
  refine r_aload_n dX0_setHow_0 rfl 0 rfl ?_
  refine r_iload_n dX0_setHow_1 rfl 1 rfl ?_
  refine r_iload_n dX0_setHow_2 rfl 2 rfl ?_
  refine r_callV (st := []) [.int (nI o), .int (nI k)] 0 0 dX0_setHow_3 kX0_howIndex nX0_howIndex lRX0_30 (hW.g 21 c hc) rfl (c_X0_howIndex ho hk) rfl rfl (Nat.le_of_ble_eq_true rfl) (Nat.le_refl _) (Nat.le_refl _) (fun _ _ h => h.elim) ?_
  refine cx_det (st2 := [.int (nI (o * 4 + k))]) rfl ?_
  refine r_istore [(4, .int (nI (o * 4 + k))), (0, .ref (ad 21 c)), (1, .int (nI o)), (2, .int (nI k)), (3, .int (nI h))] dX0_setHow_6 (by decide) rfl ?_
  refine r_iload dX0_setHow_8 0 rfl ?_
  refine r_aload_n dX0_setHow_10 rfl 1 rfl ?_
  refine r_get 2 dX0_setHow_11 fRX0_17 (hW.g 21 c hc) rfl ?_
  refine r_alen (v := nI 40) dX0_setHow_14 (hW.g 23 c hc) rfl ?_
  refine r_callSN (st := []) [.int (nI (o * 4 + k)), .int (nI 40)] 0 0 dX0_setHow_15 kX8_isBelow nX8_isBelow lRX0_26 (c_isB (nI (o * 4 + k)) 40) rfl rfl (Nat.le_of_ble_eq_true rfl) (Nat.le_refl _) (Nat.le_refl _) (fun _ _ h => h.elim) ?_
  refine cx_det (st2 := [.int (b2i (inB (nI (o * 4 + k)) 40))]) rfl ?_
  refine r_if_eq 29 dX0_setHow_18 (by decide) (fun c_2 => absurd c_2 (b2i_no (inB_k (show o * 4 + k < 40 by omega) (by decide)))) (fun c_2 => ?_)
  refine r_aload_n dX0_setHow_21 rfl 1 rfl ?_
  refine r_get 2 dX0_setHow_22 fRX0_17 (hW.g 21 c hc) rfl ?_
  refine r_iload dX0_setHow_25 0 rfl ?_
  refine r_iload_n dX0_setHow_27 rfl 4 rfl ?_
  refine r_iast dX0_setHow_28 (hW.g 23 c hc) (vp_in_nI (show o * 4 + k < 40 by omega) (by decide)) ?_
  refine r_heap (G' := (va_up G (ad 23 c) (some (inA 40 (upd (fun j => if j < 40 then nI (A 14 (100 * (j % 4) + 10 * c + j / 4)) else 0) (4 * o + k) (nI h)))))) (by rw [nI_cl (show o * 4 + k < 2147483648 by omega), show o * 4 + k = 4 * o + k by omega]) ?_
  refine r_vret dX0_setHow_29 rfl ?_
  exact ⟨rfl, rfl⟩
/-- the count of a slot in the text t -/
def scn (A : ST) (t : Nat) (sl : Int32) : Nat := cntB (csB (rg A 11 (60 * t) 60) (A 12 t) sl) (A 12 t)
def scl (A : ST) (c : Nat) (sl : Int32) : Nat → Int32
  | 0 => -1
  | n + 1 => if A 12 (3 * c + n) = 0 then scl A c sl n else nI (scn A (3 * c + n) sl)
def sco (A : ST) (c : Nat) (sl : Int32) : Nat → Bool
  | 0 => true
  | n + 1 => sco A c sl n && (decide (A 12 (3 * c + n) = 0) || decide (scl A c sl n = -1) || decide (scl A c sl n = nI (scn A (3 * c + n) sl)))
theorem sco_no {A : ST} {c : Nat} {sl : Int32} {n : Nat} (h : sco A c sl n = false) : ∀ m, n ≤ m → sco A c sl m = false := by
  intro m hm
  induction m with
  | zero => have h0 : n = 0 := by omega
            rw [h0] at h; exact h
  | succ m ih =>
    by_cases h1 : n = m + 1
    · rw [← h1]; exact h
    · show (sco A c sl m && _) = false
      rw [ih (by omega)]; rfl
set_option maxRecDepth 100000 in
set_option maxHeartbeats 4000000 in
theorem lp_X0_isSameCount {d b0 : Nat} {G : GH} {A B : ST} {ad : AD} (hW : World A B ad G) (hI : Inv A) {c : Nat} (hc : c < A 9 0) {sl : Int32} : ∀ (fu : Nat) (k : Nat), k ≤ 3 ∧ sco A c sl k = true → 3 - k < fu → WP mX0_isSameCount (d + 3) b0 (fun r G' => r = some (.int (b2i (sco A c sl 3))) ∧ G' = G) (fun _ _ => False) G 0 0 4 [(3, .int (nI k)), (2, .int (scl A c sl k)), (0, .ref (ad 21 c)), (1, .int sl)] [] := by
  intro fu
  induction fu with
  | zero => intro k hinv hn; exact absurd hn (Nat.not_lt_zero _)
  | succ fu ih =>
    intro k hinv hn
    refine r_iload_n dX0_isSameCount_4 rfl 0 rfl ?_
    refine r_iconst (v := 3) dX0_isSameCount_5 (by decide) ?_
    refine r_icmp_ge 59 dX0_isSameCount_6 (by decide) (fun c_1 => ?_) (fun c_1 => ?_)
    · refine r_iconst (v := 1) dX0_isSameCount_59 (by decide) ?_
      refine r_ret .boolean dX0_isSameCount_60 rfl rfl ?_
      have hk : k = 3 := by have := ni_le (a := 3) (by decide) (by omega) c_1; omega
      exact ⟨by rw [← hk, hinv.2]; rfl, rfl⟩
    · have hk : k < 3 := ni_nle (by omega) (by omega) c_1
      have ht : 3 * c + k < 3 * A 9 0 := by omega
      refine r_aload_n dX0_isSameCount_9 rfl 2 rfl ?_
      refine r_iload_n dX0_isSameCount_10 rfl 0 rfl ?_
      refine r_callV (st := []) [.int (nI k)] 0 0 dX0_isSameCount_11 kX0_templateIn nX0_templateIn lRX0_38 (hW.g 21 c hc) rfl (c_X0_templateIn_t hW hI hc hk) rfl rfl (Nat.le_of_ble_eq_true rfl) (Nat.le_refl _) (Nat.le_refl _) (fun _ _ h => h.elim) ?_
      refine cx_det (st2 := [.ref (ad 24 (3 * c + k))]) rfl ?_
      refine r_astore [(4, .ref (ad 24 (3 * c + k))), (3, .int (nI k)), (2, .int (scl A c sl k)), (0, .ref (ad 21 c)), (1, .int sl)] dX0_isSameCount_14 (by decide) rfl ?_
      refine r_aload dX0_isSameCount_16 0 rfl ?_
      refine r_ifnullR dX0_isSameCount_18 ?_
      refine r_aload dX0_isSameCount_21 0 rfl ?_
      refine r_callV (st := []) [] 0 0 dX0_isSameCount_23 kX6_isThere nX6_isThere lRX0_42 (hW.g 24 (3 * c + k) ht) rfl (c_X6_isThere (tp24 hW hI ht)) rfl rfl (Nat.le_of_ble_eq_true rfl) (Nat.le_refl _) (Nat.le_refl _) (fun _ _ h => h.elim) ?_
      refine cx_det (st2 := [.int (b2i (decide (0 < A 12 (3 * c + k))))]) rfl ?_
      refine r_if_eq 53 dX0_isSameCount_26 (by decide) (fun c_2 => ?_) (fun c_2 => ?_)
      · refine r_iinc (nI (k + 1)) [(3, .int (nI (k + 1))), (4, .ref (ad 24 (3 * c + k))), (2, .int (scl A c sl k)), (0, .ref (ad 21 c)), (1, .int sl)] dX0_isSameCount_53 1 rfl (nI_1 k) (by decide) rfl ?_
        refine r_goto 4 dX0_isSameCount_56 (by decide) ?_
        have hth : A 12 (3 * c + k) = 0 := by
          by_cases h : 0 < A 12 (3 * c + k)
          · exact absurd c_2 (b2i_dt h)
          · omega
        have e2 : scl A c sl (k + 1) = scl A c sl k := by
          show (if A 12 (3 * c + k) = 0 then scl A c sl k else nI (scn A (3 * c + k) sl)) = _
          rw [if_pos hth]
        have e1 : sco A c sl (k + 1) = true := by
          show (sco A c sl k && (decide (A 12 (3 * c + k) = 0) || decide (scl A c sl k = -1) || decide (scl A c sl k = nI (scn A (3 * c + k) sl)))) = true
          rw [decide_eq_true hth, hinv.2]; simp
        have hh := ih (k + 1) ⟨by omega, e1⟩ (by omega)
        rw [e2] at hh
        exact WP.loc [0, 2, 3, 4] rfl hh
      · refine r_aload dX0_isSameCount_29 0 rfl ?_
        refine r_iload_n dX0_isSameCount_31 rfl 4 rfl ?_
        refine r_callV (st := []) [.int sl] 0 0 dX0_isSameCount_32 kX6_countOfSlot nX6_countOfSlot lRX0_46 (hW.g 24 (3 * c + k) ht) rfl (c_X6_countOfSlot (tp24 hW hI ht) (fun k _ => rg_C hI.ch.2.2.2.2 k) sl) rfl rfl (Nat.le_of_ble_eq_true rfl) (Nat.le_refl _) (Nat.le_refl _) (fun _ _ h => h.elim) ?_
        refine cx_det (st2 := [.int (nI (scn A (3 * c + k) sl))]) rfl ?_
        refine r_istore [(5, .int (nI (scn A (3 * c + k) sl))), (4, .ref (ad 24 (3 * c + k))), (3, .int (nI k)), (2, .int (scl A c sl k)), (0, .ref (ad 21 c)), (1, .int sl)] dX0_isSameCount_35 (by decide) rfl ?_
        refine r_iload_n dX0_isSameCount_37 rfl 3 rfl ?_
        refine r_iconst (v := (-1)) dX0_isSameCount_38 (by decide) ?_
        refine r_icmp_eq 50 dX0_isSameCount_39 (by decide) (fun c_4 => ?_) (fun c_4 => ?_)
        · refine r_iload dX0_isSameCount_50 0 rfl ?_
          refine r_istore_n [(2, .int (nI (scn A (3 * c + k) sl))), (5, .int (nI (scn A (3 * c + k) sl))), (4, .ref (ad 24 (3 * c + k))), (3, .int (nI k)), (0, .ref (ad 21 c)), (1, .int sl)] dX0_isSameCount_52 rfl (by decide) rfl ?_
          refine r_iinc (nI (k + 1)) [(3, .int (nI (k + 1))), (2, .int (nI (scn A (3 * c + k) sl))), (5, .int (nI (scn A (3 * c + k) sl))), (4, .ref (ad 24 (3 * c + k))), (0, .ref (ad 21 c)), (1, .int sl)] dX0_isSameCount_53 3 rfl (nI_1 k) (by decide) rfl ?_
          refine r_goto 4 dX0_isSameCount_56 (by decide) ?_
          have hth : ¬ A 12 (3 * c + k) = 0 := fun h => c_2 (b2i_df (by omega))
          have e2 : scl A c sl (k + 1) = nI (scn A (3 * c + k) sl) := by
            show (if A 12 (3 * c + k) = 0 then scl A c sl k else nI (scn A (3 * c + k) sl)) = _
            rw [if_neg hth]
          have e1 : sco A c sl (k + 1) = true := by
            show (sco A c sl k && (decide (A 12 (3 * c + k) = 0) || decide (scl A c sl k = -1) || decide (scl A c sl k = nI (scn A (3 * c + k) sl)))) = true
            rw [decide_eq_false hth, decide_eq_true c_4, hinv.2]; simp
          have hh := ih (k + 1) ⟨by omega, e1⟩ (by omega)
          rw [e2] at hh
          exact WP.loc [0, 1, 4, 5] rfl hh
        · refine r_iload_n dX0_isSameCount_42 rfl 3 rfl ?_
          refine r_iload dX0_isSameCount_43 0 rfl ?_
          refine r_icmp_eq 50 dX0_isSameCount_45 (by decide) (fun c_6 => ?_) (fun c_6 => ?_)
          · refine r_iload dX0_isSameCount_50 0 rfl ?_
            refine r_istore_n [(2, .int (nI (scn A (3 * c + k) sl))), (5, .int (nI (scn A (3 * c + k) sl))), (4, .ref (ad 24 (3 * c + k))), (3, .int (nI k)), (0, .ref (ad 21 c)), (1, .int sl)] dX0_isSameCount_52 rfl (by decide) rfl ?_
            refine r_iinc (nI (k + 1)) [(3, .int (nI (k + 1))), (2, .int (nI (scn A (3 * c + k) sl))), (5, .int (nI (scn A (3 * c + k) sl))), (4, .ref (ad 24 (3 * c + k))), (0, .ref (ad 21 c)), (1, .int sl)] dX0_isSameCount_53 3 rfl (nI_1 k) (by decide) rfl ?_
            refine r_goto 4 dX0_isSameCount_56 (by decide) ?_
            have hth : ¬ A 12 (3 * c + k) = 0 := fun h => c_2 (b2i_df (by omega))
            have e2 : scl A c sl (k + 1) = nI (scn A (3 * c + k) sl) := by
              show (if A 12 (3 * c + k) = 0 then scl A c sl k else nI (scn A (3 * c + k) sl)) = _
              rw [if_neg hth]
            have e1 : sco A c sl (k + 1) = true := by
              show (sco A c sl k && (decide (A 12 (3 * c + k) = 0) || decide (scl A c sl k = -1) || decide (scl A c sl k = nI (scn A (3 * c + k) sl)))) = true
              rw [decide_eq_false hth, decide_eq_false c_4, decide_eq_true c_6, hinv.2]; simp
            have hh := ih (k + 1) ⟨by omega, e1⟩ (by omega)
            rw [e2] at hh
            exact WP.loc [0, 1, 4, 5] rfl hh
          · refine r_iconst (v := 0) dX0_isSameCount_48 (by decide) ?_
            refine r_ret .boolean dX0_isSameCount_49 rfl rfl ?_
            have hth : ¬ A 12 (3 * c + k) = 0 := fun h => c_2 (b2i_df (by omega))
            have hno : sco A c sl (k + 1) = false := by
              show (sco A c sl k && (decide (A 12 (3 * c + k) = 0) || decide (scl A c sl k = -1) || decide (scl A c sl k = nI (scn A (3 * c + k) sl)))) = false
              rw [decide_eq_false hth, decide_eq_false c_4, decide_eq_false c_6, hinv.2]; rfl
            exact ⟨by rw [sco_no hno 3 (by omega)]; rfl, rfl⟩
set_option maxRecDepth 100000 in
set_option maxHeartbeats 4000000 in
theorem c_X0_isSameCount {d b0 : Nat} {G : GH} {A B : ST} {ad : AD} (hW : World A B ad G) (hI : Inv A) {c : Nat} (hc : c < A 9 0) (sl : Int32) : CTd mX0_isSameCount (d + 3) b0 G [.ref (ad 21 c), .int sl] 0 0 (some (.int (b2i (sco A c sl 3)))) G := by
  have hb0 := hI.b0
  have hb2 := hI.b2
  have hb9 := hI.b9
  have hb15 := hI.b15
  have hb18 := hI.b18
  refine CT.intro (by decide +kernel) rfl (Nat.le_of_ble_eq_true rfl) ?_
  show WP mX0_isSameCount _ _ _ _ _ 0 0 0 [(0, .ref (ad 21 c)), (1, .int sl)] []
  refine r_iconst (v := scl A c sl 0) dX0_isSameCount_0 (by first | rfl | decide) ?_
  refine r_istore_n [(2, .int (scl A c sl 0)), (0, .ref (ad 21 c)), (1, .int sl)] dX0_isSameCount_1 rfl (by decide) rfl ?_
  refine r_iconst (v := nI 0) dX0_isSameCount_2 (by decide) ?_
  refine r_istore_n [(3, .int (nI 0)), (2, .int (scl A c sl 0)), (0, .ref (ad 21 c)), (1, .int sl)] dX0_isSameCount_3 rfl (by decide) rfl ?_
  exact lp_X0_isSameCount hW hI hc 4 0 ⟨Nat.zero_le _, rfl⟩ (by omega)
def slk (A : ST) (c : Nat) : Bool := allB (fun s => sco A c (nI s) 3) 5
set_option maxRecDepth 100000 in
set_option maxHeartbeats 4000000 in
theorem lp_X0_hasSameSlots {d b0 : Nat} {G : GH} {A B : ST} {ad : AD} (hW : World A B ad G) (hI : Inv A) {c : Nat} (hc : c < A 9 0) : ∀ (fu : Nat) (k : Nat), k ≤ 5 ∧ (∀ j, j < k → sco A c (nI j) 3 = true) → 5 - k < fu → WP mX0_hasSameSlots (d + 4) b0 (fun r G' => r = some (.int (b2i (slk A c))) ∧ G' = G) (fun _ _ => False) G 0 0 2 [(1, .int (nI k)), (0, .ref (ad 21 c))] [] := by
  intro fu
  induction fu with
  | zero => intro k hinv hn; exact absurd hn (Nat.not_lt_zero _)
  | succ fu ih =>
    intro k hinv hn
    refine r_iload_n dX0_hasSameSlots_2 rfl 0 rfl ?_
    refine r_iconst (v := 5) dX0_hasSameSlots_3 (by decide) ?_
    refine r_icmp_ge 23 dX0_hasSameSlots_4 (by decide) (fun c_1 => ?_) (fun c_1 => ?_)
    · refine r_iconst (v := 1) dX0_hasSameSlots_23 (by decide) ?_
      refine r_ret .boolean dX0_hasSameSlots_24 rfl rfl ?_
      have hk : k = 5 := by have := ni_le (a := 5) (by decide) (by omega) c_1; omega
      exact ⟨by unfold slk; rw [(allB_iff _ _).mpr (fun j hj => hinv.2 j (by omega))]; rfl, rfl⟩
    · have hk : k < 5 := ni_nle (by omega) (by omega) c_1
      refine r_aload_n dX0_hasSameSlots_7 rfl 1 rfl ?_
      refine r_iload_n dX0_hasSameSlots_8 rfl 0 rfl ?_
      refine r_callV (st := []) [.int (nI k)] 0 0 dX0_hasSameSlots_9 kX0_isSameCount nX0_isSameCount lRX0_34 (hW.g 21 c hc) rfl (c_X0_isSameCount hW hI hc (nI k)) rfl rfl (Nat.le_of_ble_eq_true rfl) (Nat.le_refl _) (Nat.le_refl _) (fun _ _ h => h.elim) ?_
      refine cx_det (st2 := [.int (b2i (sco A c (nI k) 3))]) rfl ?_
      refine r_if_ne 17 dX0_hasSameSlots_12 (by decide) (fun c_2 => ?_) (fun c_2 => ?_)
      · refine r_iinc (nI (k + 1)) [(1, .int (nI (k + 1))), (0, .ref (ad 21 c))] dX0_hasSameSlots_17 0 rfl (nI_1 k) (by decide) rfl ?_
        refine r_goto 2 dX0_hasSameSlots_20 (by decide) ?_
        have hy : sco A c (nI k) 3 = true := by
          cases hx : sco A c (nI k) 3 with
          | true => rfl
          | false => exact absurd (b2i_z hx) c_2
        exact ih (k + 1) ⟨by omega, fun j hj => by
          rcases Nat.lt_or_ge j k with q | q
          · exact hinv.2 j q
          · rw [show j = k by omega]; exact hy⟩ (by omega)
      · refine r_iconst (v := 0) dX0_hasSameSlots_15 (by decide) ?_
        refine r_ret .boolean dX0_hasSameSlots_16 rfl rfl ?_
        have hno : sco A c (nI k) 3 = false := by
          cases hx : sco A c (nI k) 3 with
          | false => rfl
          | true => exact absurd c_2 (b2i_no hx)
        exact ⟨by unfold slk; rw [allB_no hk hno]; rfl, rfl⟩
set_option maxRecDepth 100000 in
set_option maxHeartbeats 4000000 in
theorem c_X0_hasSameSlots {d b0 : Nat} {G : GH} {A B : ST} {ad : AD} (hW : World A B ad G) (hI : Inv A) {c : Nat} (hc : c < A 9 0) : CTd mX0_hasSameSlots (d + 4) b0 G [.ref (ad 21 c)] 0 0 (some (.int (b2i (slk A c)))) G := by
  have hb0 := hI.b0
  have hb2 := hI.b2
  have hb9 := hI.b9
  have hb15 := hI.b15
  have hb18 := hI.b18
  refine CT.intro (by decide +kernel) rfl (Nat.le_of_ble_eq_true rfl) ?_
  show WP mX0_hasSameSlots _ _ _ _ _ 0 0 0 [(0, .ref (ad 21 c))] []
  refine r_iconst (v := nI 0) dX0_hasSameSlots_0 (by decide) ?_
  refine r_istore_n [(1, .int (nI 0)), (0, .ref (ad 21 c))] dX0_hasSameSlots_1 rfl (by decide) rfl ?_
  exact lp_X0_hasSameSlots hW hI hc 6 0 ⟨Nat.zero_le _, fun j hj => absurd hj (Nat.not_lt_zero j)⟩ (by omega)
set_option maxRecDepth 100000 in
set_option maxHeartbeats 4000000 in
theorem lp_X8_firstFault {d b0 : Nat} {G : GH} {a arr cap len : Nat} {f : Nat → Int32} (h : SG G a arr cap len f) (hf : ∀ k, k < len → isC (f k)) : ∀ (fu : Nat) (k : Nat), k ≤ len ∧ cw f k ≤ 4 ∧ ffI f len (len - k) = ffS f len → len - k < fu → WP mX8_firstFault (d + 2) b0 (fun r G' => r = some (.int (ffS f len)) ∧ G' = G) (fun _ _ => False) G 0 0 4 [(2, .int (nI k)), (1, .int (nI (cw f k))), (0, .ref a)] [] := by
  intro fu
  induction fu with
  | zero => intro k hinv hn; exact absurd hn (Nat.not_lt_zero _)
  | succ fu ih =>
    intro k hinv hn
    have hb1 := h.2.2.1
    have hb2 := h.2.2.2
    refine r_iload_n dX8_firstFault_4 rfl 0 rfl ?_
    refine r_aload_n dX8_firstFault_5 rfl 2 rfl ?_
    refine r_callV (st := [.int (nI k)]) [] 0 0 dX8_firstFault_6 kX5_length nX5_length lRX8_72 h.1 rfl (c_X5_length h) rfl rfl (Nat.le_of_ble_eq_true rfl) (Nat.le_refl _) (Nat.le_refl _) (fun _ _ h => h.elim) ?_
    refine cx_det (st2 := [.int (nI len), .int (nI k)]) rfl ?_
    refine r_icmp_ge 69 dX8_firstFault_9 (by decide) (fun c_1 => ?_) (fun c_1 => ?_)
    · refine r_aload_n dX8_firstFault_69 rfl 2 rfl ?_
      refine r_callV (st := []) [] 0 0 dX8_firstFault_70 kX5_length nX5_length lRX8_72 h.1 rfl (c_X5_length h) rfl rfl (Nat.le_of_ble_eq_true rfl) (Nat.le_refl _) (Nat.le_refl _) (fun _ _ h => h.elim) ?_
      refine cx_det (st2 := [.int (nI len)]) rfl ?_
      refine r_if_eq 80 dX8_firstFault_73 (by decide) (fun c_2 => ?_) (fun c_2 => ?_)
      · refine r_aload_n dX8_firstFault_80 rfl 2 rfl ?_
        refine r_callV (st := []) [] 0 0 dX8_firstFault_81 kX5_length nX5_length lRX8_72 h.1 rfl (c_X5_length h) rfl rfl (Nat.le_of_ble_eq_true rfl) (Nat.le_refl _) (Nat.le_refl _) (fun _ _ h => h.elim) ?_
        refine cx_det (st2 := [.int (nI len)]) rfl ?_
        refine r_goto 88 dX8_firstFault_84 (by decide) ?_
        refine r_ireti dX8_firstFault_88 rfl ?_
        have hk : k = len := by have := ni_le (by omega) (by omega) c_1; omega
        have e9 : ffS f len = (if len = 0 then nI 0 else if cw f len = 0 then -1 else nI len) := by rw [← hinv.2.2, hk, Nat.sub_self]; rfl
        have hl0 : len = 0 := ni_eq (b := 0) (by omega) (by decide) c_2
        exact ⟨by rw [e9, if_pos hl0, hl0], rfl⟩
      · refine r_iload_n dX8_firstFault_76 rfl 1 rfl ?_
        refine r_if_eq 87 dX8_firstFault_77 (by decide) (fun c_3 => ?_) (fun c_3 => ?_)
        · refine r_iconst (v := (-1)) dX8_firstFault_87 (by decide) ?_
          refine r_ireti dX8_firstFault_88 rfl ?_
          have hk : k = len := by have := ni_le (by omega) (by omega) c_1; omega
          have e9 : ffS f len = (if len = 0 then nI 0 else if cw f len = 0 then -1 else nI len) := by rw [← hinv.2.2, hk, Nat.sub_self]; rfl
          have hl0 : len ≠ 0 := ni_ne (b := 0) (by omega) (by decide) c_2
          have hw0 : cw f len = 0 := by rw [← hk]; exact ni_eq (b := 0) (by omega) (by decide) c_3
          exact ⟨by rw [e9, if_neg hl0, if_pos hw0], rfl⟩
        · refine r_aload_n dX8_firstFault_80 rfl 2 rfl ?_
          refine r_callV (st := []) [] 0 0 dX8_firstFault_81 kX5_length nX5_length lRX8_72 h.1 rfl (c_X5_length h) rfl rfl (Nat.le_of_ble_eq_true rfl) (Nat.le_refl _) (Nat.le_refl _) (fun _ _ h => h.elim) ?_
          refine cx_det (st2 := [.int (nI len)]) rfl ?_
          refine r_goto 88 dX8_firstFault_84 (by decide) ?_
          refine r_ireti dX8_firstFault_88 rfl ?_
          have hk : k = len := by have := ni_le (by omega) (by omega) c_1; omega
          have e9 : ffS f len = (if len = 0 then nI 0 else if cw f len = 0 then -1 else nI len) := by rw [← hinv.2.2, hk, Nat.sub_self]; rfl
          have hl0 : len ≠ 0 := ni_ne (b := 0) (by omega) (by decide) c_2
          have hw0 : cw f len ≠ 0 := by rw [← hk]; exact ni_ne (b := 0) (by omega) (by decide) c_3
          exact ⟨by rw [e9, if_neg hl0, if_neg hw0], rfl⟩
    · have hk : k < len := ni_nle (by omega) (by omega) c_1
      have ha := c_X5_at_n (d := d + 1) (b0 := b0) h hf (k := k) (by omega)
      rw [show chr f len k = f k by unfold chr; rw [if_pos hk]] at ha
      have e0 : chr f len k = f k := by unfold chr; rw [if_pos hk]
      have es : ffI f len (len - k) = (if cw f (k + 1) = 5 then nI k else ffI f len (len - (k + 1))) := by
        have e9 : len - k = (len - (k + 1)) + 1 := by omega
        rw [e9]
        show (if cw f (len - (len - (k + 1))) = 5 then nI (len - (len - (k + 1) + 1)) else ffI f len (len - (k + 1))) = _
        rw [show len - (len - (k + 1)) = k + 1 by omega, show len - (len - (k + 1) + 1) = k by omega]
      have ec : cw f (k + 1) = cnx (cw f k) (f k) := by
        show (if cw f k = 5 then 5 else cnx (cw f k) (f k)) = _
        rw [if_neg (by omega)]
      refine r_aload_n dX8_firstFault_12 rfl 2 rfl ?_
      refine r_iload_n dX8_firstFault_13 rfl 0 rfl ?_
      refine r_callV (st := []) [.int (nI k)] 0 0 dX8_firstFault_14 kX5_at nX5_at lRX8_285 h.1 rfl ha rfl rfl (Nat.le_of_ble_eq_true rfl) (Nat.le_refl _) (Nat.le_refl _) (fun _ _ h => h.elim) ?_
      refine cx_det (st2 := [.int (f k)]) rfl ?_
      refine r_iload_n dX8_firstFault_17 rfl 1 rfl ?_
      refine r_callS (st := []) [.int (f k), .int (nI (cw f k))] 0 0 dX8_firstFault_18 kX8_canStand nX8_canStand lRX8_286 (c_X8_canStand (f k) (nI (cw f k))) rfl rfl (Nat.le_of_ble_eq_true rfl) (Nat.le_refl _) (Nat.le_refl _) (fun _ _ h => h.elim) ?_
      refine cx_det (st2 := [.int (s_X8_canStand (f k) (nI (cw f k)))]) rfl ?_
      refine r_if_ne 26 dX8_firstFault_21 (by decide) (fun c_4 => ?_) (fun c_4 => ?_)
      · refine r_iload_n dX8_firstFault_26 rfl 1 rfl ?_
        refine r_if_gt 40 dX8_firstFault_27 (by decide) (fun c_5 => ?_) (fun c_5 => ?_)
        · refine r_iconst (v := 1) dX8_firstFault_40 (by decide) ?_
          refine r_goto 45 dX8_firstFault_41 (by decide) ?_
          refine r_istore_n [(3, .int 1), (2, .int (nI k)), (1, .int (nI (cw f k))), (0, .ref a)] dX8_firstFault_45 rfl (by decide) rfl ?_
          refine r_iload_n dX8_firstFault_46 rfl 0 rfl ?_
          refine r_if_eq 61 dX8_firstFault_47 (by decide) (fun c_6 => absurd c_6 (by decide)) (fun c_6 => ?_)
          refine r_iload_n dX8_firstFault_50 rfl 2 rfl ?_
          refine r_iconst (v := 4) dX8_firstFault_51 (by decide) ?_
          refine r_icmp_ge 61 dX8_firstFault_52 (by decide) (fun c_7 => ?_) (fun c_7 => ?_)
          · refine r_iconst (v := nI 0) dX8_firstFault_61 (by decide) ?_
            refine r_istore_n [(1, .int (nI 0)), (3, .int 1), (2, .int (nI k)), (0, .ref a)] dX8_firstFault_62 rfl (by decide) rfl ?_
            refine r_iinc (nI (k + 1)) [(2, .int (nI (k + 1))), (1, .int (nI 0)), (3, .int 1), (0, .ref a)] dX8_firstFault_63 2 rfl (nI_1 k) (by decide) rfl ?_
            refine r_goto 4 dX8_firstFault_66 (by decide) ?_
            have e5 : ¬ s_X8_canStand (f k) (nI (cw f k)) = 0 := c_4
            have en : cw f (k + 1) = (if (decide (0 < cw f k) || decide (f k = 91)) && decide (cw f k < 4) then cw f k + 1 else 0) := by
              rw [ec]; unfold cnx; rw [if_neg e5]
            have g1 : 0 < cw f k := ni_lt (a := 0) (by decide) (by omega) c_5
            have g4 : ¬ cw f k < 4 := by have := ni_le (a := 4) (by decide) (by omega) c_7; omega
            have e6 : cw f (k + 1) = 0 := by rw [en, decide_eq_true g1, decide_eq_false g4]; simp
            have hh := ih (k + 1) ⟨by omega, by omega, by rw [← hinv.2.2, es, if_neg (by omega)]⟩ (by omega)
            rw [e6] at hh
            exact WP.loc [0, 1, 3] rfl hh
          · refine r_iload_n dX8_firstFault_55 rfl 2 rfl ?_
            refine r_iconst (v := 1) dX8_firstFault_56 (by decide) ?_
            refine r_iadd dX8_firstFault_57 ?_
            refine r_top (nI (cw f k + 1)) (nI_1 _) ?_
            refine r_goto 62 dX8_firstFault_58 (by decide) ?_
            refine r_istore_n [(1, .int (nI (cw f k + 1))), (3, .int 1), (2, .int (nI k)), (0, .ref a)] dX8_firstFault_62 rfl (by decide) rfl ?_
            refine r_iinc (nI (k + 1)) [(2, .int (nI (k + 1))), (1, .int (nI (cw f k + 1))), (3, .int 1), (0, .ref a)] dX8_firstFault_63 2 rfl (nI_1 k) (by decide) rfl ?_
            refine r_goto 4 dX8_firstFault_66 (by decide) ?_
            have e5 : ¬ s_X8_canStand (f k) (nI (cw f k)) = 0 := c_4
            have en : cw f (k + 1) = (if (decide (0 < cw f k) || decide (f k = 91)) && decide (cw f k < 4) then cw f k + 1 else 0) := by
              rw [ec]; unfold cnx; rw [if_neg e5]
            have g1 : 0 < cw f k := ni_lt (a := 0) (by decide) (by omega) c_5
            have g4 : cw f k < 4 := ni_nle (a := 4) (by decide) (by omega) c_7
            have e6 : cw f (k + 1) = cw f k + 1 := by rw [en, decide_eq_true g1, decide_eq_true g4]; simp
            have hh := ih (k + 1) ⟨by omega, by omega, by rw [← hinv.2.2, es, if_neg (by omega)]⟩ (by omega)
            rw [e6] at hh
            exact WP.loc [0, 1, 3] rfl hh
        · refine r_aload_n dX8_firstFault_30 rfl 2 rfl ?_
          refine r_iload_n dX8_firstFault_31 rfl 0 rfl ?_
          refine r_callV (st := []) [.int (nI k)] 0 0 dX8_firstFault_32 kX5_at nX5_at lRX8_285 h.1 rfl ha rfl rfl (Nat.le_of_ble_eq_true rfl) (Nat.le_refl _) (Nat.le_refl _) (fun _ _ h => h.elim) ?_
          refine cx_det (st2 := [.int (f k)]) rfl ?_
          refine r_bipush (v := 91) dX8_firstFault_35 (by decide) ?_
          refine r_icmp_ne 44 dX8_firstFault_37 (by decide) (fun c_10 => ?_) (fun c_10 => ?_)
          · refine r_iconst (v := 0) dX8_firstFault_44 (by decide) ?_
            refine r_istore_n [(3, .int 0), (2, .int (nI k)), (1, .int (nI (cw f k))), (0, .ref a)] dX8_firstFault_45 rfl (by decide) rfl ?_
            refine r_iload_n dX8_firstFault_46 rfl 0 rfl ?_
            refine r_if_eq 61 dX8_firstFault_47 (by decide) (fun c_11 => ?_) (fun c_11 => absurd (by decide) c_11)
            refine r_iconst (v := nI 0) dX8_firstFault_61 (by decide) ?_
            refine r_istore_n [(1, .int (nI 0)), (3, .int 0), (2, .int (nI k)), (0, .ref a)] dX8_firstFault_62 rfl (by decide) rfl ?_
            refine r_iinc (nI (k + 1)) [(2, .int (nI (k + 1))), (1, .int (nI 0)), (3, .int 0), (0, .ref a)] dX8_firstFault_63 2 rfl (nI_1 k) (by decide) rfl ?_
            refine r_goto 4 dX8_firstFault_66 (by decide) ?_
            have e5 : ¬ s_X8_canStand (f k) (nI (cw f k)) = 0 := c_4
            have en : cw f (k + 1) = (if (decide (0 < cw f k) || decide (f k = 91)) && decide (cw f k < 4) then cw f k + 1 else 0) := by
              rw [ec]; unfold cnx; rw [if_neg e5]
            have g1 : ¬ 0 < cw f k := fun q => c_5 ((nI_ltI (by decide) (by omega)).mpr q)
            have e6 : cw f (k + 1) = 0 := by rw [en, decide_eq_false g1, decide_eq_false c_10]; simp
            have hh := ih (k + 1) ⟨by omega, by omega, by rw [← hinv.2.2, es, if_neg (by omega)]⟩ (by omega)
            rw [e6] at hh
            exact WP.loc [0, 1, 3] rfl hh
          · refine r_iconst (v := 1) dX8_firstFault_40 (by decide) ?_
            refine r_goto 45 dX8_firstFault_41 (by decide) ?_
            refine r_istore_n [(3, .int 1), (2, .int (nI k)), (1, .int (nI (cw f k))), (0, .ref a)] dX8_firstFault_45 rfl (by decide) rfl ?_
            refine r_iload_n dX8_firstFault_46 rfl 0 rfl ?_
            refine r_if_eq 61 dX8_firstFault_47 (by decide) (fun c_13 => absurd c_13 (by decide)) (fun c_13 => ?_)
            refine r_iload_n dX8_firstFault_50 rfl 2 rfl ?_
            refine r_iconst (v := 4) dX8_firstFault_51 (by decide) ?_
            refine r_icmp_ge 61 dX8_firstFault_52 (by decide) (fun c_14 => ?_) (fun c_14 => ?_)
            · refine r_iconst (v := nI 0) dX8_firstFault_61 (by decide) ?_
              refine r_istore_n [(1, .int (nI 0)), (3, .int 1), (2, .int (nI k)), (0, .ref a)] dX8_firstFault_62 rfl (by decide) rfl ?_
              refine r_iinc (nI (k + 1)) [(2, .int (nI (k + 1))), (1, .int (nI 0)), (3, .int 1), (0, .ref a)] dX8_firstFault_63 2 rfl (nI_1 k) (by decide) rfl ?_
              refine r_goto 4 dX8_firstFault_66 (by decide) ?_
              have e5 : ¬ s_X8_canStand (f k) (nI (cw f k)) = 0 := c_4
              have en : cw f (k + 1) = (if (decide (0 < cw f k) || decide (f k = 91)) && decide (cw f k < 4) then cw f k + 1 else 0) := by
                rw [ec]; unfold cnx; rw [if_neg e5]
              have g1 : ¬ 0 < cw f k := fun q => c_5 ((nI_ltI (by decide) (by omega)).mpr q)
              have g4 : ¬ cw f k < 4 := by have := ni_le (a := 4) (by decide) (by omega) c_14; omega
              have e6 : cw f (k + 1) = 0 := by rw [en, decide_eq_false g1, decide_eq_true c_10, decide_eq_false g4]; simp
              have hh := ih (k + 1) ⟨by omega, by omega, by rw [← hinv.2.2, es, if_neg (by omega)]⟩ (by omega)
              rw [e6] at hh
              exact WP.loc [0, 1, 3] rfl hh
            · refine r_iload_n dX8_firstFault_55 rfl 2 rfl ?_
              refine r_iconst (v := 1) dX8_firstFault_56 (by decide) ?_
              refine r_iadd dX8_firstFault_57 ?_
              refine r_top (nI (cw f k + 1)) (nI_1 _) ?_
              refine r_goto 62 dX8_firstFault_58 (by decide) ?_
              refine r_istore_n [(1, .int (nI (cw f k + 1))), (3, .int 1), (2, .int (nI k)), (0, .ref a)] dX8_firstFault_62 rfl (by decide) rfl ?_
              refine r_iinc (nI (k + 1)) [(2, .int (nI (k + 1))), (1, .int (nI (cw f k + 1))), (3, .int 1), (0, .ref a)] dX8_firstFault_63 2 rfl (nI_1 k) (by decide) rfl ?_
              refine r_goto 4 dX8_firstFault_66 (by decide) ?_
              have e5 : ¬ s_X8_canStand (f k) (nI (cw f k)) = 0 := c_4
              have en : cw f (k + 1) = (if (decide (0 < cw f k) || decide (f k = 91)) && decide (cw f k < 4) then cw f k + 1 else 0) := by
                rw [ec]; unfold cnx; rw [if_neg e5]
              have g1 : ¬ 0 < cw f k := fun q => c_5 ((nI_ltI (by decide) (by omega)).mpr q)
              have g4 : cw f k < 4 := ni_nle (a := 4) (by decide) (by omega) c_14
              have e6 : cw f (k + 1) = cw f k + 1 := by rw [en, decide_eq_false g1, decide_eq_true c_10, decide_eq_true g4]; simp
              have hh := ih (k + 1) ⟨by omega, by omega, by rw [← hinv.2.2, es, if_neg (by omega)]⟩ (by omega)
              rw [e6] at hh
              exact WP.loc [0, 1, 3] rfl hh
      · refine r_iload_n dX8_firstFault_24 rfl 0 rfl ?_
        refine r_ireti dX8_firstFault_25 rfl ?_
        have e5 : cw f (k + 1) = 5 := by rw [ec]; unfold cnx; rw [if_pos c_4]
        exact ⟨by rw [← hinv.2.2, es, if_pos e5], rfl⟩
set_option maxRecDepth 100000 in
set_option maxHeartbeats 4000000 in
theorem c_X8_firstFault {d b0 : Nat} {G : GH} {a arr cap len : Nat} {f : Nat → Int32} (h : SG G a arr cap len f) (hf : ∀ k, k < len → isC (f k)) : CTd mX8_firstFault (d + 2) b0 G [.ref a] 0 0 (some (.int (ffS f len))) G := by
  refine CT.intro (by decide +kernel) rfl (Nat.le_of_ble_eq_true rfl) ?_
  show WP mX8_firstFault _ _ _ _ _ 0 0 0 [(0, .ref a)] []
  refine r_iconst (v := nI (cw f 0)) dX8_firstFault_0 (by first | rfl | decide) ?_
  refine r_istore_n [(1, .int (nI (cw f 0))), (0, .ref a)] dX8_firstFault_1 rfl (by decide) rfl ?_
  refine r_iconst (v := nI 0) dX8_firstFault_2 (by first | rfl | decide) ?_
  refine r_istore_n [(2, .int (nI 0)), (1, .int (nI (cw f 0))), (0, .ref a)] dX8_firstFault_3 rfl (by decide) rfl ?_
  exact lp_X8_firstFault h hf (len + 1) 0 ⟨Nat.zero_le _, Nat.zero_le _, rfl⟩ (by omega)
