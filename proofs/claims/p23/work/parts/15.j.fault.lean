theorem b2i_1 {b : Bool} (h : b2i b = 1) : b = true := by cases b with
  | true => rfl
  | false => exact absurd h (by decide)
theorem b2i_0 {b : Bool} (h : b2i b = 0) : b = false := by cases b with
  | false => rfl
  | true => exact absurd h (by decide)
theorem b2i_n0 {b : Bool} (h : ¬ b2i b = 0) : b = true := by cases b with
  | true => rfl
  | false => exact absurd b2i_f h
theorem b2i_n1 {b : Bool} (h : ¬ b2i b = 1) : b = false := by cases b with
  | false => rfl
  | true => exact absurd b2i_t h
/-- the data t meet the condition of the clause c -/
def meI (A : ST) (t c : Nat) : Int32 := s_X1_meets (nI (A 20 t)) (nI (A 10 c) - 1)
def meB (A : ST) (t c : Nat) : Bool := !(decide (meI A t c = 0))
theorem meI_b (A : ST) (t c : Nat) : meI A t c = b2i (meB A t c) := by
  unfold meB meI s_X1_meets
  split
  · rfl
  · split <;> rfl
theorem c_meets {d b0 : Nat} {G : GH} {A B : ST} {ad : AD} (hW : World A B ad G) {t : Nat} (ht : t < A 18 0) (c : Nat) : CTd mX1_meets d b0 G [.ref (ad 29 t), .int (nI (A 10 c) - 1)] 0 0 (some (.int (b2i (meB A t c)))) G := by
  rw [← meI_b]
  exact c_X1_meets (dt29 hW ht) _
/-- the letter l has the clause o -/
def hlB (A : ST) (l o : Nat) : Bool := hsB (rg A 16 (6 * l) 6) (A 17 l) (nI o)
def isB (A : ST) (l t o : Nat) : Bool := hlB A l o && meB A t o
set_option maxRecDepth 100000 in
set_option maxHeartbeats 4000000 in
theorem c_X8_isIn {d b0 : Nat} {G : GH} {A B : ST} {ad : AD} (hW : World A B ad G) (hI : Inv A) {l t : Nat} (hl : l < A 15 0) (ht : t < A 18 0) {o : Nat} (ho : o < A 9 0) : CTd mX8_isIn (d + 3) b0 G [.ref (ad 0 0), .ref (ad 27 l), .ref (ad 29 t), .int (nI o)] 0 0 (some (.int (b2i (isB A l t o)))) G := by
  have hb0 := hI.b0
  have hb2 := hI.b2
  have hb9 := hI.b9
  have hb15 := hI.b15
  have hb18 := hI.b18
  refine CT.intro (by decide +kernel) rfl (Nat.le_of_ble_eq_true rfl) ?_
  show WP mX8_isIn _ _ _ _ _ 0 0 0 [(0, .ref (ad 0 0)), (1, .ref (ad 27 l)), (2, .ref (ad 29 t)), (3, .int (nI o))] []
  refine r_aload_n dX8_isIn_0 rfl 0 rfl ?_
  refine r_iload_n dX8_isIn_1 rfl 3 rfl ?_
  refine r_callV (st := []) [.int (nI o)] 0 0 dX8_isIn_2 kX8_clauseAt nX8_clauseAt lRX8_163 (hW.g 0 0 rfl) rfl (c_X8_clauseAt_t hW hI ho) rfl rfl (Nat.le_of_ble_eq_true rfl) (Nat.le_refl _) (Nat.le_refl _) (fun _ _ h => h.elim) ?_
  refine cx_det (st2 := [.ref (ad 21 o)]) rfl ?_
  refine r_astore [(4, .ref (ad 21 o)), (0, .ref (ad 0 0)), (1, .ref (ad 27 l)), (2, .ref (ad 29 t)), (3, .int (nI o))] dX8_isIn_5 (by decide) rfl ?_
  refine r_aload dX8_isIn_7 0 rfl ?_
  refine r_ifnullR dX8_isIn_9 ?_
  refine r_aload_n dX8_isIn_12 rfl 2 rfl ?_
  refine r_iload_n dX8_isIn_13 rfl 4 rfl ?_
  refine r_callV (st := []) [.int (nI o)] 0 0 dX8_isIn_14 kX2_has nX2_has lRX8_194 (hW.g 27 l hl) rfl (c_X2_has (lt27 hW hI hl) (nI o)) rfl rfl (Nat.le_of_ble_eq_true rfl) (Nat.le_refl _) (Nat.le_refl _) (fun _ _ h => h.elim) ?_
  refine cx_det (st2 := [.int (b2i (hlB A l o))]) rfl ?_
  refine r_if_eq 36 dX8_isIn_17 (by decide) (fun c_1 => ?_) (fun c_1 => ?_)
  · refine r_iconst (v := 0) dX8_isIn_36 (by decide) ?_
    refine r_ret .boolean dX8_isIn_37 rfl rfl ?_
    have x1 : hlB A l o = false := b2i_0 c_1
    exact ⟨by unfold isB; rw [x1]; rfl, rfl⟩
  · refine r_aload_n dX8_isIn_20 rfl 3 rfl ?_
    refine r_aload dX8_isIn_21 0 rfl ?_
    refine r_callV (st := [.ref (ad 29 t)]) [] 0 0 dX8_isIn_23 kX0_condition nX0_condition lRX8_300 (hW.g 21 o ho) rfl (c_X0_condition hW hI ho) rfl rfl (Nat.le_of_ble_eq_true rfl) (Nat.le_refl _) (Nat.le_refl _) (fun _ _ h => h.elim) ?_
    refine cx_det (st2 := [.int (nI (A 10 o) - 1), .ref (ad 29 t)]) rfl ?_
    refine r_callV (st := []) [.int (nI (A 10 o) - 1)] 0 0 dX8_isIn_26 kX1_meets nX1_meets lRX8_303 (hW.g 29 t ht) rfl (c_meets hW ht o) rfl rfl (Nat.le_of_ble_eq_true rfl) (Nat.le_refl _) (Nat.le_refl _) (fun _ _ h => h.elim) ?_
    refine cx_det (st2 := [.int (b2i (meB A t o))]) rfl ?_
    refine r_if_eq 36 dX8_isIn_29 (by decide) (fun c_2 => ?_) (fun c_2 => ?_)
    · refine r_iconst (v := 0) dX8_isIn_36 (by decide) ?_
      refine r_ret .boolean dX8_isIn_37 rfl rfl ?_
      have x1 : hlB A l o = true := b2i_n0 c_1
      have x2 : meB A t o = false := b2i_0 c_2
      exact ⟨by unfold isB; rw [x1, x2]; rfl, rfl⟩
    · refine r_iconst (v := 1) dX8_isIn_32 (by decide) ?_
      refine r_goto 37 dX8_isIn_33 (by decide) ?_
      refine r_ret .boolean dX8_isIn_37 rfl rfl ?_
      have x1 : hlB A l o = true := b2i_n0 c_1
      have x2 : meB A t o = true := b2i_n0 c_2
      exact ⟨by unfold isB; rw [x1, x2]; rfl, rfl⟩
def rlP (A : ST) (l t c k h o : Nat) : Bool := decide (nI (A 14 (100 * k + 10 * c + o)) = nI h) && (isB A l t o == decide (h = 2))
def rlB (A : ST) (l t c k h : Nat) : Bool := !(allB (fun o => !(rlP A l t c k h o)) (A 9 0))
set_option maxRecDepth 100000 in
set_option maxHeartbeats 4000000 in
theorem lp_X8_isRelated_1 {d b0 : Nat} {G : GH} {A B : ST} {ad : AD} (hW : World A B ad G) (hI : Inv A) {l t : Nat} (hl : l < A 15 0) (ht : t < A 18 0) {c k : Nat} (hc : c < A 9 0) (hk : k < 4) : ∀ (fu : Nat) (o : Nat), o ≤ A 9 0 ∧ (∀ j, j < o → (!(rlP A l t c k 1 j)) = true) → A 9 0 - o < fu → WP mX8_isRelated (d + 4) b0 (fun r G' => r = some (.int (b2i (rlB A l t c k 1))) ∧ G' = G) (fun _ _ => False) G 0 0 10 [(7, .int (nI o)), (6, .ref (ad 21 c)), (0, .ref (ad 0 0)), (1, .ref (ad 27 l)), (2, .ref (ad 29 t)), (3, .int (nI c)), (4, .int (nI k)), (5, .int 1)] [] := by
  intro fu
  induction fu with
  | zero => intro o hinv hn; exact absurd hn (Nat.not_lt_zero _)
  | succ fu ih =>
    intro o hinv hn
    have hb9 := hI.b9
    refine r_aload dX8_isRelated_10 1 rfl ?_
    refine r_ifnullR dX8_isRelated_12 ?_
    refine r_iload dX8_isRelated_15 0 rfl ?_
    refine r_aload_n dX8_isRelated_17 rfl 2 rfl ?_
    refine r_get 8 dX8_isRelated_18 fRX8_124 (hW.g 0 0 rfl) rfl ?_
    refine r_icmp_ge 68 dX8_isRelated_21 (by decide) (fun c_1 => ?_) (fun c_1 => ?_)
    · refine r_iconst (v := 0) dX8_isRelated_68 (by decide) ?_
      refine r_ret .boolean dX8_isRelated_69 rfl rfl ?_
      have ho : A 9 0 ≤ o := ni_le (by omega) (by omega) c_1
      exact ⟨by unfold rlB; rw [(allB_iff _ _).mpr (fun j hj => hinv.2 j (by omega))]; rfl, rfl⟩
    · have ho : o < A 9 0 := ni_nle (by omega) (by omega) c_1
      refine r_aload dX8_isRelated_24 1 rfl ?_
      refine r_iload dX8_isRelated_26 0 rfl ?_
      refine r_iload dX8_isRelated_28 6 rfl ?_
      refine r_callV (st := []) [.int (nI o), .int (nI k)] 0 0 dX8_isRelated_30 kX0_how nX0_how lRX8_171 (hW.g 21 c hc) rfl (c_X0_how hW hI hc (show o < 10 by omega) hk) rfl rfl (Nat.le_of_ble_eq_true rfl) (Nat.le_refl _) (Nat.le_refl _) (fun _ _ h => h.elim) ?_
      refine cx_det (st2 := [.int (nI (A 14 (100 * k + 10 * c + o)))]) rfl ?_
      refine r_iload dX8_isRelated_33 7 rfl ?_
      refine r_icmp_ne 62 dX8_isRelated_35 (by decide) (fun c_2 => ?_) (fun c_2 => ?_)
      · refine r_iinc (nI (o + 1)) [(7, .int (nI (o + 1))), (6, .ref (ad 21 c)), (0, .ref (ad 0 0)), (1, .ref (ad 27 l)), (2, .ref (ad 29 t)), (3, .int (nI c)), (4, .int (nI k)), (5, .int 1)] dX8_isRelated_62 0 rfl (nI_1 o) (by decide) rfl ?_
        refine r_goto 10 dX8_isRelated_65 (by decide) ?_
        have hp : rlP A l t c k 1 o = false := by unfold rlP; rw [decide_eq_false (show ¬ nI (A 14 (100 * k + 10 * c + o)) = nI 1 from c_2)]; rfl
        exact WP.loc [0, 1, 2, 3, 4, 5, 6, 7] rfl (ih (o + 1) ⟨by omega, fun j hj => by
          rcases Nat.lt_or_ge j o with q | q
          · exact hinv.2 j q
          · rw [show j = o by omega, hp]; rfl⟩ (by omega))
      · refine r_aload_n dX8_isRelated_38 rfl 2 rfl ?_
        refine r_aload_n dX8_isRelated_39 rfl 3 rfl ?_
        refine r_aload_n dX8_isRelated_40 rfl 4 rfl ?_
        refine r_iload dX8_isRelated_41 0 rfl ?_
        refine r_callV (st := []) [.ref (ad 27 l), .ref (ad 29 t), .int (nI o)] 0 0 dX8_isRelated_43 kX8_isIn nX8_isIn lRX8_238 (hW.g 0 0 rfl) rfl (c_X8_isIn hW hI hl ht ho) rfl rfl (Nat.le_of_ble_eq_true rfl) (Nat.le_refl _) (Nat.le_refl _) (fun _ _ h => h.elim) ?_
        refine cx_det (st2 := [.int (b2i (isB A l t o))]) rfl ?_
        refine r_iload dX8_isRelated_46 7 rfl ?_
        refine r_iconst (v := 2) dX8_isRelated_48 (by decide) ?_
        refine r_icmp_ne 56 dX8_isRelated_49 (by decide) (fun c_3 => ?_) (fun c_3 => absurd c_3 (by decide))
        refine r_iconst (v := 0) dX8_isRelated_56 (by decide) ?_
        refine r_icmp_ne 62 dX8_isRelated_57 (by decide) (fun c_4 => ?_) (fun c_4 => ?_)
        · refine r_iinc (nI (o + 1)) [(7, .int (nI (o + 1))), (6, .ref (ad 21 c)), (0, .ref (ad 0 0)), (1, .ref (ad 27 l)), (2, .ref (ad 29 t)), (3, .int (nI c)), (4, .int (nI k)), (5, .int 1)] dX8_isRelated_62 0 rfl (nI_1 o) (by decide) rfl ?_
          refine r_goto 10 dX8_isRelated_65 (by decide) ?_
          have hb : isB A l t o = true := b2i_n0 c_4
          have hp : rlP A l t c k 1 o = false := by unfold rlP; rw [decide_eq_true (show nI (A 14 (100 * k + 10 * c + o)) = nI 1 from c_2), hb]; rfl
          exact WP.loc [0, 1, 2, 3, 4, 5, 6, 7] rfl (ih (o + 1) ⟨by omega, fun j hj => by
            rcases Nat.lt_or_ge j o with q | q
            · exact hinv.2 j q
            · rw [show j = o by omega, hp]; rfl⟩ (by omega))
        · refine r_iconst (v := 1) dX8_isRelated_60 (by decide) ?_
          refine r_ret .boolean dX8_isRelated_61 rfl rfl ?_
          have hb : isB A l t o = false := b2i_0 c_4
          have hp : rlP A l t c k 1 o = true := by unfold rlP; rw [decide_eq_true (show nI (A 14 (100 * k + 10 * c + o)) = nI 1 from c_2), hb]; rfl
          exact ⟨by unfold rlB; rw [allB_no ho (by rw [hp]; rfl)]; rfl, rfl⟩
set_option maxRecDepth 100000 in
set_option maxHeartbeats 4000000 in
theorem c_X8_isRelated_1 {d b0 : Nat} {G : GH} {A B : ST} {ad : AD} (hW : World A B ad G) (hI : Inv A) {l t : Nat} (hl : l < A 15 0) (ht : t < A 18 0) {c k : Nat} (hc : c < A 9 0) (hk : k < 4) : CTd mX8_isRelated (d + 4) b0 G [.ref (ad 0 0), .ref (ad 27 l), .ref (ad 29 t), .int (nI c), .int (nI k), .int 1] 0 0 (some (.int (b2i (rlB A l t c k 1)))) G := by
  have hb0 := hI.b0
  have hb2 := hI.b2
  have hb9 := hI.b9
  have hb15 := hI.b15
  have hb18 := hI.b18
  refine CT.intro (by decide +kernel) rfl (Nat.le_of_ble_eq_true rfl) ?_
  show WP mX8_isRelated _ _ _ _ _ 0 0 0 [(0, .ref (ad 0 0)), (1, .ref (ad 27 l)), (2, .ref (ad 29 t)), (3, .int (nI c)), (4, .int (nI k)), (5, .int 1)] []
  refine r_aload_n dX8_isRelated_0 rfl 0 rfl ?_
  refine r_iload_n dX8_isRelated_1 rfl 3 rfl ?_
  refine r_callV (st := []) [.int (nI c)] 0 0 dX8_isRelated_2 kX8_clauseAt nX8_clauseAt lRX8_163 (hW.g 0 0 rfl) rfl (c_X8_clauseAt_t hW hI hc) rfl rfl (Nat.le_of_ble_eq_true rfl) (Nat.le_refl _) (Nat.le_refl _) (fun _ _ h => h.elim) ?_
  refine cx_det (st2 := [.ref (ad 21 c)]) rfl ?_
  refine r_astore [(6, .ref (ad 21 c)), (0, .ref (ad 0 0)), (1, .ref (ad 27 l)), (2, .ref (ad 29 t)), (3, .int (nI c)), (4, .int (nI k)), (5, .int 1)] dX8_isRelated_5 (by decide) rfl ?_
  refine r_iconst (v := nI 0) dX8_isRelated_7 (by decide) ?_
  refine r_istore [(7, .int (nI 0)), (6, .ref (ad 21 c)), (0, .ref (ad 0 0)), (1, .ref (ad 27 l)), (2, .ref (ad 29 t)), (3, .int (nI c)), (4, .int (nI k)), (5, .int 1)] dX8_isRelated_8 (by decide) rfl ?_
  exact lp_X8_isRelated_1 hW hI hl ht hc hk (A 9 0 + 1) 0 ⟨Nat.zero_le _, fun j hj => absurd hj (Nat.not_lt_zero j)⟩ (by omega)
set_option maxRecDepth 100000 in
set_option maxHeartbeats 4000000 in
theorem lp_X8_isRelated_2 {d b0 : Nat} {G : GH} {A B : ST} {ad : AD} (hW : World A B ad G) (hI : Inv A) {l t : Nat} (hl : l < A 15 0) (ht : t < A 18 0) {c k : Nat} (hc : c < A 9 0) (hk : k < 4) : ∀ (fu : Nat) (o : Nat), o ≤ A 9 0 ∧ (∀ j, j < o → (!(rlP A l t c k 2 j)) = true) → A 9 0 - o < fu → WP mX8_isRelated (d + 4) b0 (fun r G' => r = some (.int (b2i (rlB A l t c k 2))) ∧ G' = G) (fun _ _ => False) G 0 0 10 [(7, .int (nI o)), (6, .ref (ad 21 c)), (0, .ref (ad 0 0)), (1, .ref (ad 27 l)), (2, .ref (ad 29 t)), (3, .int (nI c)), (4, .int (nI k)), (5, .int 2)] [] := by
  intro fu
  induction fu with
  | zero => intro o hinv hn; exact absurd hn (Nat.not_lt_zero _)
  | succ fu ih =>
    intro o hinv hn
    have hb9 := hI.b9
    refine r_aload dX8_isRelated_10 1 rfl ?_
    refine r_ifnullR dX8_isRelated_12 ?_
    refine r_iload dX8_isRelated_15 0 rfl ?_
    refine r_aload_n dX8_isRelated_17 rfl 2 rfl ?_
    refine r_get 8 dX8_isRelated_18 fRX8_124 (hW.g 0 0 rfl) rfl ?_
    refine r_icmp_ge 68 dX8_isRelated_21 (by decide) (fun c_1 => ?_) (fun c_1 => ?_)
    · refine r_iconst (v := 0) dX8_isRelated_68 (by decide) ?_
      refine r_ret .boolean dX8_isRelated_69 rfl rfl ?_
      have ho : A 9 0 ≤ o := ni_le (by omega) (by omega) c_1
      exact ⟨by unfold rlB; rw [(allB_iff _ _).mpr (fun j hj => hinv.2 j (by omega))]; rfl, rfl⟩
    · have ho : o < A 9 0 := ni_nle (by omega) (by omega) c_1
      refine r_aload dX8_isRelated_24 1 rfl ?_
      refine r_iload dX8_isRelated_26 0 rfl ?_
      refine r_iload dX8_isRelated_28 6 rfl ?_
      refine r_callV (st := []) [.int (nI o), .int (nI k)] 0 0 dX8_isRelated_30 kX0_how nX0_how lRX8_171 (hW.g 21 c hc) rfl (c_X0_how hW hI hc (show o < 10 by omega) hk) rfl rfl (Nat.le_of_ble_eq_true rfl) (Nat.le_refl _) (Nat.le_refl _) (fun _ _ h => h.elim) ?_
      refine cx_det (st2 := [.int (nI (A 14 (100 * k + 10 * c + o)))]) rfl ?_
      refine r_iload dX8_isRelated_33 7 rfl ?_
      refine r_icmp_ne 62 dX8_isRelated_35 (by decide) (fun c_2 => ?_) (fun c_2 => ?_)
      · refine r_iinc (nI (o + 1)) [(7, .int (nI (o + 1))), (6, .ref (ad 21 c)), (0, .ref (ad 0 0)), (1, .ref (ad 27 l)), (2, .ref (ad 29 t)), (3, .int (nI c)), (4, .int (nI k)), (5, .int 2)] dX8_isRelated_62 0 rfl (nI_1 o) (by decide) rfl ?_
        refine r_goto 10 dX8_isRelated_65 (by decide) ?_
        have hp : rlP A l t c k 2 o = false := by unfold rlP; rw [decide_eq_false (show ¬ nI (A 14 (100 * k + 10 * c + o)) = nI 2 from c_2)]; rfl
        exact WP.loc [0, 1, 2, 3, 4, 5, 6, 7] rfl (ih (o + 1) ⟨by omega, fun j hj => by
          rcases Nat.lt_or_ge j o with q | q
          · exact hinv.2 j q
          · rw [show j = o by omega, hp]; rfl⟩ (by omega))
      · refine r_aload_n dX8_isRelated_38 rfl 2 rfl ?_
        refine r_aload_n dX8_isRelated_39 rfl 3 rfl ?_
        refine r_aload_n dX8_isRelated_40 rfl 4 rfl ?_
        refine r_iload dX8_isRelated_41 0 rfl ?_
        refine r_callV (st := []) [.ref (ad 27 l), .ref (ad 29 t), .int (nI o)] 0 0 dX8_isRelated_43 kX8_isIn nX8_isIn lRX8_238 (hW.g 0 0 rfl) rfl (c_X8_isIn hW hI hl ht ho) rfl rfl (Nat.le_of_ble_eq_true rfl) (Nat.le_refl _) (Nat.le_refl _) (fun _ _ h => h.elim) ?_
        refine cx_det (st2 := [.int (b2i (isB A l t o))]) rfl ?_
        refine r_iload dX8_isRelated_46 7 rfl ?_
        refine r_iconst (v := 2) dX8_isRelated_48 (by decide) ?_
        refine r_icmp_ne 56 dX8_isRelated_49 (by decide) (fun c_3 => absurd (by decide) c_3) (fun c_3 => ?_)
        refine r_iconst (v := 1) dX8_isRelated_52 (by decide) ?_
        refine r_goto 57 dX8_isRelated_53 (by decide) ?_
        refine r_icmp_ne 62 dX8_isRelated_57 (by decide) (fun c_4 => ?_) (fun c_4 => ?_)
        · refine r_iinc (nI (o + 1)) [(7, .int (nI (o + 1))), (6, .ref (ad 21 c)), (0, .ref (ad 0 0)), (1, .ref (ad 27 l)), (2, .ref (ad 29 t)), (3, .int (nI c)), (4, .int (nI k)), (5, .int 2)] dX8_isRelated_62 0 rfl (nI_1 o) (by decide) rfl ?_
          refine r_goto 10 dX8_isRelated_65 (by decide) ?_
          have hb : isB A l t o = false := b2i_n1 c_4
          have hp : rlP A l t c k 2 o = false := by unfold rlP; rw [decide_eq_true (show nI (A 14 (100 * k + 10 * c + o)) = nI 2 from c_2), hb]; rfl
          exact WP.loc [0, 1, 2, 3, 4, 5, 6, 7] rfl (ih (o + 1) ⟨by omega, fun j hj => by
            rcases Nat.lt_or_ge j o with q | q
            · exact hinv.2 j q
            · rw [show j = o by omega, hp]; rfl⟩ (by omega))
        · refine r_iconst (v := 1) dX8_isRelated_60 (by decide) ?_
          refine r_ret .boolean dX8_isRelated_61 rfl rfl ?_
          have hb : isB A l t o = true := b2i_1 c_4
          have hp : rlP A l t c k 2 o = true := by unfold rlP; rw [decide_eq_true (show nI (A 14 (100 * k + 10 * c + o)) = nI 2 from c_2), hb]; rfl
          exact ⟨by unfold rlB; rw [allB_no ho (by rw [hp]; rfl)]; rfl, rfl⟩
set_option maxRecDepth 100000 in
set_option maxHeartbeats 4000000 in
theorem c_X8_isRelated_2 {d b0 : Nat} {G : GH} {A B : ST} {ad : AD} (hW : World A B ad G) (hI : Inv A) {l t : Nat} (hl : l < A 15 0) (ht : t < A 18 0) {c k : Nat} (hc : c < A 9 0) (hk : k < 4) : CTd mX8_isRelated (d + 4) b0 G [.ref (ad 0 0), .ref (ad 27 l), .ref (ad 29 t), .int (nI c), .int (nI k), .int 2] 0 0 (some (.int (b2i (rlB A l t c k 2)))) G := by
  have hb0 := hI.b0
  have hb2 := hI.b2
  have hb9 := hI.b9
  have hb15 := hI.b15
  have hb18 := hI.b18
  refine CT.intro (by decide +kernel) rfl (Nat.le_of_ble_eq_true rfl) ?_
  show WP mX8_isRelated _ _ _ _ _ 0 0 0 [(0, .ref (ad 0 0)), (1, .ref (ad 27 l)), (2, .ref (ad 29 t)), (3, .int (nI c)), (4, .int (nI k)), (5, .int 2)] []
  refine r_aload_n dX8_isRelated_0 rfl 0 rfl ?_
  refine r_iload_n dX8_isRelated_1 rfl 3 rfl ?_
  refine r_callV (st := []) [.int (nI c)] 0 0 dX8_isRelated_2 kX8_clauseAt nX8_clauseAt lRX8_163 (hW.g 0 0 rfl) rfl (c_X8_clauseAt_t hW hI hc) rfl rfl (Nat.le_of_ble_eq_true rfl) (Nat.le_refl _) (Nat.le_refl _) (fun _ _ h => h.elim) ?_
  refine cx_det (st2 := [.ref (ad 21 c)]) rfl ?_
  refine r_astore [(6, .ref (ad 21 c)), (0, .ref (ad 0 0)), (1, .ref (ad 27 l)), (2, .ref (ad 29 t)), (3, .int (nI c)), (4, .int (nI k)), (5, .int 2)] dX8_isRelated_5 (by decide) rfl ?_
  refine r_iconst (v := nI 0) dX8_isRelated_7 (by decide) ?_
  refine r_istore [(7, .int (nI 0)), (6, .ref (ad 21 c)), (0, .ref (ad 0 0)), (1, .ref (ad 27 l)), (2, .ref (ad 29 t)), (3, .int (nI c)), (4, .int (nI k)), (5, .int 2)] dX8_isRelated_8 (by decide) rfl ?_
  exact lp_X8_isRelated_2 hW hI hl ht hc hk (A 9 0 + 1) 0 ⟨Nat.zero_le _, fun j hj => absurd hj (Nat.not_lt_zero j)⟩ (by omega)
def fau (A : ST) (l t c g k : Nat) : Nat := if A 12 (3 * c + g) = 0 then 1 else if A 13 (3 * c + g) = 0 then 2 else if rlB A l t c k 1 then 3 else if rlB A l t c k 2 then 4 else 0
theorem fau_le (A : ST) (l t c g k : Nat) : fau A l t c g k ≤ 4 := by
  unfold fau
  split
  · decide
  · split
    · decide
    · split
      · decide
      · split <;> decide
set_option maxRecDepth 100000 in
set_option maxHeartbeats 4000000 in
theorem c_X8_faultAt {d b0 : Nat} {G : GH} {A B : ST} {ad : AD} (hW : World A B ad G) (hI : Inv A) {l t : Nat} (hl : l < A 15 0) (ht : t < A 18 0) {c g k : Nat} (hc : c < A 9 0) (hg : g < 3) (hk : k < 4) : CTd mX8_faultAt (d + 5) b0 G [.ref (ad 0 0), .ref (ad 27 l), .ref (ad 29 t), .int (nI c), .int (nI g), .int (nI k)] 0 0 (some (.int (nI (fau A l t c g k)))) G := by
  have hb0 := hI.b0
  have hb2 := hI.b2
  have hb9 := hI.b9
  have hb15 := hI.b15
  have hb18 := hI.b18
  have hT : 3 * c + g < 3 * A 9 0 := by omega
  have h13 := (hI.tx (3 * c + g) (by omega)).2.1
  have hz1 : isZ (nI (A 13 (3 * c + g))) := by
    have h9 : A 13 (3 * c + g) = 0 ∨ A 13 (3 * c + g) = 1 := by omega
    rcases h9 with h9 | h9
    · rw [h9]; rfl
    · rw [h9]; rfl
  refine CT.intro (by decide +kernel) rfl (Nat.le_of_ble_eq_true rfl) ?_
  show WP mX8_faultAt _ _ _ _ _ 0 0 0 [(0, .ref (ad 0 0)), (1, .ref (ad 27 l)), (2, .ref (ad 29 t)), (3, .int (nI c)), (4, .int (nI g)), (5, .int (nI k))] []
  refine r_aload_n dX8_faultAt_0 rfl 0 rfl ?_
  refine r_iload_n dX8_faultAt_1 rfl 3 rfl ?_
  refine r_iload dX8_faultAt_2 4 rfl ?_
  refine r_callV (st := []) [.int (nI c), .int (nI g)] 0 0 dX8_faultAt_4 kX8_templateAt nX8_templateAt lRX8_131 (hW.g 0 0 rfl) rfl (c_X8_templateAt_t hW hI hc hg) rfl rfl (Nat.le_of_ble_eq_true rfl) (Nat.le_refl _) (Nat.le_refl _) (fun _ _ h => h.elim) ?_
  refine cx_det (st2 := [.ref (ad 24 (3 * c + g))]) rfl ?_
  refine r_astore [(6, .ref (ad 24 (3 * c + g))), (0, .ref (ad 0 0)), (1, .ref (ad 27 l)), (2, .ref (ad 29 t)), (3, .int (nI c)), (4, .int (nI g)), (5, .int (nI k))] dX8_faultAt_7 (by decide) rfl ?_
  refine r_aload dX8_faultAt_9 0 rfl ?_
  refine r_ifnullR dX8_faultAt_11 ?_
  refine r_aload dX8_faultAt_14 0 rfl ?_
  refine r_callV (st := []) [] 0 0 dX8_faultAt_16 kX6_isThere nX6_isThere lRX8_151 (hW.g 24 (3 * c + g) hT) rfl (c_X6_isThere (tp24 hW hI hT)) rfl rfl (Nat.le_of_ble_eq_true rfl) (Nat.le_refl _) (Nat.le_refl _) (fun _ _ h => h.elim) ?_
  refine cx_det (st2 := [.int (b2i (decide (0 < A 12 (3 * c + g))))]) rfl ?_
  refine r_if_ne 24 dX8_faultAt_19 (by decide) (fun c_1 => ?_) (fun c_1 => ?_)
  · refine r_aload dX8_faultAt_24 0 rfl ?_
    refine r_callV (st := []) [] 0 0 dX8_faultAt_26 kX6_isApproved nX6_isApproved lRX8_157 (hW.g 24 (3 * c + g) hT) rfl (c_X6_isApproved (tp24 hW hI hT) hz1) rfl rfl (Nat.le_of_ble_eq_true rfl) (Nat.le_refl _) (Nat.le_refl _) (fun _ _ h => h.elim) ?_
    refine cx_det (st2 := [.int (nI (A 13 (3 * c + g)))]) rfl ?_
    refine r_if_ne 34 dX8_faultAt_29 (by decide) (fun c_2 => ?_) (fun c_2 => ?_)
    · refine r_aload_n dX8_faultAt_34 rfl 1 rfl ?_
      refine r_aload_n dX8_faultAt_35 rfl 2 rfl ?_
      refine r_aload_n dX8_faultAt_36 rfl 3 rfl ?_
      refine r_iload_n dX8_faultAt_37 rfl 4 rfl ?_
      refine r_iload dX8_faultAt_38 6 rfl ?_
      refine r_iconst (v := 1) dX8_faultAt_40 (by decide) ?_
      refine r_callV (st := []) [.ref (ad 27 l), .ref (ad 29 t), .int (nI c), .int (nI k), .int 1] 0 0 dX8_faultAt_41 kX8_isRelated nX8_isRelated lRX8_306 (hW.g 0 0 rfl) rfl (c_X8_isRelated_1 hW hI hl ht hc hk) rfl rfl (Nat.le_of_ble_eq_true rfl) (Nat.le_refl _) (Nat.le_refl _) (fun _ _ h => h.elim) ?_
      refine cx_det (st2 := [.int (b2i (rlB A l t c k 1))]) rfl ?_
      refine r_if_eq 49 dX8_faultAt_44 (by decide) (fun c_3 => ?_) (fun c_3 => ?_)
      · refine r_aload_n dX8_faultAt_49 rfl 1 rfl ?_
        refine r_aload_n dX8_faultAt_50 rfl 2 rfl ?_
        refine r_aload_n dX8_faultAt_51 rfl 3 rfl ?_
        refine r_iload_n dX8_faultAt_52 rfl 4 rfl ?_
        refine r_iload dX8_faultAt_53 6 rfl ?_
        refine r_iconst (v := 2) dX8_faultAt_55 (by decide) ?_
        refine r_callV (st := []) [.ref (ad 27 l), .ref (ad 29 t), .int (nI c), .int (nI k), .int 2] 0 0 dX8_faultAt_56 kX8_isRelated nX8_isRelated lRX8_306 (hW.g 0 0 rfl) rfl (c_X8_isRelated_2 hW hI hl ht hc hk) rfl rfl (Nat.le_of_ble_eq_true rfl) (Nat.le_refl _) (Nat.le_refl _) (fun _ _ h => h.elim) ?_
        refine cx_det (st2 := [.int (b2i (rlB A l t c k 2))]) rfl ?_
        refine r_if_eq 66 dX8_faultAt_59 (by decide) (fun c_4 => ?_) (fun c_4 => ?_)
        · refine r_iconst (v := 0) dX8_faultAt_66 (by decide) ?_
          refine r_ireti dX8_faultAt_67 rfl ?_
          have x1 : ¬ A 12 (3 * c + g) = 0 := by
            have h9 := of_decide_eq_true (b2i_n0 c_1)
            omega
          have x2 : ¬ A 13 (3 * c + g) = 0 := ni_ne (b := 0) (by omega) (by decide) c_2
          have y2 : rlB A l t c k 1 = false := b2i_0 c_3
          have y3 : rlB A l t c k 2 = false := b2i_0 c_4
          exact ⟨by unfold fau; rw [if_neg x1, if_neg x2, y2, if_neg (by decide), y3, if_neg (by decide)]; rfl, rfl⟩
        · refine r_iconst (v := 4) dX8_faultAt_62 (by decide) ?_
          refine r_goto 67 dX8_faultAt_63 (by decide) ?_
          refine r_ireti dX8_faultAt_67 rfl ?_
          have x1 : ¬ A 12 (3 * c + g) = 0 := by
            have h9 := of_decide_eq_true (b2i_n0 c_1)
            omega
          have x2 : ¬ A 13 (3 * c + g) = 0 := ni_ne (b := 0) (by omega) (by decide) c_2
          have y2 : rlB A l t c k 1 = false := b2i_0 c_3
          have y3 : rlB A l t c k 2 = true := b2i_n0 c_4
          exact ⟨by unfold fau; rw [if_neg x1, if_neg x2, y2, if_neg (by decide), y3, if_pos rfl]; rfl, rfl⟩
      · refine r_iconst (v := 3) dX8_faultAt_47 (by decide) ?_
        refine r_ireti dX8_faultAt_48 rfl ?_
        have x1 : ¬ A 12 (3 * c + g) = 0 := by
          have h9 := of_decide_eq_true (b2i_n0 c_1)
          omega
        have x2 : ¬ A 13 (3 * c + g) = 0 := ni_ne (b := 0) (by omega) (by decide) c_2
        have y2 : rlB A l t c k 1 = true := b2i_n0 c_3
        exact ⟨by unfold fau; rw [if_neg x1, if_neg x2, y2, if_pos rfl]; rfl, rfl⟩
    · refine r_iconst (v := 2) dX8_faultAt_32 (by decide) ?_
      refine r_ireti dX8_faultAt_33 rfl ?_
      have x1 : ¬ A 12 (3 * c + g) = 0 := by
        have h9 := of_decide_eq_true (b2i_n0 c_1)
        omega
      have x2 : A 13 (3 * c + g) = 0 := ni_eq (b := 0) (by omega) (by decide) c_2
      exact ⟨by unfold fau; rw [if_neg x1, if_pos x2]; rfl, rfl⟩
  · refine r_iconst (v := 1) dX8_faultAt_22 (by decide) ?_
    refine r_ireti dX8_faultAt_23 rfl ?_
    have x1 : A 12 (3 * c + g) = 0 := by
      have := b2i_0 c_1
      have h9 := of_decide_eq_false this
      omega
    exact ⟨by unfold fau; rw [if_pos x1]; rfl, rfl⟩
abbrev cla (A : ST) (l p : Nat) : Nat := A 16 (6 * l + p)
/-- the fault at a place -/
def fap (A : ST) (l t g k p : Nat) : Nat := if meB A t (cla A l p) then fau A l t (cla A l p) g k else 0
def fof (A : ST) (l t g k : Nat) : Nat → Nat
  | 0 => 0
  | n + 1 => if fap A l t g k (A 17 l - (n + 1)) = 0 then fof A l t g k n else 10 * (A 17 l - (n + 1)) + fap A l t g k (A 17 l - (n + 1))
theorem hlB_in {A : ST} {l p : Nat} (h17 : A 17 l ≤ 6) (hp : p < A 17 l) : hlB A l (cla A l p) = true := by
  unfold hlB hsB
  rw [allB_no hp]
  · rfl
  · have e : rg A 16 (6 * l) 6 p = nI (cla A l p) := by
      dsimp only [rg]
      rw [if_pos (by omega)]
    rw [decide_eq_true e]; rfl
set_option maxRecDepth 100000 in
set_option maxHeartbeats 4000000 in
theorem lp_X8_faultOf {d b0 : Nat} {G : GH} {A B : ST} {ad : AD} (hW : World A B ad G) (hI : Inv A) (hP : Pag A) {l t : Nat} (hl : l < A 15 0) (ht : t < A 18 0) {g k : Nat} (hg : g < 3) (hk : k < 4) : ∀ (fu : Nat) (p : Nat), p ≤ A 17 l ∧ fof A l t g k (A 17 l - p) = fof A l t g k (A 17 l) → A 17 l - p < fu → WP mX8_faultOf (d + 8) b0 (OPo (nI (fof A l t g k (A 17 l))) A B ad A) (fun _ _ => False) G 20 400 63 [(7, .int (nI p)), (6, .ref (ad 29 t)), (5, .ref (ad 27 l)), (0, .ref (ad 0 0)), (1, .int (nI l)), (2, .int (nI t)), (3, .int (nI g)), (4, .int (nI k))] [] := by
  intro fu
  induction fu with
  | zero => intro p hinv hn; exact absurd hn (Nat.not_lt_zero _)
  | succ fu ih =>
    intro p hinv hn
    have hb15 := hI.b15
    have h17 := (hI.ro l (by omega)).1
    refine r_iload dX8_faultOf_63 0 rfl ?_
    refine r_aload dX8_faultOf_65 2 rfl ?_
    refine r_callV (st := [.int (nI p)]) [] 20 400 dX8_faultOf_67 kX2_count nX2_count lRX8_201 (hW.g 27 l hl) rfl (c_X2_count (lt27 hW hI hl)) rfl rfl (Nat.le_of_ble_eq_true rfl) (Nat.le_refl _) (Nat.le_refl _) (fun _ _ h => h.elim) ?_
    refine cx_det (st2 := [.int (nI (A 17 l)), .int (nI p)]) rfl ?_
    refine r_icmp_ge 134 dX8_faultOf_70 (by decide) (fun c_1 => ?_) (fun c_1 => ?_)
    · refine r_iconst (v := 0) dX8_faultOf_134 (by decide) ?_
      refine r_ireti dX8_faultOf_135 rfl ?_
      have hp : p = A 17 l := by have := ni_le (by omega) (by omega) c_1; omega
      exact ⟨by rw [← hinv.2, hp, Nat.sub_self]; rfl, A, ad, hW, fun _ _ _ => rfl, hP, fun f hf => rfl⟩
    · have hp : p < A 17 l := ni_nle (by omega) (by omega) c_1
      have hcl := ((hI.ro l (by omega)).2 p hp).1
      have hca := c_X2_at (d := d + 6) (b0 := b0) (lt27 hW hI hl) hp
      rw [show rg A 16 (6 * l) 6 p = nI (cla A l p) by dsimp only [rg]; rw [if_pos (by omega)]] at hca
      have hib : isB A l t (cla A l p) = meB A t (cla A l p) := by unfold isB; rw [hlB_in h17 hp]; rfl
      have hes : fof A l t g k (A 17 l - p) = (if fap A l t g k p = 0 then fof A l t g k (A 17 l - (p + 1)) else 10 * p + fap A l t g k p) := by
        have e9 : A 17 l - p = (A 17 l - (p + 1)) + 1 := by omega
        rw [e9]
        show (if fap A l t g k (A 17 l - (A 17 l - (p + 1) + 1)) = 0 then fof A l t g k (A 17 l - (p + 1)) else 10 * (A 17 l - (A 17 l - (p + 1) + 1)) + fap A l t g k (A 17 l - (A 17 l - (p + 1) + 1))) = _
        rw [show A 17 l - (A 17 l - (p + 1) + 1) = p by omega]
      have hf4 := fau_le A l t (cla A l p) g k
      refine r_aload dX8_faultOf_73 2 rfl ?_
      refine r_iload dX8_faultOf_75 0 rfl ?_
      refine r_callV (st := []) [.int (nI p)] 20 400 dX8_faultOf_77 kX2_at nX2_at lRX8_235 (hW.g 27 l hl) rfl hca rfl rfl (Nat.le_of_ble_eq_true rfl) (Nat.le_refl _) (Nat.le_refl _) (fun _ _ h => h.elim) ?_
      refine cx_det (st2 := [.int (nI (cla A l p))]) rfl ?_
      refine r_istore [(8, .int (nI (cla A l p))), (7, .int (nI p)), (6, .ref (ad 29 t)), (5, .ref (ad 27 l)), (0, .ref (ad 0 0)), (1, .int (nI l)), (2, .int (nI t)), (3, .int (nI g)), (4, .int (nI k))] dX8_faultOf_80 (by decide) rfl ?_
      refine r_aload_n dX8_faultOf_82 rfl 4 rfl ?_
      refine r_aload dX8_faultOf_83 3 rfl ?_
      refine r_aload dX8_faultOf_85 2 rfl ?_
      refine r_iload dX8_faultOf_87 0 rfl ?_
      refine r_callV (st := []) [.ref (ad 27 l), .ref (ad 29 t), .int (nI (cla A l p))] 20 400 dX8_faultOf_89 kX8_isIn nX8_isIn lRX8_238 (hW.g 0 0 rfl) rfl (c_X8_isIn hW hI hl ht hcl) rfl rfl (Nat.le_of_ble_eq_true rfl) (Nat.le_refl _) (Nat.le_refl _) (fun _ _ h => h.elim) ?_
      refine cx_det (st2 := [.int (b2i (isB A l t (cla A l p)))]) rfl ?_
      refine r_if_eq 111 dX8_faultOf_92 (by decide) (fun c_3 => ?_) (fun c_3 => ?_)
      · refine r_iconst (v := 0) dX8_faultOf_111 (by decide) ?_
        refine r_istore [(9, .int 0), (8, .int (nI (cla A l p))), (7, .int (nI p)), (6, .ref (ad 29 t)), (5, .ref (ad 27 l)), (0, .ref (ad 0 0)), (1, .int (nI l)), (2, .int (nI t)), (3, .int (nI g)), (4, .int (nI k))] dX8_faultOf_112 (by decide) rfl ?_
        refine r_iload dX8_faultOf_114 0 rfl ?_
        refine r_if_eq 128 dX8_faultOf_116 (by decide) (fun c_4 => ?_) (fun c_4 => absurd (by decide) c_4)
        refine r_iinc (nI (p + 1)) [(7, .int (nI (p + 1))), (9, .int 0), (8, .int (nI (cla A l p))), (6, .ref (ad 29 t)), (5, .ref (ad 27 l)), (0, .ref (ad 0 0)), (1, .int (nI l)), (2, .int (nI t)), (3, .int (nI g)), (4, .int (nI k))] dX8_faultOf_128 2 rfl (nI_1 p) (by decide) rfl ?_
        refine r_goto 63 dX8_faultOf_131 (by decide) ?_
        have hfp : fap A l t g k p = 0 := by unfold fap; rw [← hib, b2i_0 c_3]; rfl
        have hz := hfp
        exact WP.loc [0, 3, 4, 5, 6, 7, 8, 9] rfl (ih (p + 1) ⟨by omega, by rw [← hinv.2, hes, if_pos hz]⟩ (by omega))
      · refine r_aload_n dX8_faultOf_95 rfl 4 rfl ?_
        refine r_aload dX8_faultOf_96 3 rfl ?_
        refine r_aload dX8_faultOf_98 2 rfl ?_
        refine r_iload dX8_faultOf_100 0 rfl ?_
        refine r_iload_n dX8_faultOf_102 rfl 7 rfl ?_
        refine r_iload dX8_faultOf_103 8 rfl ?_
        refine r_callV (st := []) [.ref (ad 27 l), .ref (ad 29 t), .int (nI (cla A l p)), .int (nI g), .int (nI k)] 20 400 dX8_faultOf_105 kX8_faultAt nX8_faultAt lRX8_242 (hW.g 0 0 rfl) rfl (c_X8_faultAt hW hI hl ht hcl hg hk) rfl rfl (Nat.le_of_ble_eq_true rfl) (Nat.le_refl _) (Nat.le_refl _) (fun _ _ h => h.elim) ?_
        refine cx_det (st2 := [.int (nI (fau A l t (cla A l p) g k))]) rfl ?_
        refine r_goto 112 dX8_faultOf_108 (by decide) ?_
        refine r_istore [(9, .int (nI (fau A l t (cla A l p) g k))), (8, .int (nI (cla A l p))), (7, .int (nI p)), (6, .ref (ad 29 t)), (5, .ref (ad 27 l)), (0, .ref (ad 0 0)), (1, .int (nI l)), (2, .int (nI t)), (3, .int (nI g)), (4, .int (nI k))] dX8_faultOf_112 (by decide) rfl ?_
        refine r_iload dX8_faultOf_114 0 rfl ?_
        refine r_if_eq 128 dX8_faultOf_116 (by decide) (fun c_6 => ?_) (fun c_6 => ?_)
        · refine r_iinc (nI (p + 1)) [(7, .int (nI (p + 1))), (9, .int (nI (fau A l t (cla A l p) g k))), (8, .int (nI (cla A l p))), (6, .ref (ad 29 t)), (5, .ref (ad 27 l)), (0, .ref (ad 0 0)), (1, .int (nI l)), (2, .int (nI t)), (3, .int (nI g)), (4, .int (nI k))] dX8_faultOf_128 2 rfl (nI_1 p) (by decide) rfl ?_
          refine r_goto 63 dX8_faultOf_131 (by decide) ?_
          have hfp : fap A l t g k p = fau A l t (cla A l p) g k := by unfold fap; rw [← hib, b2i_n0 c_3]; rfl
          have hz : fap A l t g k p = 0 := by rw [hfp]; exact ni_eq (b := 0) (by omega) (by decide) c_6
          exact WP.loc [0, 3, 4, 5, 6, 7, 8, 9] rfl (ih (p + 1) ⟨by omega, by rw [← hinv.2, hes, if_pos hz]⟩ (by omega))
        · refine r_bipush (v := 10) dX8_faultOf_119 (by decide) ?_
          refine r_iload dX8_faultOf_121 2 rfl ?_
          refine r_imul dX8_faultOf_123 ?_
          refine r_top (nI (10 * p)) (pk_mul 10 p) ?_
          refine r_iload dX8_faultOf_124 0 rfl ?_
          refine r_iadd dX8_faultOf_126 ?_
          refine r_top (nI (10 * p + fau A l t (cla A l p) g k)) (nI_add _ _) ?_
          have hfp : fap A l t g k p = fau A l t (cla A l p) g k := by unfold fap; rw [← hib, b2i_n0 c_3]; rfl
          have hn0 : fap A l t g k p ≠ 0 := by rw [hfp]; exact ni_ne (b := 0) (by omega) (by decide) c_6
          refine r_ireti dX8_faultOf_127 rfl ?_
          exact ⟨by rw [← hinv.2, hes, if_neg hn0, hfp], A, ad, hW, fun _ _ _ => rfl, hP, fun f hf => rfl⟩
set_option maxRecDepth 100000 in
set_option maxHeartbeats 4000000 in
theorem c_faultOf_0 {d b0 : Nat} {G : GH} {A B : ST} {ad : AD} (hW : World A B ad G) (hI : Inv A) (hP : Pag A) {l t : Nat} (hl : l < A 15 0) (ht : t < A 18 0) {g k : Nat} (hg : g < 3) (hk : k < 4) : CT mX8_faultOf (d + 8) b0 G [.ref (ad 0 0), .int (nI l), .int (nI t), .int (nI g), .int (nI k)] 20 400 (OPo (nI (fof A l t g k (A 17 l))) A B ad A) (fun _ _ => False) := by
  have hb0 := hI.b0
  have hb2 := hI.b2
  have hb9 := hI.b9
  have hb15 := hI.b15
  have hb18 := hI.b18
  refine CT.intro (by decide +kernel) rfl (Nat.le_of_ble_eq_true rfl) ?_
  show WP mX8_faultOf _ _ _ _ _ 20 400 0 [(0, .ref (ad 0 0)), (1, .int (nI l)), (2, .int (nI t)), (3, .int (nI g)), (4, .int (nI k))] []
  refine r_aload_n dX8_faultOf_0 rfl 0 rfl ?_
  refine r_iload_n dX8_faultOf_1 rfl 1 rfl ?_
  refine r_callV (st := []) [.int (nI l)] 20 400 dX8_faultOf_2 kX8_letterAt nX8_letterAt lRX8_188 (hW.g 0 0 rfl) rfl (c_X8_letterAt_t hW hI hl) rfl rfl (Nat.le_of_ble_eq_true rfl) (Nat.le_refl _) (Nat.le_refl _) (fun _ _ h => h.elim) ?_
  refine cx_det (st2 := [.ref (ad 27 l)]) rfl ?_
  refine r_astore [(5, .ref (ad 27 l)), (0, .ref (ad 0 0)), (1, .int (nI l)), (2, .int (nI t)), (3, .int (nI g)), (4, .int (nI k))] dX8_faultOf_5 (by decide) rfl ?_
  refine r_aload_n dX8_faultOf_7 rfl 1 rfl ?_
  refine r_iload_n dX8_faultOf_8 rfl 3 rfl ?_
  refine r_callV (st := []) [.int (nI t)] 20 400 dX8_faultOf_9 kX8_dataAt nX8_dataAt lRX8_214 (hW.g 0 0 rfl) rfl (c_X8_dataAt_t hW hI ht) rfl rfl (Nat.le_of_ble_eq_true rfl) (Nat.le_refl _) (Nat.le_refl _) (fun _ _ h => h.elim) ?_
  refine cx_det (st2 := [.ref (ad 29 t)]) rfl ?_
  refine r_astore [(6, .ref (ad 29 t)), (5, .ref (ad 27 l)), (0, .ref (ad 0 0)), (1, .int (nI l)), (2, .int (nI t)), (3, .int (nI g)), (4, .int (nI k))] dX8_faultOf_12 (by decide) rfl ?_
  refine r_aload dX8_faultOf_14 1 rfl ?_
  refine r_ifnullR dX8_faultOf_16 ?_
  refine r_aload dX8_faultOf_19 0 rfl ?_
  refine r_ifnullR dX8_faultOf_21 ?_
  refine r_iload_n dX8_faultOf_24 rfl 5 rfl ?_
  refine r_callS (st := []) [.int (nI g)] 20 400 dX8_faultOf_25 kX8_isLanguage nX8_isLanguage lRX8_92 (c_isL (nI g)) rfl rfl (Nat.le_of_ble_eq_true rfl) (Nat.le_refl _) (Nat.le_refl _) (fun _ _ h => h.elim) ?_
  refine cx_det (st2 := [.int (b2i (inB (nI g) 3))]) rfl ?_
  refine r_if_ne 41 dX8_faultOf_28 (by decide) (fun c_1 => ?_) (fun c_1 => absurd c_1 (b2i_no (inB_k hg (by decide))))
  refine r_iload dX8_faultOf_41 6 rfl ?_
  refine r_iconst (v := 4) dX8_faultOf_43 (by decide) ?_
  refine r_callS (st := []) [.int (nI k), .int 4] 20 400 dX8_faultOf_44 kX8_isBelow nX8_isBelow lRX8_104 (c_isB (nI k) 4) rfl rfl (Nat.le_of_ble_eq_true rfl) (Nat.le_refl _) (Nat.le_refl _) (fun _ _ h => h.elim) ?_
  refine cx_det (st2 := [.int (b2i (inB (nI k) 4))]) rfl ?_
  refine r_if_ne 60 dX8_faultOf_47 (by decide) (fun c_2 => ?_) (fun c_2 => absurd c_2 (b2i_no (inB_k hk (by decide))))
  refine r_iconst (v := nI 0) dX8_faultOf_60 (by decide) ?_
  refine r_istore [(7, .int (nI 0)), (6, .ref (ad 29 t)), (5, .ref (ad 27 l)), (0, .ref (ad 0 0)), (1, .int (nI l)), (2, .int (nI t)), (3, .int (nI g)), (4, .int (nI k))] dX8_faultOf_61 (by decide) rfl ?_
  exact lp_X8_faultOf hW hI hP hl ht hg hk (A 17 l + 1) 0 ⟨Nat.zero_le _, rfl⟩ (by omega)
set_option maxRecDepth 100000 in
set_option maxHeartbeats 4000000 in
theorem c_faultOf_1a {d b0 : Nat} {G : GH} {A B : ST} {ad : AD} (hW : World A B ad G) (hI : Inv A) {x y z u : Int32} (hx : inB x (A 15 0) = false) (hy : inB y (A 18 0) = false) : CT mX8_faultOf (d + 8) b0 G [.ref (ad 0 0), .int x, .int y, .int z, .int u] 20 400 (fun _ _ => False) (fun E G' => E = "java/lang/IndexOutOfBoundsException" ∧ G' = G) := by
  have hb0 := hI.b0
  have hb2 := hI.b2
  have hb9 := hI.b9
  have hb15 := hI.b15
  have hb18 := hI.b18
  refine CT.intro (by decide +kernel) rfl (Nat.le_of_ble_eq_true rfl) ?_
  show WP mX8_faultOf _ _ _ _ _ 20 400 0 [(0, .ref (ad 0 0)), (1, .int x), (2, .int y), (3, .int z), (4, .int u)] []
  refine r_aload_n dX8_faultOf_0 rfl 0 rfl ?_
  refine r_iload_n dX8_faultOf_1 rfl 1 rfl ?_
  refine r_callV (st := []) [.int x] 20 400 dX8_faultOf_2 kX8_letterAt nX8_letterAt lRX8_188 (hW.g 0 0 rfl) rfl (c_X8_letterAt_f hW hI hx) rfl rfl (Nat.le_of_ble_eq_true rfl) (Nat.le_refl _) (Nat.le_refl _) (fun _ _ h => h.elim) ?_
  refine cx_det (st2 := [.null]) rfl ?_
  refine r_astoreN [(5, .null), (0, .ref (ad 0 0)), (1, .int x), (2, .int y), (3, .int z), (4, .int u)] dX8_faultOf_5 (by decide) rfl ?_
  refine r_aload_n dX8_faultOf_7 rfl 1 rfl ?_
  refine r_iload_n dX8_faultOf_8 rfl 3 rfl ?_
  refine r_callV (st := []) [.int y] 20 400 dX8_faultOf_9 kX8_dataAt nX8_dataAt lRX8_214 (hW.g 0 0 rfl) rfl (c_X8_dataAt_f hW hI hy) rfl rfl (Nat.le_of_ble_eq_true rfl) (Nat.le_refl _) (Nat.le_refl _) (fun _ _ h => h.elim) ?_
  refine cx_det (st2 := [.null]) rfl ?_
  refine r_astoreN [(6, .null), (5, .null), (0, .ref (ad 0 0)), (1, .int x), (2, .int y), (3, .int z), (4, .int u)] dX8_faultOf_12 (by decide) rfl ?_
  refine r_aloadN dX8_faultOf_14 1 rfl ?_
  refine r_ifnullN 31 dX8_faultOf_16 (by decide) ?_
  refine r_throw "java/lang/IndexOutOfBoundsException" "no such letter, data or language" dX8_faultOf_31 dX8_faultOf_34 dX8_faultOf_35 dX8_faultOf_37 dX8_faultOf_40 rfl (by decide +kernel) t_321 t_32 (by decide +kernel) exB_at exB_ng (by decide +kernel) (by omega) (by decide) (by decide) (Nat.le_of_ble_eq_true rfl) ?_
  exact ⟨rfl, rfl⟩
set_option maxRecDepth 100000 in
set_option maxHeartbeats 4000000 in
theorem c_faultOf_1b {d b0 : Nat} {G : GH} {A B : ST} {ad : AD} (hW : World A B ad G) (hI : Inv A) {x z u : Int32} {t : Nat} (hx : inB x (A 15 0) = false) (ht : t < A 18 0) : CT mX8_faultOf (d + 8) b0 G [.ref (ad 0 0), .int x, .int (nI t), .int z, .int u] 20 400 (fun _ _ => False) (fun E G' => E = "java/lang/IndexOutOfBoundsException" ∧ G' = G) := by
  have hb0 := hI.b0
  have hb2 := hI.b2
  have hb9 := hI.b9
  have hb15 := hI.b15
  have hb18 := hI.b18
  refine CT.intro (by decide +kernel) rfl (Nat.le_of_ble_eq_true rfl) ?_
  show WP mX8_faultOf _ _ _ _ _ 20 400 0 [(0, .ref (ad 0 0)), (1, .int x), (2, .int (nI t)), (3, .int z), (4, .int u)] []
  refine r_aload_n dX8_faultOf_0 rfl 0 rfl ?_
  refine r_iload_n dX8_faultOf_1 rfl 1 rfl ?_
  refine r_callV (st := []) [.int x] 20 400 dX8_faultOf_2 kX8_letterAt nX8_letterAt lRX8_188 (hW.g 0 0 rfl) rfl (c_X8_letterAt_f hW hI hx) rfl rfl (Nat.le_of_ble_eq_true rfl) (Nat.le_refl _) (Nat.le_refl _) (fun _ _ h => h.elim) ?_
  refine cx_det (st2 := [.null]) rfl ?_
  refine r_astoreN [(5, .null), (0, .ref (ad 0 0)), (1, .int x), (2, .int (nI t)), (3, .int z), (4, .int u)] dX8_faultOf_5 (by decide) rfl ?_
  refine r_aload_n dX8_faultOf_7 rfl 1 rfl ?_
  refine r_iload_n dX8_faultOf_8 rfl 3 rfl ?_
  refine r_callV (st := []) [.int (nI t)] 20 400 dX8_faultOf_9 kX8_dataAt nX8_dataAt lRX8_214 (hW.g 0 0 rfl) rfl (c_X8_dataAt_t hW hI ht) rfl rfl (Nat.le_of_ble_eq_true rfl) (Nat.le_refl _) (Nat.le_refl _) (fun _ _ h => h.elim) ?_
  refine cx_det (st2 := [.ref (ad 29 t)]) rfl ?_
  refine r_astore [(6, .ref (ad 29 t)), (5, .null), (0, .ref (ad 0 0)), (1, .int x), (2, .int (nI t)), (3, .int z), (4, .int u)] dX8_faultOf_12 (by decide) rfl ?_
  refine r_aloadN dX8_faultOf_14 1 rfl ?_
  refine r_ifnullN 31 dX8_faultOf_16 (by decide) ?_
  refine r_throw "java/lang/IndexOutOfBoundsException" "no such letter, data or language" dX8_faultOf_31 dX8_faultOf_34 dX8_faultOf_35 dX8_faultOf_37 dX8_faultOf_40 rfl (by decide +kernel) t_321 t_32 (by decide +kernel) exB_at exB_ng (by decide +kernel) (by omega) (by decide) (by decide) (Nat.le_of_ble_eq_true rfl) ?_
  exact ⟨rfl, rfl⟩
set_option maxRecDepth 100000 in
set_option maxHeartbeats 4000000 in
theorem c_faultOf_1c {d b0 : Nat} {G : GH} {A B : ST} {ad : AD} (hW : World A B ad G) (hI : Inv A) {y z u : Int32} {l : Nat} (hl : l < A 15 0) (hy : inB y (A 18 0) = false) : CT mX8_faultOf (d + 8) b0 G [.ref (ad 0 0), .int (nI l), .int y, .int z, .int u] 20 400 (fun _ _ => False) (fun E G' => E = "java/lang/IndexOutOfBoundsException" ∧ G' = G) := by
  have hb0 := hI.b0
  have hb2 := hI.b2
  have hb9 := hI.b9
  have hb15 := hI.b15
  have hb18 := hI.b18
  refine CT.intro (by decide +kernel) rfl (Nat.le_of_ble_eq_true rfl) ?_
  show WP mX8_faultOf _ _ _ _ _ 20 400 0 [(0, .ref (ad 0 0)), (1, .int (nI l)), (2, .int y), (3, .int z), (4, .int u)] []
  refine r_aload_n dX8_faultOf_0 rfl 0 rfl ?_
  refine r_iload_n dX8_faultOf_1 rfl 1 rfl ?_
  refine r_callV (st := []) [.int (nI l)] 20 400 dX8_faultOf_2 kX8_letterAt nX8_letterAt lRX8_188 (hW.g 0 0 rfl) rfl (c_X8_letterAt_t hW hI hl) rfl rfl (Nat.le_of_ble_eq_true rfl) (Nat.le_refl _) (Nat.le_refl _) (fun _ _ h => h.elim) ?_
  refine cx_det (st2 := [.ref (ad 27 l)]) rfl ?_
  refine r_astore [(5, .ref (ad 27 l)), (0, .ref (ad 0 0)), (1, .int (nI l)), (2, .int y), (3, .int z), (4, .int u)] dX8_faultOf_5 (by decide) rfl ?_
  refine r_aload_n dX8_faultOf_7 rfl 1 rfl ?_
  refine r_iload_n dX8_faultOf_8 rfl 3 rfl ?_
  refine r_callV (st := []) [.int y] 20 400 dX8_faultOf_9 kX8_dataAt nX8_dataAt lRX8_214 (hW.g 0 0 rfl) rfl (c_X8_dataAt_f hW hI hy) rfl rfl (Nat.le_of_ble_eq_true rfl) (Nat.le_refl _) (Nat.le_refl _) (fun _ _ h => h.elim) ?_
  refine cx_det (st2 := [.null]) rfl ?_
  refine r_astoreN [(6, .null), (5, .ref (ad 27 l)), (0, .ref (ad 0 0)), (1, .int (nI l)), (2, .int y), (3, .int z), (4, .int u)] dX8_faultOf_12 (by decide) rfl ?_
  refine r_aload dX8_faultOf_14 1 rfl ?_
  refine r_ifnullR dX8_faultOf_16 ?_
  refine r_aloadN dX8_faultOf_19 0 rfl ?_
  refine r_ifnullN 31 dX8_faultOf_21 (by decide) ?_
  refine r_throw "java/lang/IndexOutOfBoundsException" "no such letter, data or language" dX8_faultOf_31 dX8_faultOf_34 dX8_faultOf_35 dX8_faultOf_37 dX8_faultOf_40 rfl (by decide +kernel) t_321 t_32 (by decide +kernel) exB_at exB_ng (by decide +kernel) (by omega) (by decide) (by decide) (Nat.le_of_ble_eq_true rfl) ?_
  exact ⟨rfl, rfl⟩
set_option maxRecDepth 100000 in
set_option maxHeartbeats 4000000 in
theorem c_faultOf_1d {d b0 : Nat} {G : GH} {A B : ST} {ad : AD} (hW : World A B ad G) (hI : Inv A) {z u : Int32} {l t : Nat} (hl : l < A 15 0) (ht : t < A 18 0) (hz : inB z 3 = false) : CT mX8_faultOf (d + 8) b0 G [.ref (ad 0 0), .int (nI l), .int (nI t), .int z, .int u] 20 400 (fun _ _ => False) (fun E G' => E = "java/lang/IndexOutOfBoundsException" ∧ G' = G) := by
  have hb0 := hI.b0
  have hb2 := hI.b2
  have hb9 := hI.b9
  have hb15 := hI.b15
  have hb18 := hI.b18
  refine CT.intro (by decide +kernel) rfl (Nat.le_of_ble_eq_true rfl) ?_
  show WP mX8_faultOf _ _ _ _ _ 20 400 0 [(0, .ref (ad 0 0)), (1, .int (nI l)), (2, .int (nI t)), (3, .int z), (4, .int u)] []
  refine r_aload_n dX8_faultOf_0 rfl 0 rfl ?_
  refine r_iload_n dX8_faultOf_1 rfl 1 rfl ?_
  refine r_callV (st := []) [.int (nI l)] 20 400 dX8_faultOf_2 kX8_letterAt nX8_letterAt lRX8_188 (hW.g 0 0 rfl) rfl (c_X8_letterAt_t hW hI hl) rfl rfl (Nat.le_of_ble_eq_true rfl) (Nat.le_refl _) (Nat.le_refl _) (fun _ _ h => h.elim) ?_
  refine cx_det (st2 := [.ref (ad 27 l)]) rfl ?_
  refine r_astore [(5, .ref (ad 27 l)), (0, .ref (ad 0 0)), (1, .int (nI l)), (2, .int (nI t)), (3, .int z), (4, .int u)] dX8_faultOf_5 (by decide) rfl ?_
  refine r_aload_n dX8_faultOf_7 rfl 1 rfl ?_
  refine r_iload_n dX8_faultOf_8 rfl 3 rfl ?_
  refine r_callV (st := []) [.int (nI t)] 20 400 dX8_faultOf_9 kX8_dataAt nX8_dataAt lRX8_214 (hW.g 0 0 rfl) rfl (c_X8_dataAt_t hW hI ht) rfl rfl (Nat.le_of_ble_eq_true rfl) (Nat.le_refl _) (Nat.le_refl _) (fun _ _ h => h.elim) ?_
  refine cx_det (st2 := [.ref (ad 29 t)]) rfl ?_
  refine r_astore [(6, .ref (ad 29 t)), (5, .ref (ad 27 l)), (0, .ref (ad 0 0)), (1, .int (nI l)), (2, .int (nI t)), (3, .int z), (4, .int u)] dX8_faultOf_12 (by decide) rfl ?_
  refine r_aload dX8_faultOf_14 1 rfl ?_
  refine r_ifnullR dX8_faultOf_16 ?_
  refine r_aload dX8_faultOf_19 0 rfl ?_
  refine r_ifnullR dX8_faultOf_21 ?_
  refine r_iload_n dX8_faultOf_24 rfl 5 rfl ?_
  refine r_callS (st := []) [.int z] 20 400 dX8_faultOf_25 kX8_isLanguage nX8_isLanguage lRX8_92 (c_isL z) rfl rfl (Nat.le_of_ble_eq_true rfl) (Nat.le_refl _) (Nat.le_refl _) (fun _ _ h => h.elim) ?_
  refine cx_det (st2 := [.int (b2i (inB z 3))]) rfl ?_
  refine r_if_ne 41 dX8_faultOf_28 (by decide) (fun c_1 => absurd (b2i_z hz) c_1) (fun c_1 => ?_)
  refine r_throw "java/lang/IndexOutOfBoundsException" "no such letter, data or language" dX8_faultOf_31 dX8_faultOf_34 dX8_faultOf_35 dX8_faultOf_37 dX8_faultOf_40 rfl (by decide +kernel) t_321 t_32 (by decide +kernel) exB_at exB_ng (by decide +kernel) (by omega) (by decide) (by decide) (Nat.le_of_ble_eq_true rfl) ?_
  exact ⟨rfl, rfl⟩
set_option maxRecDepth 100000 in
set_option maxHeartbeats 4000000 in
theorem c_faultOf_2 {d b0 : Nat} {G : GH} {A B : ST} {ad : AD} (hW : World A B ad G) (hI : Inv A) {u : Int32} {l t : Nat} (hl : l < A 15 0) (ht : t < A 18 0) {g : Nat} (hg : g < 3) (hu : inB u 4 = false) : CT mX8_faultOf (d + 8) b0 G [.ref (ad 0 0), .int (nI l), .int (nI t), .int (nI g), .int u] 20 400 (fun _ _ => False) (fun E G' => E = "java/lang/IllegalArgumentException" ∧ G' = G) := by
  have hb0 := hI.b0
  have hb2 := hI.b2
  have hb9 := hI.b9
  have hb15 := hI.b15
  have hb18 := hI.b18
  refine CT.intro (by decide +kernel) rfl (Nat.le_of_ble_eq_true rfl) ?_
  show WP mX8_faultOf _ _ _ _ _ 20 400 0 [(0, .ref (ad 0 0)), (1, .int (nI l)), (2, .int (nI t)), (3, .int (nI g)), (4, .int u)] []
  refine r_aload_n dX8_faultOf_0 rfl 0 rfl ?_
  refine r_iload_n dX8_faultOf_1 rfl 1 rfl ?_
  refine r_callV (st := []) [.int (nI l)] 20 400 dX8_faultOf_2 kX8_letterAt nX8_letterAt lRX8_188 (hW.g 0 0 rfl) rfl (c_X8_letterAt_t hW hI hl) rfl rfl (Nat.le_of_ble_eq_true rfl) (Nat.le_refl _) (Nat.le_refl _) (fun _ _ h => h.elim) ?_
  refine cx_det (st2 := [.ref (ad 27 l)]) rfl ?_
  refine r_astore [(5, .ref (ad 27 l)), (0, .ref (ad 0 0)), (1, .int (nI l)), (2, .int (nI t)), (3, .int (nI g)), (4, .int u)] dX8_faultOf_5 (by decide) rfl ?_
  refine r_aload_n dX8_faultOf_7 rfl 1 rfl ?_
  refine r_iload_n dX8_faultOf_8 rfl 3 rfl ?_
  refine r_callV (st := []) [.int (nI t)] 20 400 dX8_faultOf_9 kX8_dataAt nX8_dataAt lRX8_214 (hW.g 0 0 rfl) rfl (c_X8_dataAt_t hW hI ht) rfl rfl (Nat.le_of_ble_eq_true rfl) (Nat.le_refl _) (Nat.le_refl _) (fun _ _ h => h.elim) ?_
  refine cx_det (st2 := [.ref (ad 29 t)]) rfl ?_
  refine r_astore [(6, .ref (ad 29 t)), (5, .ref (ad 27 l)), (0, .ref (ad 0 0)), (1, .int (nI l)), (2, .int (nI t)), (3, .int (nI g)), (4, .int u)] dX8_faultOf_12 (by decide) rfl ?_
  refine r_aload dX8_faultOf_14 1 rfl ?_
  refine r_ifnullR dX8_faultOf_16 ?_
  refine r_aload dX8_faultOf_19 0 rfl ?_
  refine r_ifnullR dX8_faultOf_21 ?_
  refine r_iload_n dX8_faultOf_24 rfl 5 rfl ?_
  refine r_callS (st := []) [.int (nI g)] 20 400 dX8_faultOf_25 kX8_isLanguage nX8_isLanguage lRX8_92 (c_isL (nI g)) rfl rfl (Nat.le_of_ble_eq_true rfl) (Nat.le_refl _) (Nat.le_refl _) (fun _ _ h => h.elim) ?_
  refine cx_det (st2 := [.int (b2i (inB (nI g) 3))]) rfl ?_
  refine r_if_ne 41 dX8_faultOf_28 (by decide) (fun c_1 => ?_) (fun c_1 => absurd c_1 (b2i_no (inB_k hg (by decide))))
  refine r_iload dX8_faultOf_41 6 rfl ?_
  refine r_iconst (v := 4) dX8_faultOf_43 (by decide) ?_
  refine r_callS (st := []) [.int u, .int 4] 20 400 dX8_faultOf_44 kX8_isBelow nX8_isBelow lRX8_104 (c_isB u 4) rfl rfl (Nat.le_of_ble_eq_true rfl) (Nat.le_refl _) (Nat.le_refl _) (fun _ _ h => h.elim) ?_
  refine cx_det (st2 := [.int (b2i (inB u 4))]) rfl ?_
  refine r_if_ne 60 dX8_faultOf_47 (by decide) (fun c_2 => absurd (b2i_z hu) c_2) (fun c_2 => ?_)
  refine r_throw "java/lang/IllegalArgumentException" "no such country" dX8_faultOf_50 dX8_faultOf_53 dX8_faultOf_54 dX8_faultOf_56 dX8_faultOf_59 rfl (by decide +kernel) t_337 t_33 (by decide +kernel) exA_at exA_ng (by decide +kernel) (by omega) (by decide) (by decide) (Nat.le_of_ble_eq_true rfl) ?_
  exact ⟨rfl, rfl⟩
set_option maxRecDepth 100000 in
set_option maxHeartbeats 4000000 in
theorem c_sign_1a {d b0 : Nat} {G : GH} {A B : ST} {ad : AD} (hW : World A B ad G) (hI : Inv A) {x y z u : Int32} (hx : inB x (A 15 0) = false) (hy : inB y (A 18 0) = false) : CT mX8_sign (d + 8) b0 G [.ref (ad 0 0), .int x, .int y, .int z, .int u] 20 400 (fun _ _ => False) (fun E G' => E = "java/lang/IndexOutOfBoundsException" ∧ G' = G) := by
  have hb0 := hI.b0
  have hb2 := hI.b2
  have hb9 := hI.b9
  have hb15 := hI.b15
  have hb18 := hI.b18
  refine CT.intro (by decide +kernel) rfl (Nat.le_of_ble_eq_true rfl) ?_
  show WP mX8_sign _ _ _ _ _ 20 400 0 [(0, .ref (ad 0 0)), (1, .int x), (2, .int y), (3, .int z), (4, .int u)] []
  refine r_aload_n dX8_sign_0 rfl 0 rfl ?_
  refine r_iload_n dX8_sign_1 rfl 1 rfl ?_
  refine r_callV (st := []) [.int x] 20 400 dX8_sign_2 kX8_letterAt nX8_letterAt lRX8_188 (hW.g 0 0 rfl) rfl (c_X8_letterAt_f hW hI hx) rfl rfl (Nat.le_of_ble_eq_true rfl) (Nat.le_refl _) (Nat.le_refl _) (fun _ _ h => h.elim) ?_
  refine cx_det (st2 := [.null]) rfl ?_
  refine r_astoreN [(5, .null), (0, .ref (ad 0 0)), (1, .int x), (2, .int y), (3, .int z), (4, .int u)] dX8_sign_5 (by decide) rfl ?_
  refine r_aload_n dX8_sign_7 rfl 1 rfl ?_
  refine r_iload_n dX8_sign_8 rfl 3 rfl ?_
  refine r_callV (st := []) [.int y] 20 400 dX8_sign_9 kX8_dataAt nX8_dataAt lRX8_214 (hW.g 0 0 rfl) rfl (c_X8_dataAt_f hW hI hy) rfl rfl (Nat.le_of_ble_eq_true rfl) (Nat.le_refl _) (Nat.le_refl _) (fun _ _ h => h.elim) ?_
  refine cx_det (st2 := [.null]) rfl ?_
  refine r_astoreN [(6, .null), (5, .null), (0, .ref (ad 0 0)), (1, .int x), (2, .int y), (3, .int z), (4, .int u)] dX8_sign_12 (by decide) rfl ?_
  refine r_aloadN dX8_sign_14 1 rfl ?_
  refine r_ifnullN 36 dX8_sign_16 (by decide) ?_
  refine r_throw "java/lang/IndexOutOfBoundsException" "no such letter, data, language or place" dX8_sign_36 dX8_sign_39 dX8_sign_40 dX8_sign_42 dX8_sign_45 rfl (by decide +kernel) t_321 t_32 (by decide +kernel) exB_at exB_ng (by decide +kernel) (by omega) (by decide) (by decide) (Nat.le_of_ble_eq_true rfl) ?_
  exact ⟨rfl, rfl⟩
set_option maxRecDepth 100000 in
set_option maxHeartbeats 4000000 in
theorem c_sign_1b {d b0 : Nat} {G : GH} {A B : ST} {ad : AD} (hW : World A B ad G) (hI : Inv A) {x z u : Int32} {t : Nat} (hx : inB x (A 15 0) = false) (ht : t < A 18 0) : CT mX8_sign (d + 8) b0 G [.ref (ad 0 0), .int x, .int (nI t), .int z, .int u] 20 400 (fun _ _ => False) (fun E G' => E = "java/lang/IndexOutOfBoundsException" ∧ G' = G) := by
  have hb0 := hI.b0
  have hb2 := hI.b2
  have hb9 := hI.b9
  have hb15 := hI.b15
  have hb18 := hI.b18
  refine CT.intro (by decide +kernel) rfl (Nat.le_of_ble_eq_true rfl) ?_
  show WP mX8_sign _ _ _ _ _ 20 400 0 [(0, .ref (ad 0 0)), (1, .int x), (2, .int (nI t)), (3, .int z), (4, .int u)] []
  refine r_aload_n dX8_sign_0 rfl 0 rfl ?_
  refine r_iload_n dX8_sign_1 rfl 1 rfl ?_
  refine r_callV (st := []) [.int x] 20 400 dX8_sign_2 kX8_letterAt nX8_letterAt lRX8_188 (hW.g 0 0 rfl) rfl (c_X8_letterAt_f hW hI hx) rfl rfl (Nat.le_of_ble_eq_true rfl) (Nat.le_refl _) (Nat.le_refl _) (fun _ _ h => h.elim) ?_
  refine cx_det (st2 := [.null]) rfl ?_
  refine r_astoreN [(5, .null), (0, .ref (ad 0 0)), (1, .int x), (2, .int (nI t)), (3, .int z), (4, .int u)] dX8_sign_5 (by decide) rfl ?_
  refine r_aload_n dX8_sign_7 rfl 1 rfl ?_
  refine r_iload_n dX8_sign_8 rfl 3 rfl ?_
  refine r_callV (st := []) [.int (nI t)] 20 400 dX8_sign_9 kX8_dataAt nX8_dataAt lRX8_214 (hW.g 0 0 rfl) rfl (c_X8_dataAt_t hW hI ht) rfl rfl (Nat.le_of_ble_eq_true rfl) (Nat.le_refl _) (Nat.le_refl _) (fun _ _ h => h.elim) ?_
  refine cx_det (st2 := [.ref (ad 29 t)]) rfl ?_
  refine r_astore [(6, .ref (ad 29 t)), (5, .null), (0, .ref (ad 0 0)), (1, .int x), (2, .int (nI t)), (3, .int z), (4, .int u)] dX8_sign_12 (by decide) rfl ?_
  refine r_aloadN dX8_sign_14 1 rfl ?_
  refine r_ifnullN 36 dX8_sign_16 (by decide) ?_
  refine r_throw "java/lang/IndexOutOfBoundsException" "no such letter, data, language or place" dX8_sign_36 dX8_sign_39 dX8_sign_40 dX8_sign_42 dX8_sign_45 rfl (by decide +kernel) t_321 t_32 (by decide +kernel) exB_at exB_ng (by decide +kernel) (by omega) (by decide) (by decide) (Nat.le_of_ble_eq_true rfl) ?_
  exact ⟨rfl, rfl⟩
set_option maxRecDepth 100000 in
set_option maxHeartbeats 4000000 in
theorem c_sign_1c {d b0 : Nat} {G : GH} {A B : ST} {ad : AD} (hW : World A B ad G) (hI : Inv A) {y z u : Int32} {l : Nat} (hl : l < A 15 0) (hy : inB y (A 18 0) = false) : CT mX8_sign (d + 8) b0 G [.ref (ad 0 0), .int (nI l), .int y, .int z, .int u] 20 400 (fun _ _ => False) (fun E G' => E = "java/lang/IndexOutOfBoundsException" ∧ G' = G) := by
  have hb0 := hI.b0
  have hb2 := hI.b2
  have hb9 := hI.b9
  have hb15 := hI.b15
  have hb18 := hI.b18
  refine CT.intro (by decide +kernel) rfl (Nat.le_of_ble_eq_true rfl) ?_
  show WP mX8_sign _ _ _ _ _ 20 400 0 [(0, .ref (ad 0 0)), (1, .int (nI l)), (2, .int y), (3, .int z), (4, .int u)] []
  refine r_aload_n dX8_sign_0 rfl 0 rfl ?_
  refine r_iload_n dX8_sign_1 rfl 1 rfl ?_
  refine r_callV (st := []) [.int (nI l)] 20 400 dX8_sign_2 kX8_letterAt nX8_letterAt lRX8_188 (hW.g 0 0 rfl) rfl (c_X8_letterAt_t hW hI hl) rfl rfl (Nat.le_of_ble_eq_true rfl) (Nat.le_refl _) (Nat.le_refl _) (fun _ _ h => h.elim) ?_
  refine cx_det (st2 := [.ref (ad 27 l)]) rfl ?_
  refine r_astore [(5, .ref (ad 27 l)), (0, .ref (ad 0 0)), (1, .int (nI l)), (2, .int y), (3, .int z), (4, .int u)] dX8_sign_5 (by decide) rfl ?_
  refine r_aload_n dX8_sign_7 rfl 1 rfl ?_
  refine r_iload_n dX8_sign_8 rfl 3 rfl ?_
  refine r_callV (st := []) [.int y] 20 400 dX8_sign_9 kX8_dataAt nX8_dataAt lRX8_214 (hW.g 0 0 rfl) rfl (c_X8_dataAt_f hW hI hy) rfl rfl (Nat.le_of_ble_eq_true rfl) (Nat.le_refl _) (Nat.le_refl _) (fun _ _ h => h.elim) ?_
  refine cx_det (st2 := [.null]) rfl ?_
  refine r_astoreN [(6, .null), (5, .ref (ad 27 l)), (0, .ref (ad 0 0)), (1, .int (nI l)), (2, .int y), (3, .int z), (4, .int u)] dX8_sign_12 (by decide) rfl ?_
  refine r_aload dX8_sign_14 1 rfl ?_
  refine r_ifnullR dX8_sign_16 ?_
  refine r_aloadN dX8_sign_19 0 rfl ?_
  refine r_ifnullN 36 dX8_sign_21 (by decide) ?_
  refine r_throw "java/lang/IndexOutOfBoundsException" "no such letter, data, language or place" dX8_sign_36 dX8_sign_39 dX8_sign_40 dX8_sign_42 dX8_sign_45 rfl (by decide +kernel) t_321 t_32 (by decide +kernel) exB_at exB_ng (by decide +kernel) (by omega) (by decide) (by decide) (Nat.le_of_ble_eq_true rfl) ?_
  exact ⟨rfl, rfl⟩
set_option maxRecDepth 100000 in
set_option maxHeartbeats 4000000 in
theorem c_sign_1d {d b0 : Nat} {G : GH} {A B : ST} {ad : AD} (hW : World A B ad G) (hI : Inv A) {z u : Int32} {l t : Nat} (hl : l < A 15 0) (ht : t < A 18 0) (hz : inB z 3 = false) : CT mX8_sign (d + 8) b0 G [.ref (ad 0 0), .int (nI l), .int (nI t), .int z, .int u] 20 400 (fun _ _ => False) (fun E G' => E = "java/lang/IndexOutOfBoundsException" ∧ G' = G) := by
  have hb0 := hI.b0
  have hb2 := hI.b2
  have hb9 := hI.b9
  have hb15 := hI.b15
  have hb18 := hI.b18
  refine CT.intro (by decide +kernel) rfl (Nat.le_of_ble_eq_true rfl) ?_
  show WP mX8_sign _ _ _ _ _ 20 400 0 [(0, .ref (ad 0 0)), (1, .int (nI l)), (2, .int (nI t)), (3, .int z), (4, .int u)] []
  refine r_aload_n dX8_sign_0 rfl 0 rfl ?_
  refine r_iload_n dX8_sign_1 rfl 1 rfl ?_
  refine r_callV (st := []) [.int (nI l)] 20 400 dX8_sign_2 kX8_letterAt nX8_letterAt lRX8_188 (hW.g 0 0 rfl) rfl (c_X8_letterAt_t hW hI hl) rfl rfl (Nat.le_of_ble_eq_true rfl) (Nat.le_refl _) (Nat.le_refl _) (fun _ _ h => h.elim) ?_
  refine cx_det (st2 := [.ref (ad 27 l)]) rfl ?_
  refine r_astore [(5, .ref (ad 27 l)), (0, .ref (ad 0 0)), (1, .int (nI l)), (2, .int (nI t)), (3, .int z), (4, .int u)] dX8_sign_5 (by decide) rfl ?_
  refine r_aload_n dX8_sign_7 rfl 1 rfl ?_
  refine r_iload_n dX8_sign_8 rfl 3 rfl ?_
  refine r_callV (st := []) [.int (nI t)] 20 400 dX8_sign_9 kX8_dataAt nX8_dataAt lRX8_214 (hW.g 0 0 rfl) rfl (c_X8_dataAt_t hW hI ht) rfl rfl (Nat.le_of_ble_eq_true rfl) (Nat.le_refl _) (Nat.le_refl _) (fun _ _ h => h.elim) ?_
  refine cx_det (st2 := [.ref (ad 29 t)]) rfl ?_
  refine r_astore [(6, .ref (ad 29 t)), (5, .ref (ad 27 l)), (0, .ref (ad 0 0)), (1, .int (nI l)), (2, .int (nI t)), (3, .int z), (4, .int u)] dX8_sign_12 (by decide) rfl ?_
  refine r_aload dX8_sign_14 1 rfl ?_
  refine r_ifnullR dX8_sign_16 ?_
  refine r_aload dX8_sign_19 0 rfl ?_
  refine r_ifnullR dX8_sign_21 ?_
  refine r_iload_n dX8_sign_24 rfl 5 rfl ?_
  refine r_callS (st := []) [.int z] 20 400 dX8_sign_25 kX8_isLanguage nX8_isLanguage lRX8_92 (c_isL z) rfl rfl (Nat.le_of_ble_eq_true rfl) (Nat.le_refl _) (Nat.le_refl _) (fun _ _ h => h.elim) ?_
  refine cx_det (st2 := [.int (b2i (inB z 3))]) rfl ?_
  refine r_if_eq 36 dX8_sign_28 (by decide) (fun c_1 => ?_) (fun c_1 => absurd (b2i_z hz) c_1)
  refine r_throw "java/lang/IndexOutOfBoundsException" "no such letter, data, language or place" dX8_sign_36 dX8_sign_39 dX8_sign_40 dX8_sign_42 dX8_sign_45 rfl (by decide +kernel) t_321 t_32 (by decide +kernel) exB_at exB_ng (by decide +kernel) (by omega) (by decide) (by decide) (Nat.le_of_ble_eq_true rfl) ?_
  exact ⟨rfl, rfl⟩
set_option maxRecDepth 100000 in
set_option maxHeartbeats 4000000 in
theorem c_sign_1e {d b0 : Nat} {G : GH} {A B : ST} {ad : AD} (hW : World A B ad G) (hI : Inv A) {u : Int32} {l t : Nat} (hl : l < A 15 0) (ht : t < A 18 0) {g : Nat} (hg : g < 3) (hu : u < 0) : CT mX8_sign (d + 8) b0 G [.ref (ad 0 0), .int (nI l), .int (nI t), .int (nI g), .int u] 20 400 (fun _ _ => False) (fun E G' => E = "java/lang/IndexOutOfBoundsException" ∧ G' = G) := by
  have hb0 := hI.b0
  have hb2 := hI.b2
  have hb9 := hI.b9
  have hb15 := hI.b15
  have hb18 := hI.b18
  refine CT.intro (by decide +kernel) rfl (Nat.le_of_ble_eq_true rfl) ?_
  show WP mX8_sign _ _ _ _ _ 20 400 0 [(0, .ref (ad 0 0)), (1, .int (nI l)), (2, .int (nI t)), (3, .int (nI g)), (4, .int u)] []
  refine r_aload_n dX8_sign_0 rfl 0 rfl ?_
  refine r_iload_n dX8_sign_1 rfl 1 rfl ?_
  refine r_callV (st := []) [.int (nI l)] 20 400 dX8_sign_2 kX8_letterAt nX8_letterAt lRX8_188 (hW.g 0 0 rfl) rfl (c_X8_letterAt_t hW hI hl) rfl rfl (Nat.le_of_ble_eq_true rfl) (Nat.le_refl _) (Nat.le_refl _) (fun _ _ h => h.elim) ?_
  refine cx_det (st2 := [.ref (ad 27 l)]) rfl ?_
  refine r_astore [(5, .ref (ad 27 l)), (0, .ref (ad 0 0)), (1, .int (nI l)), (2, .int (nI t)), (3, .int (nI g)), (4, .int u)] dX8_sign_5 (by decide) rfl ?_
  refine r_aload_n dX8_sign_7 rfl 1 rfl ?_
  refine r_iload_n dX8_sign_8 rfl 3 rfl ?_
  refine r_callV (st := []) [.int (nI t)] 20 400 dX8_sign_9 kX8_dataAt nX8_dataAt lRX8_214 (hW.g 0 0 rfl) rfl (c_X8_dataAt_t hW hI ht) rfl rfl (Nat.le_of_ble_eq_true rfl) (Nat.le_refl _) (Nat.le_refl _) (fun _ _ h => h.elim) ?_
  refine cx_det (st2 := [.ref (ad 29 t)]) rfl ?_
  refine r_astore [(6, .ref (ad 29 t)), (5, .ref (ad 27 l)), (0, .ref (ad 0 0)), (1, .int (nI l)), (2, .int (nI t)), (3, .int (nI g)), (4, .int u)] dX8_sign_12 (by decide) rfl ?_
  refine r_aload dX8_sign_14 1 rfl ?_
  refine r_ifnullR dX8_sign_16 ?_
  refine r_aload dX8_sign_19 0 rfl ?_
  refine r_ifnullR dX8_sign_21 ?_
  refine r_iload_n dX8_sign_24 rfl 5 rfl ?_
  refine r_callS (st := []) [.int (nI g)] 20 400 dX8_sign_25 kX8_isLanguage nX8_isLanguage lRX8_92 (c_isL (nI g)) rfl rfl (Nat.le_of_ble_eq_true rfl) (Nat.le_refl _) (Nat.le_refl _) (fun _ _ h => h.elim) ?_
  refine cx_det (st2 := [.int (b2i (inB (nI g) 3))]) rfl ?_
  refine r_if_eq 36 dX8_sign_28 (by decide) (fun c_1 => absurd c_1 (b2i_no (inB_k hg (by decide)))) (fun c_1 => ?_)
  refine r_iload dX8_sign_31 6 rfl ?_
  refine r_if_ge 46 dX8_sign_33 (by decide) (fun c_2 => absurd c_2 (fun h => absurd hu (Int32.not_lt.mpr h))) (fun c_2 => ?_)
  refine r_throw "java/lang/IndexOutOfBoundsException" "no such letter, data, language or place" dX8_sign_36 dX8_sign_39 dX8_sign_40 dX8_sign_42 dX8_sign_45 rfl (by decide +kernel) t_321 t_32 (by decide +kernel) exB_at exB_ng (by decide +kernel) (by omega) (by decide) (by decide) (Nat.le_of_ble_eq_true rfl) ?_
  exact ⟨rfl, rfl⟩
set_option maxRecDepth 100000 in
set_option maxHeartbeats 4000000 in
theorem c_signAnew_1a {d b0 : Nat} {G : GH} {A B : ST} {ad : AD} (hW : World A B ad G) (hI : Inv A) {x y z u : Int32} (hx : inB x (A 15 0) = false) (hy : inB y (A 18 0) = false) : CT mX8_signAnew (d + 8) b0 G [.ref (ad 0 0), .int x, .int y, .int z, .int u] 20 400 (fun _ _ => False) (fun E G' => E = "java/lang/IndexOutOfBoundsException" ∧ G' = G) := by
  have hb0 := hI.b0
  have hb2 := hI.b2
  have hb9 := hI.b9
  have hb15 := hI.b15
  have hb18 := hI.b18
  refine CT.intro (by decide +kernel) rfl (Nat.le_of_ble_eq_true rfl) ?_
  show WP mX8_signAnew _ _ _ _ _ 20 400 0 [(0, .ref (ad 0 0)), (1, .int x), (2, .int y), (3, .int z), (4, .int u)] []
  refine r_aload_n dX8_signAnew_0 rfl 0 rfl ?_
  refine r_iload_n dX8_signAnew_1 rfl 1 rfl ?_
  refine r_callV (st := []) [.int x] 20 400 dX8_signAnew_2 kX8_letterAt nX8_letterAt lRX8_188 (hW.g 0 0 rfl) rfl (c_X8_letterAt_f hW hI hx) rfl rfl (Nat.le_of_ble_eq_true rfl) (Nat.le_refl _) (Nat.le_refl _) (fun _ _ h => h.elim) ?_
  refine cx_det (st2 := [.null]) rfl ?_
  refine r_astoreN [(5, .null), (0, .ref (ad 0 0)), (1, .int x), (2, .int y), (3, .int z), (4, .int u)] dX8_signAnew_5 (by decide) rfl ?_
  refine r_aload_n dX8_signAnew_7 rfl 1 rfl ?_
  refine r_iload_n dX8_signAnew_8 rfl 3 rfl ?_
  refine r_callV (st := []) [.int y] 20 400 dX8_signAnew_9 kX8_dataAt nX8_dataAt lRX8_214 (hW.g 0 0 rfl) rfl (c_X8_dataAt_f hW hI hy) rfl rfl (Nat.le_of_ble_eq_true rfl) (Nat.le_refl _) (Nat.le_refl _) (fun _ _ h => h.elim) ?_
  refine cx_det (st2 := [.null]) rfl ?_
  refine r_astoreN [(6, .null), (5, .null), (0, .ref (ad 0 0)), (1, .int x), (2, .int y), (3, .int z), (4, .int u)] dX8_signAnew_12 (by decide) rfl ?_
  refine r_aloadN dX8_signAnew_14 1 rfl ?_
  refine r_ifnullN 36 dX8_signAnew_16 (by decide) ?_
  refine r_throw "java/lang/IndexOutOfBoundsException" "no such letter, data, language or place" dX8_signAnew_36 dX8_signAnew_39 dX8_signAnew_40 dX8_signAnew_42 dX8_signAnew_45 rfl (by decide +kernel) t_321 t_32 (by decide +kernel) exB_at exB_ng (by decide +kernel) (by omega) (by decide) (by decide) (Nat.le_of_ble_eq_true rfl) ?_
  exact ⟨rfl, rfl⟩
set_option maxRecDepth 100000 in
set_option maxHeartbeats 4000000 in
theorem c_signAnew_1b {d b0 : Nat} {G : GH} {A B : ST} {ad : AD} (hW : World A B ad G) (hI : Inv A) {x z u : Int32} {t : Nat} (hx : inB x (A 15 0) = false) (ht : t < A 18 0) : CT mX8_signAnew (d + 8) b0 G [.ref (ad 0 0), .int x, .int (nI t), .int z, .int u] 20 400 (fun _ _ => False) (fun E G' => E = "java/lang/IndexOutOfBoundsException" ∧ G' = G) := by
  have hb0 := hI.b0
  have hb2 := hI.b2
  have hb9 := hI.b9
  have hb15 := hI.b15
  have hb18 := hI.b18
  refine CT.intro (by decide +kernel) rfl (Nat.le_of_ble_eq_true rfl) ?_
  show WP mX8_signAnew _ _ _ _ _ 20 400 0 [(0, .ref (ad 0 0)), (1, .int x), (2, .int (nI t)), (3, .int z), (4, .int u)] []
  refine r_aload_n dX8_signAnew_0 rfl 0 rfl ?_
  refine r_iload_n dX8_signAnew_1 rfl 1 rfl ?_
  refine r_callV (st := []) [.int x] 20 400 dX8_signAnew_2 kX8_letterAt nX8_letterAt lRX8_188 (hW.g 0 0 rfl) rfl (c_X8_letterAt_f hW hI hx) rfl rfl (Nat.le_of_ble_eq_true rfl) (Nat.le_refl _) (Nat.le_refl _) (fun _ _ h => h.elim) ?_
  refine cx_det (st2 := [.null]) rfl ?_
  refine r_astoreN [(5, .null), (0, .ref (ad 0 0)), (1, .int x), (2, .int (nI t)), (3, .int z), (4, .int u)] dX8_signAnew_5 (by decide) rfl ?_
  refine r_aload_n dX8_signAnew_7 rfl 1 rfl ?_
  refine r_iload_n dX8_signAnew_8 rfl 3 rfl ?_
  refine r_callV (st := []) [.int (nI t)] 20 400 dX8_signAnew_9 kX8_dataAt nX8_dataAt lRX8_214 (hW.g 0 0 rfl) rfl (c_X8_dataAt_t hW hI ht) rfl rfl (Nat.le_of_ble_eq_true rfl) (Nat.le_refl _) (Nat.le_refl _) (fun _ _ h => h.elim) ?_
  refine cx_det (st2 := [.ref (ad 29 t)]) rfl ?_
  refine r_astore [(6, .ref (ad 29 t)), (5, .null), (0, .ref (ad 0 0)), (1, .int x), (2, .int (nI t)), (3, .int z), (4, .int u)] dX8_signAnew_12 (by decide) rfl ?_
  refine r_aloadN dX8_signAnew_14 1 rfl ?_
  refine r_ifnullN 36 dX8_signAnew_16 (by decide) ?_
  refine r_throw "java/lang/IndexOutOfBoundsException" "no such letter, data, language or place" dX8_signAnew_36 dX8_signAnew_39 dX8_signAnew_40 dX8_signAnew_42 dX8_signAnew_45 rfl (by decide +kernel) t_321 t_32 (by decide +kernel) exB_at exB_ng (by decide +kernel) (by omega) (by decide) (by decide) (Nat.le_of_ble_eq_true rfl) ?_
  exact ⟨rfl, rfl⟩
set_option maxRecDepth 100000 in
set_option maxHeartbeats 4000000 in
theorem c_signAnew_1c {d b0 : Nat} {G : GH} {A B : ST} {ad : AD} (hW : World A B ad G) (hI : Inv A) {y z u : Int32} {l : Nat} (hl : l < A 15 0) (hy : inB y (A 18 0) = false) : CT mX8_signAnew (d + 8) b0 G [.ref (ad 0 0), .int (nI l), .int y, .int z, .int u] 20 400 (fun _ _ => False) (fun E G' => E = "java/lang/IndexOutOfBoundsException" ∧ G' = G) := by
  have hb0 := hI.b0
  have hb2 := hI.b2
  have hb9 := hI.b9
  have hb15 := hI.b15
  have hb18 := hI.b18
  refine CT.intro (by decide +kernel) rfl (Nat.le_of_ble_eq_true rfl) ?_
  show WP mX8_signAnew _ _ _ _ _ 20 400 0 [(0, .ref (ad 0 0)), (1, .int (nI l)), (2, .int y), (3, .int z), (4, .int u)] []
  refine r_aload_n dX8_signAnew_0 rfl 0 rfl ?_
  refine r_iload_n dX8_signAnew_1 rfl 1 rfl ?_
  refine r_callV (st := []) [.int (nI l)] 20 400 dX8_signAnew_2 kX8_letterAt nX8_letterAt lRX8_188 (hW.g 0 0 rfl) rfl (c_X8_letterAt_t hW hI hl) rfl rfl (Nat.le_of_ble_eq_true rfl) (Nat.le_refl _) (Nat.le_refl _) (fun _ _ h => h.elim) ?_
  refine cx_det (st2 := [.ref (ad 27 l)]) rfl ?_
  refine r_astore [(5, .ref (ad 27 l)), (0, .ref (ad 0 0)), (1, .int (nI l)), (2, .int y), (3, .int z), (4, .int u)] dX8_signAnew_5 (by decide) rfl ?_
  refine r_aload_n dX8_signAnew_7 rfl 1 rfl ?_
  refine r_iload_n dX8_signAnew_8 rfl 3 rfl ?_
  refine r_callV (st := []) [.int y] 20 400 dX8_signAnew_9 kX8_dataAt nX8_dataAt lRX8_214 (hW.g 0 0 rfl) rfl (c_X8_dataAt_f hW hI hy) rfl rfl (Nat.le_of_ble_eq_true rfl) (Nat.le_refl _) (Nat.le_refl _) (fun _ _ h => h.elim) ?_
  refine cx_det (st2 := [.null]) rfl ?_
  refine r_astoreN [(6, .null), (5, .ref (ad 27 l)), (0, .ref (ad 0 0)), (1, .int (nI l)), (2, .int y), (3, .int z), (4, .int u)] dX8_signAnew_12 (by decide) rfl ?_
  refine r_aload dX8_signAnew_14 1 rfl ?_
  refine r_ifnullR dX8_signAnew_16 ?_
  refine r_aloadN dX8_signAnew_19 0 rfl ?_
  refine r_ifnullN 36 dX8_signAnew_21 (by decide) ?_
  refine r_throw "java/lang/IndexOutOfBoundsException" "no such letter, data, language or place" dX8_signAnew_36 dX8_signAnew_39 dX8_signAnew_40 dX8_signAnew_42 dX8_signAnew_45 rfl (by decide +kernel) t_321 t_32 (by decide +kernel) exB_at exB_ng (by decide +kernel) (by omega) (by decide) (by decide) (Nat.le_of_ble_eq_true rfl) ?_
  exact ⟨rfl, rfl⟩
set_option maxRecDepth 100000 in
set_option maxHeartbeats 4000000 in
theorem c_signAnew_1d {d b0 : Nat} {G : GH} {A B : ST} {ad : AD} (hW : World A B ad G) (hI : Inv A) {z u : Int32} {l t : Nat} (hl : l < A 15 0) (ht : t < A 18 0) (hz : inB z 3 = false) : CT mX8_signAnew (d + 8) b0 G [.ref (ad 0 0), .int (nI l), .int (nI t), .int z, .int u] 20 400 (fun _ _ => False) (fun E G' => E = "java/lang/IndexOutOfBoundsException" ∧ G' = G) := by
  have hb0 := hI.b0
  have hb2 := hI.b2
  have hb9 := hI.b9
  have hb15 := hI.b15
  have hb18 := hI.b18
  refine CT.intro (by decide +kernel) rfl (Nat.le_of_ble_eq_true rfl) ?_
  show WP mX8_signAnew _ _ _ _ _ 20 400 0 [(0, .ref (ad 0 0)), (1, .int (nI l)), (2, .int (nI t)), (3, .int z), (4, .int u)] []
  refine r_aload_n dX8_signAnew_0 rfl 0 rfl ?_
  refine r_iload_n dX8_signAnew_1 rfl 1 rfl ?_
  refine r_callV (st := []) [.int (nI l)] 20 400 dX8_signAnew_2 kX8_letterAt nX8_letterAt lRX8_188 (hW.g 0 0 rfl) rfl (c_X8_letterAt_t hW hI hl) rfl rfl (Nat.le_of_ble_eq_true rfl) (Nat.le_refl _) (Nat.le_refl _) (fun _ _ h => h.elim) ?_
  refine cx_det (st2 := [.ref (ad 27 l)]) rfl ?_
  refine r_astore [(5, .ref (ad 27 l)), (0, .ref (ad 0 0)), (1, .int (nI l)), (2, .int (nI t)), (3, .int z), (4, .int u)] dX8_signAnew_5 (by decide) rfl ?_
  refine r_aload_n dX8_signAnew_7 rfl 1 rfl ?_
  refine r_iload_n dX8_signAnew_8 rfl 3 rfl ?_
  refine r_callV (st := []) [.int (nI t)] 20 400 dX8_signAnew_9 kX8_dataAt nX8_dataAt lRX8_214 (hW.g 0 0 rfl) rfl (c_X8_dataAt_t hW hI ht) rfl rfl (Nat.le_of_ble_eq_true rfl) (Nat.le_refl _) (Nat.le_refl _) (fun _ _ h => h.elim) ?_
  refine cx_det (st2 := [.ref (ad 29 t)]) rfl ?_
  refine r_astore [(6, .ref (ad 29 t)), (5, .ref (ad 27 l)), (0, .ref (ad 0 0)), (1, .int (nI l)), (2, .int (nI t)), (3, .int z), (4, .int u)] dX8_signAnew_12 (by decide) rfl ?_
  refine r_aload dX8_signAnew_14 1 rfl ?_
  refine r_ifnullR dX8_signAnew_16 ?_
  refine r_aload dX8_signAnew_19 0 rfl ?_
  refine r_ifnullR dX8_signAnew_21 ?_
  refine r_iload_n dX8_signAnew_24 rfl 5 rfl ?_
  refine r_callS (st := []) [.int z] 20 400 dX8_signAnew_25 kX8_isLanguage nX8_isLanguage lRX8_92 (c_isL z) rfl rfl (Nat.le_of_ble_eq_true rfl) (Nat.le_refl _) (Nat.le_refl _) (fun _ _ h => h.elim) ?_
  refine cx_det (st2 := [.int (b2i (inB z 3))]) rfl ?_
  refine r_if_eq 36 dX8_signAnew_28 (by decide) (fun c_1 => ?_) (fun c_1 => absurd (b2i_z hz) c_1)
  refine r_throw "java/lang/IndexOutOfBoundsException" "no such letter, data, language or place" dX8_signAnew_36 dX8_signAnew_39 dX8_signAnew_40 dX8_signAnew_42 dX8_signAnew_45 rfl (by decide +kernel) t_321 t_32 (by decide +kernel) exB_at exB_ng (by decide +kernel) (by omega) (by decide) (by decide) (Nat.le_of_ble_eq_true rfl) ?_
  exact ⟨rfl, rfl⟩
set_option maxRecDepth 100000 in
set_option maxHeartbeats 4000000 in
theorem c_signAnew_1e {d b0 : Nat} {G : GH} {A B : ST} {ad : AD} (hW : World A B ad G) (hI : Inv A) {u : Int32} {l t : Nat} (hl : l < A 15 0) (ht : t < A 18 0) {g : Nat} (hg : g < 3) (hu : u < 0) : CT mX8_signAnew (d + 8) b0 G [.ref (ad 0 0), .int (nI l), .int (nI t), .int (nI g), .int u] 20 400 (fun _ _ => False) (fun E G' => E = "java/lang/IndexOutOfBoundsException" ∧ G' = G) := by
  have hb0 := hI.b0
  have hb2 := hI.b2
  have hb9 := hI.b9
  have hb15 := hI.b15
  have hb18 := hI.b18
  refine CT.intro (by decide +kernel) rfl (Nat.le_of_ble_eq_true rfl) ?_
  show WP mX8_signAnew _ _ _ _ _ 20 400 0 [(0, .ref (ad 0 0)), (1, .int (nI l)), (2, .int (nI t)), (3, .int (nI g)), (4, .int u)] []
  refine r_aload_n dX8_signAnew_0 rfl 0 rfl ?_
  refine r_iload_n dX8_signAnew_1 rfl 1 rfl ?_
  refine r_callV (st := []) [.int (nI l)] 20 400 dX8_signAnew_2 kX8_letterAt nX8_letterAt lRX8_188 (hW.g 0 0 rfl) rfl (c_X8_letterAt_t hW hI hl) rfl rfl (Nat.le_of_ble_eq_true rfl) (Nat.le_refl _) (Nat.le_refl _) (fun _ _ h => h.elim) ?_
  refine cx_det (st2 := [.ref (ad 27 l)]) rfl ?_
  refine r_astore [(5, .ref (ad 27 l)), (0, .ref (ad 0 0)), (1, .int (nI l)), (2, .int (nI t)), (3, .int (nI g)), (4, .int u)] dX8_signAnew_5 (by decide) rfl ?_
  refine r_aload_n dX8_signAnew_7 rfl 1 rfl ?_
  refine r_iload_n dX8_signAnew_8 rfl 3 rfl ?_
  refine r_callV (st := []) [.int (nI t)] 20 400 dX8_signAnew_9 kX8_dataAt nX8_dataAt lRX8_214 (hW.g 0 0 rfl) rfl (c_X8_dataAt_t hW hI ht) rfl rfl (Nat.le_of_ble_eq_true rfl) (Nat.le_refl _) (Nat.le_refl _) (fun _ _ h => h.elim) ?_
  refine cx_det (st2 := [.ref (ad 29 t)]) rfl ?_
  refine r_astore [(6, .ref (ad 29 t)), (5, .ref (ad 27 l)), (0, .ref (ad 0 0)), (1, .int (nI l)), (2, .int (nI t)), (3, .int (nI g)), (4, .int u)] dX8_signAnew_12 (by decide) rfl ?_
  refine r_aload dX8_signAnew_14 1 rfl ?_
  refine r_ifnullR dX8_signAnew_16 ?_
  refine r_aload dX8_signAnew_19 0 rfl ?_
  refine r_ifnullR dX8_signAnew_21 ?_
  refine r_iload_n dX8_signAnew_24 rfl 5 rfl ?_
  refine r_callS (st := []) [.int (nI g)] 20 400 dX8_signAnew_25 kX8_isLanguage nX8_isLanguage lRX8_92 (c_isL (nI g)) rfl rfl (Nat.le_of_ble_eq_true rfl) (Nat.le_refl _) (Nat.le_refl _) (fun _ _ h => h.elim) ?_
  refine cx_det (st2 := [.int (b2i (inB (nI g) 3))]) rfl ?_
  refine r_if_eq 36 dX8_signAnew_28 (by decide) (fun c_1 => absurd c_1 (b2i_no (inB_k hg (by decide)))) (fun c_1 => ?_)
  refine r_iload dX8_signAnew_31 6 rfl ?_
  refine r_if_ge 46 dX8_signAnew_33 (by decide) (fun c_2 => absurd c_2 (fun h => absurd hu (Int32.not_lt.mpr h))) (fun c_2 => ?_)
  refine r_throw "java/lang/IndexOutOfBoundsException" "no such letter, data, language or place" dX8_signAnew_36 dX8_signAnew_39 dX8_signAnew_40 dX8_signAnew_42 dX8_signAnew_45 rfl (by decide +kernel) t_321 t_32 (by decide +kernel) exB_at exB_ng (by decide +kernel) (by omega) (by decide) (by decide) (Nat.le_of_ble_eq_true rfl) ?_
  exact ⟨rfl, rfl⟩
set_option maxRecDepth 100000 in
set_option maxHeartbeats 4000000 in
theorem c_costs_1a {d b0 : Nat} {G : GH} {A B : ST} {ad : AD} (hW : World A B ad G) (hI : Inv A) {x y z : Int32} (hx : inB x (A 15 0) = false) (hy : inB y (A 18 0) = false) : CT mX8_costs (d + 8) b0 G [.ref (ad 0 0), .int x, .int y, .int z] 20 400 (fun _ _ => False) (fun E G' => E = "java/lang/IndexOutOfBoundsException" ∧ G' = G) := by
  have hb0 := hI.b0
  have hb2 := hI.b2
  have hb9 := hI.b9
  have hb15 := hI.b15
  have hb18 := hI.b18
  refine CT.intro (by decide +kernel) rfl (Nat.le_of_ble_eq_true rfl) ?_
  show WP mX8_costs _ _ _ _ _ 20 400 0 [(0, .ref (ad 0 0)), (1, .int x), (2, .int y), (3, .int z)] []
  refine r_aload_n dX8_costs_0 rfl 0 rfl ?_
  refine r_iload_n dX8_costs_1 rfl 1 rfl ?_
  refine r_callV (st := []) [.int x] 20 400 dX8_costs_2 kX8_letterAt nX8_letterAt lRX8_188 (hW.g 0 0 rfl) rfl (c_X8_letterAt_f hW hI hx) rfl rfl (Nat.le_of_ble_eq_true rfl) (Nat.le_refl _) (Nat.le_refl _) (fun _ _ h => h.elim) ?_
  refine cx_det (st2 := [.null]) rfl ?_
  refine r_astoreN [(4, .null), (0, .ref (ad 0 0)), (1, .int x), (2, .int y), (3, .int z)] dX8_costs_5 (by decide) rfl ?_
  refine r_aload_n dX8_costs_7 rfl 1 rfl ?_
  refine r_iload_n dX8_costs_8 rfl 3 rfl ?_
  refine r_callV (st := []) [.int y] 20 400 dX8_costs_9 kX8_dataAt nX8_dataAt lRX8_214 (hW.g 0 0 rfl) rfl (c_X8_dataAt_f hW hI hy) rfl rfl (Nat.le_of_ble_eq_true rfl) (Nat.le_refl _) (Nat.le_refl _) (fun _ _ h => h.elim) ?_
  refine cx_det (st2 := [.null]) rfl ?_
  refine r_astoreN [(5, .null), (4, .null), (0, .ref (ad 0 0)), (1, .int x), (2, .int y), (3, .int z)] dX8_costs_12 (by decide) rfl ?_
  refine r_aloadN dX8_costs_14 1 rfl ?_
  refine r_ifnullN 36 dX8_costs_16 (by decide) ?_
  refine r_throw "java/lang/IndexOutOfBoundsException" "no such letter, data or language" dX8_costs_36 dX8_costs_39 dX8_costs_40 dX8_costs_42 dX8_costs_45 rfl (by decide +kernel) t_321 t_32 (by decide +kernel) exB_at exB_ng (by decide +kernel) (by omega) (by decide) (by decide) (Nat.le_of_ble_eq_true rfl) ?_
  exact ⟨rfl, rfl⟩
set_option maxRecDepth 100000 in
set_option maxHeartbeats 4000000 in
theorem c_costs_1b {d b0 : Nat} {G : GH} {A B : ST} {ad : AD} (hW : World A B ad G) (hI : Inv A) {x z : Int32} {t : Nat} (hx : inB x (A 15 0) = false) (ht : t < A 18 0) : CT mX8_costs (d + 8) b0 G [.ref (ad 0 0), .int x, .int (nI t), .int z] 20 400 (fun _ _ => False) (fun E G' => E = "java/lang/IndexOutOfBoundsException" ∧ G' = G) := by
  have hb0 := hI.b0
  have hb2 := hI.b2
  have hb9 := hI.b9
  have hb15 := hI.b15
  have hb18 := hI.b18
  refine CT.intro (by decide +kernel) rfl (Nat.le_of_ble_eq_true rfl) ?_
  show WP mX8_costs _ _ _ _ _ 20 400 0 [(0, .ref (ad 0 0)), (1, .int x), (2, .int (nI t)), (3, .int z)] []
  refine r_aload_n dX8_costs_0 rfl 0 rfl ?_
  refine r_iload_n dX8_costs_1 rfl 1 rfl ?_
  refine r_callV (st := []) [.int x] 20 400 dX8_costs_2 kX8_letterAt nX8_letterAt lRX8_188 (hW.g 0 0 rfl) rfl (c_X8_letterAt_f hW hI hx) rfl rfl (Nat.le_of_ble_eq_true rfl) (Nat.le_refl _) (Nat.le_refl _) (fun _ _ h => h.elim) ?_
  refine cx_det (st2 := [.null]) rfl ?_
  refine r_astoreN [(4, .null), (0, .ref (ad 0 0)), (1, .int x), (2, .int (nI t)), (3, .int z)] dX8_costs_5 (by decide) rfl ?_
  refine r_aload_n dX8_costs_7 rfl 1 rfl ?_
  refine r_iload_n dX8_costs_8 rfl 3 rfl ?_
  refine r_callV (st := []) [.int (nI t)] 20 400 dX8_costs_9 kX8_dataAt nX8_dataAt lRX8_214 (hW.g 0 0 rfl) rfl (c_X8_dataAt_t hW hI ht) rfl rfl (Nat.le_of_ble_eq_true rfl) (Nat.le_refl _) (Nat.le_refl _) (fun _ _ h => h.elim) ?_
  refine cx_det (st2 := [.ref (ad 29 t)]) rfl ?_
  refine r_astore [(5, .ref (ad 29 t)), (4, .null), (0, .ref (ad 0 0)), (1, .int x), (2, .int (nI t)), (3, .int z)] dX8_costs_12 (by decide) rfl ?_
  refine r_aloadN dX8_costs_14 1 rfl ?_
  refine r_ifnullN 36 dX8_costs_16 (by decide) ?_
  refine r_throw "java/lang/IndexOutOfBoundsException" "no such letter, data or language" dX8_costs_36 dX8_costs_39 dX8_costs_40 dX8_costs_42 dX8_costs_45 rfl (by decide +kernel) t_321 t_32 (by decide +kernel) exB_at exB_ng (by decide +kernel) (by omega) (by decide) (by decide) (Nat.le_of_ble_eq_true rfl) ?_
  exact ⟨rfl, rfl⟩
set_option maxRecDepth 100000 in
set_option maxHeartbeats 4000000 in
theorem c_costs_1c {d b0 : Nat} {G : GH} {A B : ST} {ad : AD} (hW : World A B ad G) (hI : Inv A) {y z : Int32} {l : Nat} (hl : l < A 15 0) (hy : inB y (A 18 0) = false) : CT mX8_costs (d + 8) b0 G [.ref (ad 0 0), .int (nI l), .int y, .int z] 20 400 (fun _ _ => False) (fun E G' => E = "java/lang/IndexOutOfBoundsException" ∧ G' = G) := by
  have hb0 := hI.b0
  have hb2 := hI.b2
  have hb9 := hI.b9
  have hb15 := hI.b15
  have hb18 := hI.b18
  refine CT.intro (by decide +kernel) rfl (Nat.le_of_ble_eq_true rfl) ?_
  show WP mX8_costs _ _ _ _ _ 20 400 0 [(0, .ref (ad 0 0)), (1, .int (nI l)), (2, .int y), (3, .int z)] []
  refine r_aload_n dX8_costs_0 rfl 0 rfl ?_
  refine r_iload_n dX8_costs_1 rfl 1 rfl ?_
  refine r_callV (st := []) [.int (nI l)] 20 400 dX8_costs_2 kX8_letterAt nX8_letterAt lRX8_188 (hW.g 0 0 rfl) rfl (c_X8_letterAt_t hW hI hl) rfl rfl (Nat.le_of_ble_eq_true rfl) (Nat.le_refl _) (Nat.le_refl _) (fun _ _ h => h.elim) ?_
  refine cx_det (st2 := [.ref (ad 27 l)]) rfl ?_
  refine r_astore [(4, .ref (ad 27 l)), (0, .ref (ad 0 0)), (1, .int (nI l)), (2, .int y), (3, .int z)] dX8_costs_5 (by decide) rfl ?_
  refine r_aload_n dX8_costs_7 rfl 1 rfl ?_
  refine r_iload_n dX8_costs_8 rfl 3 rfl ?_
  refine r_callV (st := []) [.int y] 20 400 dX8_costs_9 kX8_dataAt nX8_dataAt lRX8_214 (hW.g 0 0 rfl) rfl (c_X8_dataAt_f hW hI hy) rfl rfl (Nat.le_of_ble_eq_true rfl) (Nat.le_refl _) (Nat.le_refl _) (fun _ _ h => h.elim) ?_
  refine cx_det (st2 := [.null]) rfl ?_
  refine r_astoreN [(5, .null), (4, .ref (ad 27 l)), (0, .ref (ad 0 0)), (1, .int (nI l)), (2, .int y), (3, .int z)] dX8_costs_12 (by decide) rfl ?_
  refine r_aload dX8_costs_14 1 rfl ?_
  refine r_ifnullR dX8_costs_16 ?_
  refine r_aloadN dX8_costs_19 0 rfl ?_
  refine r_ifnullN 36 dX8_costs_21 (by decide) ?_
  refine r_throw "java/lang/IndexOutOfBoundsException" "no such letter, data or language" dX8_costs_36 dX8_costs_39 dX8_costs_40 dX8_costs_42 dX8_costs_45 rfl (by decide +kernel) t_321 t_32 (by decide +kernel) exB_at exB_ng (by decide +kernel) (by omega) (by decide) (by decide) (Nat.le_of_ble_eq_true rfl) ?_
  exact ⟨rfl, rfl⟩
set_option maxRecDepth 100000 in
set_option maxHeartbeats 4000000 in
theorem c_costs_1d {d b0 : Nat} {G : GH} {A B : ST} {ad : AD} (hW : World A B ad G) (hI : Inv A) {z : Int32} {l t : Nat} (hl : l < A 15 0) (ht : t < A 18 0) (hz : inB z 3 = false) : CT mX8_costs (d + 8) b0 G [.ref (ad 0 0), .int (nI l), .int (nI t), .int z] 20 400 (fun _ _ => False) (fun E G' => E = "java/lang/IndexOutOfBoundsException" ∧ G' = G) := by
  have hb0 := hI.b0
  have hb2 := hI.b2
  have hb9 := hI.b9
  have hb15 := hI.b15
  have hb18 := hI.b18
  refine CT.intro (by decide +kernel) rfl (Nat.le_of_ble_eq_true rfl) ?_
  show WP mX8_costs _ _ _ _ _ 20 400 0 [(0, .ref (ad 0 0)), (1, .int (nI l)), (2, .int (nI t)), (3, .int z)] []
  refine r_aload_n dX8_costs_0 rfl 0 rfl ?_
  refine r_iload_n dX8_costs_1 rfl 1 rfl ?_
  refine r_callV (st := []) [.int (nI l)] 20 400 dX8_costs_2 kX8_letterAt nX8_letterAt lRX8_188 (hW.g 0 0 rfl) rfl (c_X8_letterAt_t hW hI hl) rfl rfl (Nat.le_of_ble_eq_true rfl) (Nat.le_refl _) (Nat.le_refl _) (fun _ _ h => h.elim) ?_
  refine cx_det (st2 := [.ref (ad 27 l)]) rfl ?_
  refine r_astore [(4, .ref (ad 27 l)), (0, .ref (ad 0 0)), (1, .int (nI l)), (2, .int (nI t)), (3, .int z)] dX8_costs_5 (by decide) rfl ?_
  refine r_aload_n dX8_costs_7 rfl 1 rfl ?_
  refine r_iload_n dX8_costs_8 rfl 3 rfl ?_
  refine r_callV (st := []) [.int (nI t)] 20 400 dX8_costs_9 kX8_dataAt nX8_dataAt lRX8_214 (hW.g 0 0 rfl) rfl (c_X8_dataAt_t hW hI ht) rfl rfl (Nat.le_of_ble_eq_true rfl) (Nat.le_refl _) (Nat.le_refl _) (fun _ _ h => h.elim) ?_
  refine cx_det (st2 := [.ref (ad 29 t)]) rfl ?_
  refine r_astore [(5, .ref (ad 29 t)), (4, .ref (ad 27 l)), (0, .ref (ad 0 0)), (1, .int (nI l)), (2, .int (nI t)), (3, .int z)] dX8_costs_12 (by decide) rfl ?_
  refine r_aload dX8_costs_14 1 rfl ?_
  refine r_ifnullR dX8_costs_16 ?_
  refine r_aload dX8_costs_19 0 rfl ?_
  refine r_ifnullR dX8_costs_21 ?_
  refine r_iload_n dX8_costs_24 rfl 5 rfl ?_
  refine r_aload_n dX8_costs_25 rfl 2 rfl ?_
  refine r_get 5 dX8_costs_26 fRX8_43 (hW.g 0 0 rfl) rfl ?_
  refine r_alen (v := nI 3) dX8_costs_29 (hW.g 10 0 rfl) rfl ?_
  refine r_callS (st := []) [.int z, .int (nI 3)] 20 400 dX8_costs_30 kX8_isBelow nX8_isBelow lRX8_104 (c_isB z 3) rfl rfl (Nat.le_of_ble_eq_true rfl) (Nat.le_refl _) (Nat.le_refl _) (fun _ _ h => h.elim) ?_
  refine cx_det (st2 := [.int (b2i (inB z 3))]) rfl ?_
  refine r_if_ne 46 dX8_costs_33 (by decide) (fun c_1 => absurd (b2i_z hz) c_1) (fun c_1 => ?_)
  refine r_throw "java/lang/IndexOutOfBoundsException" "no such letter, data or language" dX8_costs_36 dX8_costs_39 dX8_costs_40 dX8_costs_42 dX8_costs_45 rfl (by decide +kernel) t_321 t_32 (by decide +kernel) exB_at exB_ng (by decide +kernel) (by omega) (by decide) (by decide) (Nat.le_of_ble_eq_true rfl) ?_
  exact ⟨rfl, rfl⟩
