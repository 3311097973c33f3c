/-- branch bits of the first n places -/
def brF (A : ST) (l t n : Nat) : Nat → Bool := fun j => decide (j / 2 < n) && (decide (A 10 (cla A l (j / 2)) ≠ 0) && (decide (j % 2 = 1) == meB A t (cla A l (j / 2))))
theorem cn_m1 {x : Nat} (h : x ≤ 8) : (nI x - 1 = (-1 : Int32)) ↔ x = 0 := by
  have h2 : x = 0 ∨ x = 1 ∨ x = 2 ∨ x = 3 ∨ x = 4 ∨ x = 5 ∨ x = 6 ∨ x = 7 ∨ x = 8 := by omega
  rcases h2 with e | e | e | e | e | e | e | e | e <;> rw [e] <;> decide +kernel
theorem brF_no {A : ST} {l t p : Nat} (h : A 10 (cla A l p) = 0) : brF A l t (p + 1) = brF A l t p := by
  funext j
  unfold brF
  by_cases e : j / 2 = p
  · rw [e, h, decide_eq_true (show p < p + 1 by omega), decide_eq_false (show ¬ p < p by omega)]; simp
  · by_cases q : j / 2 < p
    · rw [decide_eq_true q, decide_eq_true (show j / 2 < p + 1 by omega)]
    · rw [decide_eq_false q, decide_eq_false (show ¬ j / 2 < p + 1 by omega)]
theorem brF_yes {A : ST} {l t p m : Nat} {b : Bool} (h : A 10 (cla A l p) ≠ 0) (hb : meB A t (cla A l p) = b) (hm : m = 2 * p + (if b then 1 else 0)) : (fun j => brF A l t p j || decide (j = m)) = brF A l t (p + 1) := by
  funext j
  dsimp only [brF]
  by_cases e : j / 2 = p
  · rw [e, decide_eq_true (show p < p + 1 by omega), decide_eq_false (show ¬ p < p by omega), decide_eq_true h, hb, Bool.false_and, Bool.false_or, Bool.true_and, Bool.true_and]
    cases b with
    | true =>
      rw [if_pos rfl] at hm
      by_cases q : j % 2 = 1
      · rw [decide_eq_true q, decide_eq_true (show j = m by omega)]; rfl
      · rw [decide_eq_false q, decide_eq_false (show ¬ j = m by omega)]; rfl
    | false =>
      rw [if_neg (by decide)] at hm
      by_cases q : j % 2 = 1
      · rw [decide_eq_true q, decide_eq_false (show ¬ j = m by omega)]; rfl
      · rw [decide_eq_false q, decide_eq_true (show j = m by omega)]; rfl
  · have hne : ¬ j = m := by
      intro r
      cases b <;> simp at hm <;> omega
    rw [decide_eq_false hne, Bool.or_false]
    by_cases q : j / 2 < p
    · rw [decide_eq_true q, decide_eq_true (show j / 2 < p + 1 by omega)]
    · rw [decide_eq_false q, decide_eq_false (show ¬ j / 2 < p + 1 by omega)]
set_option maxRecDepth 100000 in
set_option maxHeartbeats 1000000 in
theorem lp_X8_branches {d b0 : Nat} {G : GH} {A B : ST} {ad : AD} (hW : World A B ad G) (hI : Inv A) {l t : Nat} (hl : l < A 15 0) (ht : t < A 18 0) : ∀ (fu : Nat) (p : Nat), p ≤ A 17 l → A 17 l - p < fu → WP mX8_branches (d + 2) b0 (fun r G' => r = some (.int (nI (enc (brF A l t (A 17 l)) 12))) ∧ G' = G) (fun _ _ => False) G 0 0 5 [(4, .int (nI p)), (3, .int (nI (enc (brF A l t p) 12))), (0, .ref (ad 0 0)), (1, .ref (ad 27 l)), (2, .ref (ad 29 t))] [] := by
  intro fu
  induction fu with
  | zero => intro p hinv hn; exact absurd hn (Nat.not_lt_zero _)
  | succ fu ih =>
    intro p hinv hn
    have hb15 := hI.b15
    have h17 := (hI.ro l (by omega)).1
    refine r_aload_n dX8_branches_5 rfl 4 rfl ?_
    refine r_ifnullR dX8_branches_6 ?_
    refine r_iload dX8_branches_9 0 rfl ?_
    refine r_aload_n dX8_branches_11 rfl 3 rfl ?_
    refine r_callV (st := [.int (nI p)]) [] 0 0 dX8_branches_12 kX2_count nX2_count lRX8_201 (hW.g 27 l hl) rfl (c_X2_count (lt27 hW hI hl)) rfl rfl (Nat.le_of_ble_eq_true rfl) (Nat.le_refl _) (Nat.le_refl _) (fun _ _ h => h.elim) ?_
    refine cx_det (st2 := [.int (nI (A 17 l)), .int (nI p)]) rfl ?_
    refine r_icmp_ge 77 dX8_branches_15 (by decide) (fun c_1 => ?_) (fun c_1 => ?_)
    · refine r_iload_n dX8_branches_77 rfl 1 rfl ?_
      refine r_ireti dX8_branches_78 rfl ?_
      have hp : p = A 17 l := by have := ni_le (by omega) (by omega) c_1; omega
      exact ⟨by rw [hp], rfl⟩
    · have hp : p < A 17 l := ni_nle (by omega) (by omega) c_1
      have hcl : cla A l p < A 9 0 := ((hI.ro l (by omega)).2 p hp).1
      have hc8 := hI.co _ hcl
      have hca := c_X2_at (d := d) (b0 := b0) (lt27 hW hI hl) hp
      rw [show rg A 16 (6 * l) 6 p = nI (cla A l p) by dsimp only [rg]; rw [if_pos (by omega)]] at hca
      refine r_aload_n dX8_branches_18 rfl 2 rfl ?_
      refine r_aload_n dX8_branches_19 rfl 3 rfl ?_
      refine r_iload dX8_branches_20 0 rfl ?_
      refine r_callV (st := [.ref (ad 0 0)]) [.int (nI p)] 0 0 dX8_branches_22 kX2_at nX2_at lRX8_235 (hW.g 27 l hl) rfl hca rfl rfl (Nat.le_of_ble_eq_true rfl) (Nat.le_refl _) (Nat.le_refl _) (fun _ _ h => h.elim) ?_
      refine cx_det (st2 := [.int (nI (cla A l p)), .ref (ad 0 0)]) rfl ?_
      refine r_callV (st := []) [.int (nI (cla A l p))] 0 0 dX8_branches_25 kX8_clauseAt nX8_clauseAt lRX8_163 (hW.g 0 0 rfl) rfl (c_X8_clauseAt_t hW hI hcl) rfl rfl (Nat.le_of_ble_eq_true rfl) (Nat.le_refl _) (Nat.le_refl _) (fun _ _ h => h.elim) ?_
      refine cx_det (st2 := [.ref (ad 21 (cla A l p))]) rfl ?_
      refine r_astore [(5, .ref (ad 21 (cla A l p))), (4, .int (nI p)), (3, .int (nI (enc (brF A l t p) 12))), (0, .ref (ad 0 0)), (1, .ref (ad 27 l)), (2, .ref (ad 29 t))] dX8_branches_28 (by decide) rfl ?_
      refine r_aload dX8_branches_30 0 rfl ?_
      refine r_ifnullR dX8_branches_32 ?_
      refine r_aload dX8_branches_35 0 rfl ?_
      refine r_callV (st := []) [] 0 0 dX8_branches_37 kX0_condition nX0_condition lRX8_300 (hW.g 21 (cla A l p) hcl) rfl (c_X0_condition hW hI hcl) rfl rfl (Nat.le_of_ble_eq_true rfl) (Nat.le_refl _) (Nat.le_refl _) (fun _ _ h => h.elim) ?_
      refine cx_det (st2 := [.int (nI (A 10 (cla A l p)) - 1)]) rfl ?_
      refine r_iconst (v := (-1)) dX8_branches_40 (by decide) ?_
      refine r_icmp_eq 71 dX8_branches_41 (by decide) (fun c_2 => ?_) (fun c_2 => ?_)
      · refine r_iinc (nI (p + 1)) [(4, .int (nI (p + 1))), (5, .ref (ad 21 (cla A l p))), (3, .int (nI (enc (brF A l t p) 12))), (0, .ref (ad 0 0)), (1, .ref (ad 27 l)), (2, .ref (ad 29 t))] dX8_branches_71 1 rfl (nI_1 p) (by decide) rfl ?_
        refine r_goto 5 dX8_branches_74 (by decide) ?_
        have hx : brF A l t (p + 1) = brF A l t p := brF_no ((cn_m1 hc8).mp c_2)
        have hh := ih (p + 1) (by omega) (by omega)
        rw [hx] at hh
        exact WP.loc [0, 2, 3, 4, 5] rfl hh
      · refine r_iload_n dX8_branches_44 rfl 2 rfl ?_
        refine r_iconst (v := 1) dX8_branches_45 (by decide) ?_
        refine r_iconst (v := 2) dX8_branches_46 (by decide) ?_
        refine r_iload dX8_branches_47 1 rfl ?_
        refine r_imul dX8_branches_49 ?_
        refine r_top (nI (2 * p)) (pk_mul 2 p) ?_
        refine r_aload_n dX8_branches_50 rfl 5 rfl ?_
        refine r_aload dX8_branches_51 0 rfl ?_
        refine r_callV (st := [.ref (ad 29 t), .int (nI (2 * p)), .int 1, .int (nI (enc (brF A l t p) 12))]) [] 0 0 dX8_branches_53 kX0_condition nX0_condition lRX8_300 (hW.g 21 (cla A l p) hcl) rfl (c_X0_condition hW hI hcl) rfl rfl (Nat.le_of_ble_eq_true rfl) (Nat.le_refl _) (Nat.le_refl _) (fun _ _ h => h.elim) ?_
        refine cx_det (st2 := [.int (nI (A 10 (cla A l p)) - 1), .ref (ad 29 t), .int (nI (2 * p)), .int 1, .int (nI (enc (brF A l t p) 12))]) rfl ?_
        refine r_callV (st := [.int (nI (2 * p)), .int 1, .int (nI (enc (brF A l t p) 12))]) [.int (nI (A 10 (cla A l p)) - 1)] 0 0 dX8_branches_56 kX1_meets nX1_meets lRX8_303 (hW.g 29 t ht) rfl (c_meets hW ht (cla A l p)) rfl rfl (Nat.le_of_ble_eq_true rfl) (Nat.le_refl _) (Nat.le_refl _) (fun _ _ h => h.elim) ?_
        refine cx_det (st2 := [.int (b2i (meB A t (cla A l p))), .int (nI (2 * p)), .int 1, .int (nI (enc (brF A l t p) 12))]) rfl ?_
        refine r_if_eq 66 dX8_branches_59 (by decide) (fun c_3 => ?_) (fun c_3 => ?_)
        · refine r_iconst (v := 0) dX8_branches_66 (by decide) ?_
          refine r_iadd dX8_branches_67 ?_
          refine r_top (nI (2 * p + 0)) (nI_add (2 * p) 0) ?_
          have hcn : A 10 (cla A l p) ≠ 0 := fun q => c_2 ((cn_m1 hc8).mpr q)
          have hmb : meB A t (cla A l p) = false := b2i_0 c_3
          refine r_ishl dX8_branches_68 ?_
          refine r_top (nI (enc (fun j => decide (j = 2 * p + 0)) 12)) (enc_shl (by omega)) ?_
          refine r_ior dX8_branches_69 ?_
          refine r_top (nI (enc (brF A l t (p + 1)) 12)) (by rw [enc_or, brF_yes (m := 2 * p + 0) hcn hmb rfl]) ?_
          refine r_istore_n [(3, .int (nI (enc (brF A l t (p + 1)) 12))), (5, .ref (ad 21 (cla A l p))), (4, .int (nI p)), (0, .ref (ad 0 0)), (1, .ref (ad 27 l)), (2, .ref (ad 29 t))] dX8_branches_70 rfl (by decide) rfl ?_
          refine r_iinc (nI (p + 1)) [(4, .int (nI (p + 1))), (3, .int (nI (enc (brF A l t (p + 1)) 12))), (5, .ref (ad 21 (cla A l p))), (0, .ref (ad 0 0)), (1, .ref (ad 27 l)), (2, .ref (ad 29 t))] dX8_branches_71 2 rfl (nI_1 p) (by decide) rfl ?_
          refine r_goto 5 dX8_branches_74 (by decide) ?_
          have hh := ih (p + 1) (by omega) (by omega)
          exact WP.loc [0, 1, 3, 4, 5] rfl hh
        · refine r_iconst (v := 1) dX8_branches_62 (by decide) ?_
          refine r_goto 67 dX8_branches_63 (by decide) ?_
          refine r_iadd dX8_branches_67 ?_
          refine r_top (nI (2 * p + 1)) (nI_add (2 * p) 1) ?_
          have hcn : A 10 (cla A l p) ≠ 0 := fun q => c_2 ((cn_m1 hc8).mpr q)
          have hmb : meB A t (cla A l p) = true := b2i_n0 c_3
          refine r_ishl dX8_branches_68 ?_
          refine r_top (nI (enc (fun j => decide (j = 2 * p + 1)) 12)) (enc_shl (by omega)) ?_
          refine r_ior dX8_branches_69 ?_
          refine r_top (nI (enc (brF A l t (p + 1)) 12)) (by rw [enc_or, brF_yes (m := 2 * p + 1) hcn hmb rfl]) ?_
          refine r_istore_n [(3, .int (nI (enc (brF A l t (p + 1)) 12))), (5, .ref (ad 21 (cla A l p))), (4, .int (nI p)), (0, .ref (ad 0 0)), (1, .ref (ad 27 l)), (2, .ref (ad 29 t))] dX8_branches_70 rfl (by decide) rfl ?_
          refine r_iinc (nI (p + 1)) [(4, .int (nI (p + 1))), (3, .int (nI (enc (brF A l t (p + 1)) 12))), (5, .ref (ad 21 (cla A l p))), (0, .ref (ad 0 0)), (1, .ref (ad 27 l)), (2, .ref (ad 29 t))] dX8_branches_71 2 rfl (nI_1 p) (by decide) rfl ?_
          refine r_goto 5 dX8_branches_74 (by decide) ?_
          have hh := ih (p + 1) (by omega) (by omega)
          exact WP.loc [0, 1, 3, 4, 5] rfl hh
set_option maxRecDepth 100000 in
set_option maxHeartbeats 1000000 in
theorem c_branches {d b0 : Nat} {G : GH} {A B : ST} {ad : AD} (hW : World A B ad G) (hI : Inv A) {l t : Nat} (hl : l < A 15 0) (ht : t < A 18 0) : CTd mX8_branches (d + 2) b0 G [.ref (ad 0 0), .ref (ad 27 l), .ref (ad 29 t)] 0 0 (some (.int (nI (enc (brF A l t (A 17 l)) 12)))) G := by
  refine CT.intro (by decide +kernel) rfl (Nat.le_of_ble_eq_true rfl) ?_
  show WP mX8_branches _ _ _ _ _ 0 0 0 [(0, .ref (ad 0 0)), (1, .ref (ad 27 l)), (2, .ref (ad 29 t))] []
  refine r_iconst (v := nI (enc (brF A l t 0) 12)) dX8_branches_0 (by rw [show brF A l t 0 = fun _ => false from rfl, enc_0]; decide) ?_
  refine r_istore_n [(3, .int (nI (enc (brF A l t 0) 12))), (0, .ref (ad 0 0)), (1, .ref (ad 27 l)), (2, .ref (ad 29 t))] dX8_branches_1 rfl (by decide) rfl ?_
  refine r_iconst (v := nI 0) dX8_branches_2 (by decide) ?_
  refine r_istore [(4, .int (nI 0)), (3, .int (nI (enc (brF A l t 0) 12))), (0, .ref (ad 0 0)), (1, .ref (ad 27 l)), (2, .ref (ad 29 t))] dX8_branches_3 (by decide) rfl ?_
  exact lp_X8_branches hW hI hl ht _ 0 (Nat.zero_le _) (Nat.lt_succ_self _)
