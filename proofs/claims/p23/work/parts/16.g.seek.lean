theorem ltL_pre (A : ST) (l e g : Nat) : ∀ q p, p ≤ q → ∃ R, ltL A l e g p ++ R = ltL A l e g q := by
  intro q
  induction q with
  | zero => intro p hp; exact ⟨[], by rw [show p = 0 by omega]; rfl⟩
  | succ q ih =>
    intro p hp
    by_cases h : p = q + 1
    · exact ⟨[], by rw [h, List.append_nil]⟩
    · obtain ⟨R, hR⟩ := ih p (by omega)
      show ∃ R, ltL A l e g p ++ R = (if isL A l e g q = true then (if ltL A l e g q = [] then txL A (3 * cla A l q + g) e g 60 0 else ltL A l e g q ++ 32 :: txL A (3 * cla A l q + g) e g 60 0) else ltL A l e g q)
      split
      · split
        · rename_i h9
          rw [h9] at hR
          have h8 : ltL A l e g p = [] := (List.append_eq_nil_iff.mp hR).1
          exact ⟨_, by rw [h8]; rfl⟩
        · exact ⟨R ++ 32 :: txL A (3 * cla A l q + g) e g 60 0, by rw [← List.append_assoc, hR]⟩
      · exact ⟨R, hR⟩
theorem bld_pre {X R M : List Nat} {k : Nat} (h : X ++ R = M) (h2 : R = [] ∨ k < X.length) : (bld true X).getD k 0 = (bld true M).getD k 0 := by
  rcases h2 with h2 | h2
  · rw [← h, h2, List.append_nil]
  · rw [← h, bld_app, getD_app_l (by rw [bld_len]; exact h2)]
set_option maxRecDepth 100000 in
set_option maxHeartbeats 1000000 in
theorem lp_X8_seek {d b0 : Nat} {G : GH} {A B : ST} {ad : AD} (hI : Inv A) {l e g k : Nat} (hl : l < A 15 0) (he : e < A 18 0) (hg : g < 3) (hk : k < 2 ^ 31) : ∀ (fu : Nat) (p : Nat) (bb : Bool) (X : List Nat) (G2 : GH), p ≤ A 17 l ∧ SkW A B ad G2 k X ∧ X.length ≤ 1013 ∧ ((X = ltL A l e g p ∧ bb = decide (X ≠ [])) ∨ (k < X.length ∧ ∃ R2, X ++ R2 = ltL A l e g (A 17 l))) → A 17 l - p < fu → WP mX8_seek (d + 5) b0 (fun r G' => r = none ∧ ∃ X R : List Nat, X ++ R = ltL A l e g (A 17 l) ∧ SkW A B ad G' k X ∧ (R = [] ∨ k < X.length)) (fun _ _ => False) G2 0 0 6 [(5, .int (nI p)), (4, .int (b2i bb)), (0, .ref (ad 0 0)), (1, .ref (ad 27 l)), (2, .ref (ad 29 e)), (3, .int (nI g))] [] := by
  intro fu
  induction fu with
  | zero => intro p bb X G2 hinv hn; exact absurd hn (Nat.not_lt_zero _)
  | succ fu ih =>
    intro p bb X G2 hinv hn
    have hb15 := hI.b15
    have hb9 := hI.b9
    have h17 := (hI.ro l (by omega)).1
    have hW_30 := hinv.2.1
    obtain ⟨o_1, ho_2, hW_3⟩ := hW_30
    refine r_iload dX8_seek_6 0 rfl ?_
    refine r_aload_n dX8_seek_8 rfl 3 rfl ?_
    refine r_callV (st := [.int (nI p)]) [] 0 0 dX8_seek_9 kX2_count nX2_count lRX8_201 (hW_3.g 27 l hl) rfl (c_X2_count (lts hW_3 hI hl)) rfl rfl (Nat.le_of_ble_eq_true rfl) (Nat.le_refl _) (Nat.le_refl _) (fun _ _ h => h.elim) ?_
    refine cx_det (st2 := [.int (nI (A 17 l)), .int (nI p)]) rfl ?_
    refine r_icmp_ge 72 dX8_seek_12 (by decide) (fun c_4 => ?_) (fun c_4 => ?_)
    · refine r_vret dX8_seek_72 rfl ?_
      have hp : p = A 17 l := by have := ni_le (by omega) (by omega) c_4; omega
      rcases hinv.2.2.2 with q | q
      · exact ⟨rfl, X, [], by rw [List.append_nil, q.1, hp], hinv.2.1, Or.inl rfl⟩
      · obtain ⟨R2, h2⟩ := q.2
        exact ⟨rfl, X, R2, h2, hinv.2.1, Or.inr q.1⟩
    · have hp : p < A 17 l := ni_nle (by omega) (by omega) c_4
      have hcl : cla A l p < A 9 0 := ((hI.ro l (by omega)).2 p hp).1
      have hT : 3 * cla A l p + g < 3 * A 9 0 := by omega
      have hok := ltL_ok hI hl he hg p (by omega)
      have hok2 := ltL_ok hI hl he hg (p + 1) hp
      refine r_aload_n dX8_seek_15 rfl 2 rfl ?_
      refine r_get 7 dX8_seek_16 fRX8_57 (hW_3.g 0 0 rfl) rfl ?_
      refine r_callV (st := []) [] 0 0 dX8_seek_19 kX4_isDone nX4_isDone lRX8_347 (hW_3.g 14 0 rfl) rfl (c_skdone hk (by have h9 := hinv.2.2.1; omega) hinv.2.1) rfl rfl (Nat.le_of_ble_eq_true rfl) (Nat.le_refl _) (Nat.le_refl _) (fun _ _ h => h.elim) ?_
      refine cx_det (st2 := [.int (b2i (decide (k < (X).length)))]) rfl ?_
      refine r_if_ne 72 dX8_seek_22 (by decide) (fun c_5 => ?_) (fun c_5 => ?_)
      · refine r_vret dX8_seek_72 rfl ?_
        have hdn : k < X.length := of_decide_eq_true (b2i_n0 c_5)
        rcases hinv.2.2.2 with q | q
        · obtain ⟨R2, h2⟩ := ltL_pre A l e g (A 17 l) p (by omega)
          exact ⟨rfl, X, R2, by rw [q.1, h2], hinv.2.1, Or.inr hdn⟩
        · obtain ⟨R2, h2⟩ := q.2
          exact ⟨rfl, X, R2, h2, hinv.2.1, Or.inr q.1⟩
      · have hle : X.length ≤ k := by
          have h9 := of_decide_eq_false (b2i_0 c_5)
          omega
        have hX : X = ltL A l e g p ∧ bb = decide (X ≠ []) := by
          rcases hinv.2.2.2 with q | q
          · exact q
          · exact absurd q.1 (by omega)
        by_cases hisl : isL A l e g p = true
        · have hstep : ltL A l e g (p + 1) = (if isL A l e g p = true then (if ltL A l e g p = [] then txL A (3 * cla A l p + g) e g 60 0 else ltL A l e g p ++ 32 :: txL A (3 * cla A l p + g) e g 60 0) else ltL A l e g p) := rfl
          rw [if_pos hisl, ← hX.1] at hstep
          refine r_aload_n dX8_seek_25 rfl 2 rfl ?_
          refine r_aload_n dX8_seek_26 rfl 3 rfl ?_
          refine r_iload dX8_seek_27 0 rfl ?_
          refine r_aload_n dX8_seek_29 rfl 4 rfl ?_
          refine r_iload_n dX8_seek_30 rfl 5 rfl ?_
          refine r_callV (st := []) [.ref (ad 27 l), .int (nI p), .ref (ad 29 e), .int (nI g)] 0 0 dX8_seek_31 kX8_laidAt nX8_laidAt lRX8_312 (hW_3.g 0 0 rfl) rfl (c_las_t hW_3 hI hl he hg hp hisl) rfl rfl (Nat.le_of_ble_eq_true rfl) (Nat.le_refl _) (Nat.le_refl _) (fun _ _ h => h.elim) ?_
          refine cx_det (st2 := [.ref (ad 24 (3 * cla A l p + g))]) rfl ?_
          refine r_astore [(6, .ref (ad 24 (3 * cla A l p + g))), (5, .int (nI p)), (4, .int (b2i bb)), (0, .ref (ad 0 0)), (1, .ref (ad 27 l)), (2, .ref (ad 29 e)), (3, .int (nI g))] dX8_seek_34 (by decide) rfl ?_
          refine r_aload dX8_seek_36 0 rfl ?_
          refine r_ifnullR dX8_seek_38 ?_
          refine r_iload dX8_seek_41 2 rfl ?_
          refine r_if_eq 55 dX8_seek_43 (by decide) (fun c_6 => ?_) (fun c_6 => ?_)
          · refine r_aload_n dX8_seek_55 rfl 3 rfl ?_
            refine r_aload dX8_seek_56 0 rfl ?_
            refine r_aload_n dX8_seek_58 rfl 5 rfl ?_
            refine r_iload_n dX8_seek_59 rfl 6 rfl ?_
            have hem : X = [] := by
              have h9 := b2i_0 c_6
              rw [hX.2] at h9
              exact Decidable.not_not.mp (of_decide_eq_false h9)
            rw [if_pos hem] at hstep
            refine r_callV (st := []) [.ref (ad 24 (3 * cla A l p + g)), .ref (ad 29 e), .int (nI g)] 0 0 dX8_seek_60 kX8_seekTemplate nX8_seekTemplate lRX8_353 (hW_3.g 0 0 rfl) rfl (c_seekTemplate hI hT he hg hk (by omega) hinv.2.1) rfl rfl (Nat.le_of_ble_eq_true rfl) (Nat.le_refl _) (Nat.le_refl _) (fun _ _ h => h.elim) ?_
            intro r G9 hr
            obtain ⟨rfl, Z, R, hZR, hSZ, hd⟩ := hr
            have hW_90 := hSZ
            obtain ⟨o_7, ho_8, hW_9⟩ := hW_90
            refine r_iconst (v := b2i true) dX8_seek_63 (by decide) ?_
            refine r_istore [(4, .int (b2i true)), (6, .ref (ad 24 (3 * cla A l p + g))), (5, .int (nI p)), (0, .ref (ad 0 0)), (1, .ref (ad 27 l)), (2, .ref (ad 29 e)), (3, .int (nI g))] dX8_seek_64 (by decide) rfl ?_
            refine r_iinc (nI (p + 1)) [(5, .int (nI (p + 1))), (4, .int (b2i true)), (6, .ref (ad 24 (3 * cla A l p + g))), (0, .ref (ad 0 0)), (1, .ref (ad 27 l)), (2, .ref (ad 29 e)), (3, .int (nI g))] dX8_seek_66 2 rfl (nI_1 p) (by decide) rfl ?_
            refine r_goto 6 dX8_seek_69 (by decide) ?_
            have hall : (X) ++ Z ++ R = ltL A l e g (p + 1) := by
              rw [List.append_assoc, hZR, hstep]
              rw [hem]; rfl
            have hln : ((X) ++ Z).length ≤ 1013 := by
              have h8 := hok2.2
              rw [← hall, List.length_append] at h8
              omega
            have hnx : (X) ++ Z ≠ [] ∨ k < ((X) ++ Z).length := by
              rcases hd with q | q
              · refine Or.inl ?_
                rw [q, List.append_nil] at hall
                rw [hall, hstep]
                have h7 := (txL_ok hI (t := 3 * cla A l p + g) (e := e) (g := g) (by omega) he hg 60 0 rfl (Nat.zero_le _)).2.2 (by unfold isL at hisl; rw [Bool.and_eq_true] at hisl; have h6 := of_decide_eq_true hisl.2; omega) (by decide)
                intro q2; rw [q2] at h7; exact absurd h7 (by decide)
              · exact Or.inr q
            have hfin : ((X) ++ Z = ltL A l e g (p + 1) ∧ true = decide ((X) ++ Z ≠ [])) ∨ (k < ((X) ++ Z).length ∧ ∃ R2, (X) ++ Z ++ R2 = ltL A l e g (A 17 l)) := by
              by_cases q : k < ((X) ++ Z).length
              · obtain ⟨R3, h3⟩ := ltL_pre A l e g (A 17 l) (p + 1) (by omega)
                exact Or.inr ⟨q, R ++ R3, by rw [← List.append_assoc, hall, h3]⟩
              · refine Or.inl ⟨?_, ?_⟩
                · rcases hd with q2 | q2
                  · rw [← hall, q2, List.append_nil]
                  · exact absurd q2 q
                · rcases hnx with q2 | q2
                  · rw [decide_eq_true q2]
                  · exact absurd q2 q
            exact WP.loc [0, 1, 3, 4, 5, 6] rfl (ih (p + 1) true _ _ ⟨by omega, hSZ, hln, hfin⟩ (by omega))
          · refine r_aload_n dX8_seek_46 rfl 3 rfl ?_
            refine r_get 7 dX8_seek_47 fRX8_57 (hW_3.g 0 0 rfl) rfl ?_
            refine r_bipush (v := 32) dX8_seek_50 (by decide) ?_
            refine r_callV (st := []) [.int 32] 0 0 dX8_seek_52 kX4_pass nX4_pass lRX8_350 (hW_3.g 14 0 rfl) rfl (c_skpass hk (Or.inr (Or.inl rfl)) hinv.2.1 hle (by omega)) rfl rfl (Nat.le_of_ble_eq_true rfl) (Nat.le_refl _) (Nat.le_refl _) (fun _ _ h => h.elim) ?_
            intro r G_11 hr
            obtain ⟨rfl, hS_12⟩ := hr
            have hW_150 := hS_12
            obtain ⟨o_13, ho_14, hW_15⟩ := hW_150
            refine r_aload_n dX8_seek_55 rfl 3 rfl ?_
            refine r_aload dX8_seek_56 0 rfl ?_
            refine r_aload_n dX8_seek_58 rfl 5 rfl ?_
            refine r_iload_n dX8_seek_59 rfl 6 rfl ?_
            have hne : X ≠ [] := by
              have h9 := b2i_n0 c_6
              rw [hX.2] at h9
              exact of_decide_eq_true h9
            rw [if_neg hne] at hstep
            have h9 := hok2.2
            rw [hstep, List.length_append, List.length_cons] at h9
            refine r_callV (st := []) [.ref (ad 24 (3 * cla A l p + g)), .ref (ad 29 e), .int (nI g)] 0 0 dX8_seek_60 kX8_seekTemplate nX8_seekTemplate lRX8_353 (hW_15.g 0 0 rfl) rfl (c_seekTemplate hI hT he hg hk (by rw [List.length_append]; show _ + 1 ≤ 1013; omega) hS_12) rfl rfl (Nat.le_of_ble_eq_true rfl) (Nat.le_refl _) (Nat.le_refl _) (fun _ _ h => h.elim) ?_
            intro r G9 hr
            obtain ⟨rfl, Z, R, hZR, hSZ, hd⟩ := hr
            have hW_180 := hSZ
            obtain ⟨o_16, ho_17, hW_18⟩ := hW_180
            refine r_iconst (v := b2i true) dX8_seek_63 (by decide) ?_
            refine r_istore [(4, .int (b2i true)), (6, .ref (ad 24 (3 * cla A l p + g))), (5, .int (nI p)), (0, .ref (ad 0 0)), (1, .ref (ad 27 l)), (2, .ref (ad 29 e)), (3, .int (nI g))] dX8_seek_64 (by decide) rfl ?_
            refine r_iinc (nI (p + 1)) [(5, .int (nI (p + 1))), (4, .int (b2i true)), (6, .ref (ad 24 (3 * cla A l p + g))), (0, .ref (ad 0 0)), (1, .ref (ad 27 l)), (2, .ref (ad 29 e)), (3, .int (nI g))] dX8_seek_66 2 rfl (nI_1 p) (by decide) rfl ?_
            refine r_goto 6 dX8_seek_69 (by decide) ?_
            have hall : (X ++ [32]) ++ Z ++ R = ltL A l e g (p + 1) := by
              rw [List.append_assoc, hZR, hstep]
              rw [List.append_assoc]; rfl
            have hln : ((X ++ [32]) ++ Z).length ≤ 1013 := by
              have h8 := hok2.2
              rw [← hall, List.length_append] at h8
              omega
            have hnx : (X ++ [32]) ++ Z ≠ [] ∨ k < ((X ++ [32]) ++ Z).length := by
              rcases hd with q | q
              · refine Or.inl ?_
                rw [q, List.append_nil] at hall
                rw [hall, hstep]
                intro q2
                exact hne (List.append_eq_nil_iff.mp q2).1
              · exact Or.inr q
            have hfin : ((X ++ [32]) ++ Z = ltL A l e g (p + 1) ∧ true = decide ((X ++ [32]) ++ Z ≠ [])) ∨ (k < ((X ++ [32]) ++ Z).length ∧ ∃ R2, (X ++ [32]) ++ Z ++ R2 = ltL A l e g (A 17 l)) := by
              by_cases q : k < ((X ++ [32]) ++ Z).length
              · obtain ⟨R3, h3⟩ := ltL_pre A l e g (A 17 l) (p + 1) (by omega)
                exact Or.inr ⟨q, R ++ R3, by rw [← List.append_assoc, hall, h3]⟩
              · refine Or.inl ⟨?_, ?_⟩
                · rcases hd with q2 | q2
                  · rw [← hall, q2, List.append_nil]
                  · exact absurd q2 q
                · rcases hnx with q2 | q2
                  · rw [decide_eq_true q2]
                  · exact absurd q2 q
            exact WP.loc [0, 1, 3, 4, 5, 6] rfl (ih (p + 1) true _ _ ⟨by omega, hSZ, hln, hfin⟩ (by omega))
        · have hisf : isL A l e g p = false := Bool.eq_false_iff.mpr hisl
          have hstep : ltL A l e g (p + 1) = (if isL A l e g p = true then (if ltL A l e g p = [] then txL A (3 * cla A l p + g) e g 60 0 else ltL A l e g p ++ 32 :: txL A (3 * cla A l p + g) e g 60 0) else ltL A l e g p) := rfl
          rw [if_neg hisl, ← hX.1] at hstep
          refine r_aload_n dX8_seek_25 rfl 2 rfl ?_
          refine r_aload_n dX8_seek_26 rfl 3 rfl ?_
          refine r_iload dX8_seek_27 0 rfl ?_
          refine r_aload_n dX8_seek_29 rfl 4 rfl ?_
          refine r_iload_n dX8_seek_30 rfl 5 rfl ?_
          refine r_callV (st := []) [.ref (ad 27 l), .int (nI p), .ref (ad 29 e), .int (nI g)] 0 0 dX8_seek_31 kX8_laidAt nX8_laidAt lRX8_312 (hW_3.g 0 0 rfl) rfl (c_las_f hW_3 hI hl he hg hp hisf) rfl rfl (Nat.le_of_ble_eq_true rfl) (Nat.le_refl _) (Nat.le_refl _) (fun _ _ h => h.elim) ?_
          refine cx_det (st2 := [.null]) rfl ?_
          refine r_astoreN [(6, .null), (5, .int (nI p)), (4, .int (b2i bb)), (0, .ref (ad 0 0)), (1, .ref (ad 27 l)), (2, .ref (ad 29 e)), (3, .int (nI g))] dX8_seek_34 (by decide) rfl ?_
          refine r_aloadN dX8_seek_36 0 rfl ?_
          refine r_ifnullN 66 dX8_seek_38 (by decide) ?_
          refine r_iinc (nI (p + 1)) [(5, .int (nI (p + 1))), (6, .null), (4, .int (b2i bb)), (0, .ref (ad 0 0)), (1, .ref (ad 27 l)), (2, .ref (ad 29 e)), (3, .int (nI g))] dX8_seek_66 1 rfl (nI_1 p) (by decide) rfl ?_
          refine r_goto 6 dX8_seek_69 (by decide) ?_
          exact WP.loc [0, 2, 3, 4, 5, 6] rfl (ih (p + 1) bb X _ ⟨by omega, hinv.2.1, hinv.2.2.1, Or.inl ⟨hstep.symm, hX.2⟩⟩ (by omega))
set_option maxRecDepth 100000 in
set_option maxHeartbeats 1000000 in
theorem c_seek {d b0 : Nat} {G : GH} {A B : ST} {ad : AD} (hI : Inv A) {l e g k : Nat} (hl : l < A 15 0) (he : e < A 18 0) (hg : g < 3) (hk : k < 2 ^ 31) (hS : SkW A B ad G k []) : CT mX8_seek (d + 5) b0 G [.ref (ad 0 0), .ref (ad 27 l), .ref (ad 29 e), .int (nI g)] 0 0 (fun r G' => r = none ∧ ∃ X R : List Nat, X ++ R = ltL A l e g (A 17 l) ∧ SkW A B ad G' k X ∧ (R = [] ∨ k < X.length)) (fun _ _ => False) := by
  refine CT.intro (by decide +kernel) rfl (Nat.le_of_ble_eq_true rfl) ?_
  show WP mX8_seek _ _ _ _ _ 0 0 0 [(0, .ref (ad 0 0)), (1, .ref (ad 27 l)), (2, .ref (ad 29 e)), (3, .int (nI g))] []
  refine r_iconst (v := b2i false) dX8_seek_0 (by decide) ?_
  refine r_istore [(4, .int (b2i false)), (0, .ref (ad 0 0)), (1, .ref (ad 27 l)), (2, .ref (ad 29 e)), (3, .int (nI g))] dX8_seek_1 (by decide) rfl ?_
  refine r_iconst (v := nI 0) dX8_seek_3 (by decide) ?_
  refine r_istore [(5, .int (nI 0)), (4, .int (b2i false)), (0, .ref (ad 0 0)), (1, .ref (ad 27 l)), (2, .ref (ad 29 e)), (3, .int (nI g))] dX8_seek_4 (by decide) rfl ?_
  exact lp_X8_seek (G := G) hI hl he hg hk _ 0 false [] _ ⟨Nat.zero_le _, hS, Nat.zero_le _, Or.inl ⟨rfl, rfl⟩⟩ (Nat.lt_succ_self _)
set_option maxRecDepth 100000 in
set_option maxHeartbeats 1000000 in
theorem c_signAnew_0 {d b0 : Nat} {G : GH} {A B : ST} {ad : AD} (hW : World A B ad G) (hI : Inv A) (hP : Pag A) {l e g : Nat} (hl : l < A 15 0) (he : e < A 18 0) (hg : g < 3) {k : Nat} (hk : k < 2 ^ 31) : CT mX8_signAnew (d + 8) b0 G [.ref (ad 0 0), .int (nI l), .int (nI e), .int (nI g), .int (nI k)] 20 400 (OPo (nI ((bld true (ltA A l e g)).getD k 0)) A B ad A) (fun _ _ => False) := by
  have hb0 := hI.b0
  have hb2 := hI.b2
  have hb9 := hI.b9
  have hb15 := hI.b15
  have hb18 := hI.b18
  have hok := ltA_ok hI hl he hg
  refine CT.intro (by decide +kernel) rfl (Nat.le_of_ble_eq_true rfl) ?_
  show WP mX8_signAnew _ _ _ _ _ 20 400 0 [(0, .ref (ad 0 0)), (1, .int (nI l)), (2, .int (nI e)), (3, .int (nI g)), (4, .int (nI k))] []
  refine r_aload_n dX8_signAnew_0 rfl 0 rfl ?_
  refine r_iload_n dX8_signAnew_1 rfl 1 rfl ?_
  refine r_callV (st := []) [.int (nI l)] 20 400 dX8_signAnew_2 kX8_letterAt nX8_letterAt lRX8_188 (hW.g 0 0 rfl) rfl (c_X8_letterAt_t hW hI hl) rfl rfl (Nat.le_of_ble_eq_true rfl) (Nat.le_refl _) (Nat.le_refl _) (fun _ _ h => h.elim) ?_
  refine cx_det (st2 := [.ref (ad 27 l)]) rfl ?_
  refine r_astore [(5, .ref (ad 27 l)), (0, .ref (ad 0 0)), (1, .int (nI l)), (2, .int (nI e)), (3, .int (nI g)), (4, .int (nI k))] dX8_signAnew_5 (by decide) rfl ?_
  refine r_aload_n dX8_signAnew_7 rfl 1 rfl ?_
  refine r_iload_n dX8_signAnew_8 rfl 3 rfl ?_
  refine r_callV (st := []) [.int (nI e)] 20 400 dX8_signAnew_9 kX8_dataAt nX8_dataAt lRX8_214 (hW.g 0 0 rfl) rfl (c_X8_dataAt_t hW hI he) rfl rfl (Nat.le_of_ble_eq_true rfl) (Nat.le_refl _) (Nat.le_refl _) (fun _ _ h => h.elim) ?_
  refine cx_det (st2 := [.ref (ad 29 e)]) rfl ?_
  refine r_astore [(6, .ref (ad 29 e)), (5, .ref (ad 27 l)), (0, .ref (ad 0 0)), (1, .int (nI l)), (2, .int (nI e)), (3, .int (nI g)), (4, .int (nI k))] dX8_signAnew_12 (by decide) rfl ?_
  refine r_aload dX8_signAnew_14 1 rfl ?_
  refine r_ifnullR dX8_signAnew_16 ?_
  refine r_aload dX8_signAnew_19 0 rfl ?_
  refine r_ifnullR dX8_signAnew_21 ?_
  refine r_iload_n dX8_signAnew_24 rfl 5 rfl ?_
  refine r_callS (st := []) [.int (nI g)] 20 400 dX8_signAnew_25 kX8_isLanguage nX8_isLanguage lRX8_92 (c_isL (nI g)) rfl rfl (Nat.le_of_ble_eq_true rfl) (Nat.le_refl _) (Nat.le_refl _) (fun _ _ h => h.elim) ?_
  refine cx_det (st2 := [.int (b2i (inB (nI g) 3))]) rfl ?_
  refine r_if_eq 36 dX8_signAnew_28 (by decide) (fun c_1 => absurd c_1 (b2i_no (inB_k hg (by decide)))) (fun c_1 => ?_)
  refine r_iload dX8_signAnew_31 6 rfl ?_
  refine r_if_ge 46 dX8_signAnew_33 (by decide) (fun c_2 => ?_) (fun c_2 => absurd (by have h9 := nI_leI (a := 0) (by decide) hk; exact h9.mpr (Nat.zero_le _)) c_2)
  refine r_aload_n dX8_signAnew_46 rfl 2 rfl ?_
  refine r_get 7 dX8_signAnew_47 fRX8_57 (hW.g 0 0 rfl) rfl ?_
  refine r_iload dX8_signAnew_50 6 rfl ?_
  refine r_callV (st := []) [.int (nI k)] 20 400 dX8_signAnew_52 kX4_start nX4_start lRX8_255 (hW.g 14 0 rfl) rfl (c_X4_start (hW.g 14 0 rfl) (nI k)) rfl rfl (Nat.le_of_ble_eq_true rfl) (Nat.le_refl _) (Nat.le_refl _) (fun _ _ h => h.elim) ?_
  refine cx_det (st2 := []) rfl ?_
  have hWs : World (skA A k 1 0) B ad (va_up G (ad 14 0) (some (.inr (4, [.int (nI k), .int 1, .int 0])))) := w_sk hW k 1 0
  have hSk : SkW A B ad (va_up G (ad 14 0) (some (.inr (4, [.int (nI k), .int 1, .int 0])))) k [] := by
    have h9 := w_sk hW (lf k 0) 1 0
    rw [lf_le (Nat.zero_le k), Nat.sub_zero] at h9
    exact ⟨true, fun _ => rfl, h9⟩
  refine r_aload_n dX8_signAnew_55 rfl 2 rfl ?_
  refine r_aload dX8_signAnew_56 1 rfl ?_
  refine r_aload dX8_signAnew_58 0 rfl ?_
  refine r_iload_n dX8_signAnew_60 rfl 5 rfl ?_
  refine r_callV (st := []) [.ref (ad 27 l), .ref (ad 29 e), .int (nI g)] 20 400 dX8_signAnew_61 kX8_seek nX8_seek lRX8_258 (hWs.g 0 0 rfl) rfl (c_seek hI hl he hg hk hSk) rfl rfl (Nat.le_of_ble_eq_true rfl) (Nat.le_refl _) (Nat.le_refl _) (fun _ _ h => h.elim) ?_
  intro r G9 hr
  obtain ⟨rfl, X, R, hXR, hSX, hd⟩ := hr
  have hW_50 := hSX
  obtain ⟨o_3, ho_4, hW_5⟩ := hW_50
  have hv := bld_pre (k := k) hXR hd
  have hcf : isC (nI ((bld true X).getD k 0)) := by
    rw [hv]
    exact isC_nI (getD_lt (bld_lt _ true (fun x hx => rawS_lt (hok.1 x hx))) (by decide))
  refine r_aload_n dX8_signAnew_64 rfl 2 rfl ?_
  refine r_get 7 dX8_signAnew_65 fRX8_57 (hW_5.g 0 0 rfl) rfl ?_
  refine r_callV (st := []) [] 20 400 dX8_signAnew_68 kX4_found nX4_found lRX8_261 (hW_5.g 14 0 rfl) rfl (c_X4_found (skg hW_5) hcf) rfl rfl (Nat.le_of_ble_eq_true rfl) (Nat.le_refl _) (Nat.le_refl _) (fun _ _ h => h.elim) ?_
  refine cx_det (st2 := [.int (nI ((bld true X).getD k 0))]) rfl ?_
  refine r_ret .char dX8_signAnew_71 rfl hcf ?_
  exact ⟨by rw [hv], _, ad, hW_5, fun _ _ _ => rfl, hP, fun f hf => skA_f hf⟩
