theorem mbF_in (A : ST) (l : Nat) (f : Nat → Bool) : ∀ n, (mbF A l f n).1 = -1 ∨ ∃ t, t < n ∧ (mbF A l f n).1 = nI t
  | 0 => Or.inl rfl
  | n + 1 => by
    show (if nws A l f n ≤ (mbF A l f n).2 then mbF A l f n else (nI n, nws A l f n)).1 = -1 ∨ ∃ t, t < n + 1 ∧ (if nws A l f n ≤ (mbF A l f n).2 then mbF A l f n else (nI n, nws A l f n)).1 = nI t
    split
    · rcases mbF_in A l f n with h | ⟨t, h1, h2⟩
      · exact Or.inl h
      · exact Or.inr ⟨t, by omega, h2⟩
    · exact Or.inr ⟨n, by omega, rfl⟩
/-- the branches covered by the first n that are chosen -/
def cvF (A : ST) (l : Nat) : Nat → Nat → Bool
  | 0 => fun _ => false
  | n + 1 => fun j => cvF A l n j || brF A l (mbF A l (cvF A l n) (A 18 0)).1.toNatClampNeg (A 17 l) j
abbrev bsI (A : ST) (l n : Nat) : Int32 := (mbF A l (cvF A l n) (A 18 0)).1
def smF (A : ST) (l k : Nat) : Nat → Int32
  | 0 => -1
  | n + 1 => if bsI A l (A 18 0 - (n + 1)) = -1 then -1 else if A 18 0 - (n + 1) = k then bsI A l (A 18 0 - (n + 1)) else smF A l k n
set_option maxRecDepth 100000 in
set_option maxHeartbeats 1000000 in
theorem lp_X8_sample {d b0 : Nat} {G : GH} {A B : ST} {ad : AD} (hW : World A B ad G) (hI : Inv A) (hP : Pag A) {l k : Nat} (hl : l < A 15 0) (hk : k < 2 ^ 31) : ∀ (fu : Nat) (c : Nat), c ≤ A 18 0 ∧ smF A l k (A 18 0 - c) = smF A l k (A 18 0) → A 18 0 - c < fu → WP mX8_sample (d + 8) b0 (OPo (smF A l k (A 18 0)) A B ad A) (fun _ _ => False) G 20 400 31 [(5, .int (nI c)), (4, .int (nI (enc (cvF A l c) 12))), (3, .ref (ad 27 l)), (0, .ref (ad 0 0)), (1, .int (nI l)), (2, .int (nI k))] [] := by
  intro fu
  induction fu with
  | zero => intro c hinv hn; exact absurd hn (Nat.not_lt_zero _)
  | succ fu ih =>
    intro c hinv hn
    have hb18 := hI.b18
    refine r_iload dX8_sample_31 0 rfl ?_
    refine r_aload_n dX8_sample_33 rfl 3 rfl ?_
    refine r_get 10 dX8_sample_34 fRX8_206 (hW.g 0 0 rfl) rfl ?_
    refine r_icmp_ge 86 dX8_sample_37 (by decide) (fun c_1 => ?_) (fun c_1 => ?_)
    · refine r_iconst (v := (-1)) dX8_sample_86 (by decide) ?_
      refine r_ireti dX8_sample_87 rfl ?_
      have hc : c = A 18 0 := by have := ni_le (by omega) (by omega) c_1; omega
      exact ⟨by rw [← hinv.2, hc, Nat.sub_self]; rfl, A, ad, hW, fun _ _ _ => rfl, hP, fun f hf => rfl⟩
    · have hc : c < A 18 0 := ni_nle (by omega) (by omega) c_1
      have hs : smF A l k (A 18 0 - c) = (if bsI A l c = -1 then -1 else if c = k then bsI A l c else smF A l k (A 18 0 - (c + 1))) := by
        have e9 : A 18 0 - c = (A 18 0 - (c + 1)) + 1 := by omega
        rw [e9]
        show (if bsI A l (A 18 0 - (A 18 0 - (c + 1) + 1)) = -1 then -1 else if A 18 0 - (A 18 0 - (c + 1) + 1) = k then bsI A l (A 18 0 - (A 18 0 - (c + 1) + 1)) else smF A l k (A 18 0 - (c + 1))) = _
        rw [show A 18 0 - (A 18 0 - (c + 1) + 1) = c by omega]
      refine r_aload_n dX8_sample_40 rfl 3 rfl ?_
      refine r_aload_n dX8_sample_41 rfl 2 rfl ?_
      refine r_iload dX8_sample_42 1 rfl ?_
      refine r_callV (st := []) [.ref (ad 27 l), .int (nI (enc (cvF A l c) 12))] 20 400 dX8_sample_44 kX8_mostBranches nX8_mostBranches lRX8_270 (hW.g 0 0 rfl) rfl (c_mostBranches hW hI hl) rfl rfl (Nat.le_of_ble_eq_true rfl) (Nat.le_refl _) (Nat.le_refl _) (fun _ _ h => h.elim) ?_
      refine cx_det (st2 := [.int (bsI A l c)]) rfl ?_
      refine r_istore [(6, .int (bsI A l c)), (5, .int (nI c)), (4, .int (nI (enc (cvF A l c) 12))), (3, .ref (ad 27 l)), (0, .ref (ad 0 0)), (1, .int (nI l)), (2, .int (nI k))] dX8_sample_47 (by decide) rfl ?_
      refine r_iload dX8_sample_49 0 rfl ?_
      refine r_iconst (v := (-1)) dX8_sample_51 (by decide) ?_
      refine r_icmp_eq 61 dX8_sample_52 (by decide) (fun c_3 => ?_) (fun c_3 => ?_)
      · refine r_iload dX8_sample_61 0 rfl ?_
        refine r_ireti dX8_sample_63 rfl ?_
        exact ⟨by rw [← hinv.2, hs, if_pos c_3]; rw [show bsI A l c = -1 from c_3], A, ad, hW, fun _ _ _ => rfl, hP, fun f hf => rfl⟩
      · refine r_iload dX8_sample_55 1 rfl ?_
        refine r_iload_n dX8_sample_57 rfl 6 rfl ?_
        refine r_icmp_ne 64 dX8_sample_58 (by decide) (fun c_4 => ?_) (fun c_4 => ?_)
        · obtain ⟨t, ht, hbt⟩ := (mbF_in A l (cvF A l c) (A 18 0)).resolve_left c_3
          have hcv : cvF A l (c + 1) = fun j => cvF A l c j || brF A l t (A 17 l) j := by
            show (fun j => cvF A l c j || brF A l (bsI A l c).toNatClampNeg (A 17 l) j) = _
            rw [show bsI A l c = nI t from hbt, nI_cl (by omega)]
          have hne : c ≠ k := ni_ne (by omega) hk c_4
          refine r_iload dX8_sample_64 2 rfl ?_
          refine r_aload_n dX8_sample_66 rfl 4 rfl ?_
          refine r_aload_n dX8_sample_67 rfl 3 rfl ?_
          refine r_aload_n dX8_sample_68 rfl 4 rfl ?_
          refine r_iload dX8_sample_69 0 rfl ?_
          refine r_top (nI t) hbt ?_
          refine r_callV (st := [.ref (ad 27 l), .ref (ad 0 0), .int (nI (enc (cvF A l c) 12))]) [.int (nI t)] 20 400 dX8_sample_71 kX8_dataAt nX8_dataAt lRX8_214 (hW.g 0 0 rfl) rfl (c_X8_dataAt_t hW hI ht) rfl rfl (Nat.le_of_ble_eq_true rfl) (Nat.le_refl _) (Nat.le_refl _) (fun _ _ h => h.elim) ?_
          refine cx_det (st2 := [.ref (ad 29 t), .ref (ad 27 l), .ref (ad 0 0), .int (nI (enc (cvF A l c) 12))]) rfl ?_
          refine r_callV (st := [.int (nI (enc (cvF A l c) 12))]) [.ref (ad 27 l), .ref (ad 29 t)] 20 400 dX8_sample_74 kX8_branches nX8_branches lRX8_274 (hW.g 0 0 rfl) rfl (c_branches hW hI hl ht) rfl rfl (Nat.le_of_ble_eq_true rfl) (Nat.le_refl _) (Nat.le_refl _) (fun _ _ h => h.elim) ?_
          refine cx_det (st2 := [.int (nI (enc (brF A l t (A 17 l)) 12)), .int (nI (enc (cvF A l c) 12))]) rfl ?_
          refine r_ior dX8_sample_77 ?_
          refine r_top (nI (enc (cvF A l (c + 1)) 12)) (by rw [enc_or, hcv]) ?_
          refine r_istore [(4, .int (nI (enc (cvF A l (c + 1)) 12))), (6, .int (bsI A l c)), (5, .int (nI c)), (3, .ref (ad 27 l)), (0, .ref (ad 0 0)), (1, .int (nI l)), (2, .int (nI k))] dX8_sample_78 (by decide) rfl ?_
          refine r_iinc (nI (c + 1)) [(5, .int (nI (c + 1))), (4, .int (nI (enc (cvF A l (c + 1)) 12))), (6, .int (bsI A l c)), (3, .ref (ad 27 l)), (0, .ref (ad 0 0)), (1, .int (nI l)), (2, .int (nI k))] dX8_sample_80 2 rfl (nI_1 c) (by decide) rfl ?_
          refine r_goto 31 dX8_sample_83 (by decide) ?_
          exact WP.loc [0, 1, 3, 4, 5, 6] rfl (ih (c + 1) ⟨by omega, by rw [← hinv.2, hs, if_neg c_3, if_neg hne]⟩ (by omega))
        · refine r_iload dX8_sample_61 0 rfl ?_
          refine r_ireti dX8_sample_63 rfl ?_
          have hck : c = k := ni_eq (by omega) hk c_4
          exact ⟨by rw [← hinv.2, hs, if_neg c_3, if_pos hck], A, ad, hW, fun _ _ _ => rfl, hP, fun f hf => rfl⟩
set_option maxRecDepth 100000 in
set_option maxHeartbeats 1000000 in
theorem c_sample_0 {d b0 : Nat} {G : GH} {A B : ST} {ad : AD} (hW : World A B ad G) (hI : Inv A) (hP : Pag A) {l k : Nat} (hl : l < A 15 0) (hk : k < 2 ^ 31) : CT mX8_sample (d + 8) b0 G [.ref (ad 0 0), .int (nI l), .int (nI k)] 20 400 (OPo (smF A l k (A 18 0)) A B ad A) (fun _ _ => False) := by
  have hb0 := hI.b0
  have hb2 := hI.b2
  have hb9 := hI.b9
  have hb15 := hI.b15
  have hb18 := hI.b18
  refine CT.intro (by decide +kernel) rfl (Nat.le_of_ble_eq_true rfl) ?_
  show WP mX8_sample _ _ _ _ _ 20 400 0 [(0, .ref (ad 0 0)), (1, .int (nI l)), (2, .int (nI k))] []
  refine r_aload_n dX8_sample_0 rfl 0 rfl ?_
  refine r_iload_n dX8_sample_1 rfl 1 rfl ?_
  refine r_callV (st := []) [.int (nI l)] 20 400 dX8_sample_2 kX8_letterAt nX8_letterAt lRX8_188 (hW.g 0 0 rfl) rfl (c_X8_letterAt_t hW hI hl) rfl rfl (Nat.le_of_ble_eq_true rfl) (Nat.le_refl _) (Nat.le_refl _) (fun _ _ h => h.elim) ?_
  refine cx_det (st2 := [.ref (ad 27 l)]) rfl ?_
  refine r_astore_n [(3, .ref (ad 27 l)), (0, .ref (ad 0 0)), (1, .int (nI l)), (2, .int (nI k))] dX8_sample_5 rfl (by decide) rfl ?_
  refine r_aload_n dX8_sample_6 rfl 0 rfl ?_
  refine r_ifnullR dX8_sample_7 ?_
  refine r_iload_n dX8_sample_10 rfl 3 rfl ?_
  refine r_if_ge 25 dX8_sample_11 (by decide) (fun c_1 => ?_) (fun c_1 => absurd (by have h9 := nI_leI (a := 0) (by decide) hk; exact h9.mpr (Nat.zero_le _)) c_1)
  refine r_iconst (v := nI (enc (cvF A l 0) 12)) dX8_sample_25 (by rw [show cvF A l 0 = fun _ => false from rfl, enc_0]; decide) ?_
  refine r_istore [(4, .int (nI (enc (cvF A l 0) 12))), (3, .ref (ad 27 l)), (0, .ref (ad 0 0)), (1, .int (nI l)), (2, .int (nI k))] dX8_sample_26 (by decide) rfl ?_
  refine r_iconst (v := nI 0) dX8_sample_28 (by decide) ?_
  refine r_istore [(5, .int (nI 0)), (4, .int (nI (enc (cvF A l 0) 12))), (3, .ref (ad 27 l)), (0, .ref (ad 0 0)), (1, .int (nI l)), (2, .int (nI k))] dX8_sample_29 (by decide) rfl ?_
  exact lp_X8_sample hW hI hP hl hk _ 0 ⟨Nat.zero_le _, rfl⟩ (Nat.lt_succ_self _)
