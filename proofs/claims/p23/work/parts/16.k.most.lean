/-- new branches of the data t, and the best of the first n data -/
def nws (A : ST) (l : Nat) (f : Nat → Bool) (t : Nat) : Nat := cntB (fun j => brF A l t (A 17 l) j && !f j) 12
def mbF (A : ST) (l : Nat) (f : Nat → Bool) : Nat → Int32 × Nat
  | 0 => (-1, 0)
  | n + 1 => if nws A l f n ≤ (mbF A l f n).2 then mbF A l f n else (nI n, nws A l f n)
theorem nws_le (A : ST) (l : Nat) (f : Nat → Bool) (t : Nat) : nws A l f t ≤ 12 := cntB_le _ 12
theorem mbF_le (A : ST) (l : Nat) (f : Nat → Bool) : ∀ n, (mbF A l f n).2 ≤ 12
  | 0 => Nat.zero_le _
  | n + 1 => by
    show (if nws A l f n ≤ (mbF A l f n).2 then mbF A l f n else (nI n, nws A l f n)).2 ≤ 12
    split
    · exact mbF_le A l f n
    · exact nws_le A l f n
theorem c_bits {d b0 : Nat} {G : GH} (A : ST) (l t : Nat) (f : Nat → Bool) : CTd mJ_bitCount d b0 G [.int (nI (enc (fun j => brF A l t (A 17 l) j && !f j) 12))] 0 0 (some (.int (nI (nws A l f t)))) G := by
  have h := c_J_bitCount (d := d) (b0 := b0) (G := G) (nI (enc (fun j => brF A l t (A 17 l) j && !f j) 12))
  rw [bc_n (enc_lt _ 12), bts_enc] at h
  exact h
set_option maxRecDepth 100000 in
set_option maxHeartbeats 1000000 in
theorem lp_X8_mostBranches {d b0 : Nat} {G : GH} {A B : ST} {ad : AD} (hW : World A B ad G) (hI : Inv A) {l : Nat} (hl : l < A 15 0) {f : Nat → Bool} : ∀ (fu : Nat) (p : Nat), p ≤ A 18 0 → A 18 0 - p < fu → WP mX8_mostBranches (d + 3) b0 (fun r G' => r = some (.int (mbF A l f (A 18 0)).1) ∧ G' = G) (fun _ _ => False) G 0 0 8 [(5, .int (nI p)), (4, .int (nI (mbF A l f p).2)), (3, .int ((mbF A l f p).1)), (0, .ref (ad 0 0)), (1, .ref (ad 27 l)), (2, .int (nI (enc f 12)))] [] := by
  intro fu
  induction fu with
  | zero => intro p hinv hn; exact absurd hn (Nat.not_lt_zero _)
  | succ fu ih =>
    intro p hinv hn
    have hb18 := hI.b18
    refine r_iload dX8_mostBranches_8 0 rfl ?_
    refine r_aload_n dX8_mostBranches_10 rfl 3 rfl ?_
    refine r_get 10 dX8_mostBranches_11 fRX8_206 (hW.g 0 0 rfl) rfl ?_
    refine r_icmp_ge 57 dX8_mostBranches_14 (by decide) (fun c_1 => ?_) (fun c_1 => ?_)
    · refine r_iload_n dX8_mostBranches_57 rfl 2 rfl ?_
      refine r_ireti dX8_mostBranches_58 rfl ?_
      have hp : p = A 18 0 := by have := ni_le (by omega) (by omega) c_1; omega
      exact ⟨by rw [hp], rfl⟩
    · have hp : p < A 18 0 := ni_nle (by omega) (by omega) c_1
      have hm := mbF_le A l f p
      have hw := nws_le A l f p
      have hs : mbF A l f (p + 1) = (if nws A l f p ≤ (mbF A l f p).2 then mbF A l f p else (nI p, nws A l f p)) := rfl
      refine r_aload_n dX8_mostBranches_17 rfl 3 rfl ?_
      refine r_aload_n dX8_mostBranches_18 rfl 4 rfl ?_
      refine r_aload_n dX8_mostBranches_19 rfl 3 rfl ?_
      refine r_iload dX8_mostBranches_20 0 rfl ?_
      refine r_callV (st := [.ref (ad 27 l), .ref (ad 0 0)]) [.int (nI p)] 0 0 dX8_mostBranches_22 kX8_dataAt nX8_dataAt lRX8_214 (hW.g 0 0 rfl) rfl (c_X8_dataAt_t hW hI hp) rfl rfl (Nat.le_of_ble_eq_true rfl) (Nat.le_refl _) (Nat.le_refl _) (fun _ _ h => h.elim) ?_
      refine cx_det (st2 := [.ref (ad 29 p), .ref (ad 27 l), .ref (ad 0 0)]) rfl ?_
      refine r_callV (st := []) [.ref (ad 27 l), .ref (ad 29 p)] 0 0 dX8_mostBranches_25 kX8_branches nX8_branches lRX8_274 (hW.g 0 0 rfl) rfl (c_branches hW hI hl hp) rfl rfl (Nat.le_of_ble_eq_true rfl) (Nat.le_refl _) (Nat.le_refl _) (fun _ _ h => h.elim) ?_
      refine cx_det (st2 := [.int (nI (enc (brF A l p (A 17 l)) 12))]) rfl ?_
      refine r_iload_n dX8_mostBranches_28 rfl 5 rfl ?_
      refine r_iconst (v := (-1)) dX8_mostBranches_29 (by decide) ?_
      refine r_ixor dX8_mostBranches_30 ?_
      refine r_iand dX8_mostBranches_31 ?_
      refine r_top (nI (enc (fun j => brF A l p (A 17 l) j && !f j) 12)) (enc_andn _ _) ?_
      refine r_callS (st := []) [.int (nI (enc (fun j => brF A l p (A 17 l) j && !f j) 12))] 0 0 dX8_mostBranches_32 kJ_bitCount nJ_bitCount lRX8_363 (c_bits A l p f) rfl rfl (Nat.le_of_ble_eq_true rfl) (Nat.le_refl _) (Nat.le_refl _) (fun _ _ h => h.elim) ?_
      refine cx_det (st2 := [.int (nI (nws A l f p))]) rfl ?_
      refine r_istore [(6, .int (nI (nws A l f p))), (5, .int (nI p)), (4, .int (nI (mbF A l f p).2)), (3, .int ((mbF A l f p).1)), (0, .ref (ad 0 0)), (1, .ref (ad 27 l)), (2, .int (nI (enc f 12)))] dX8_mostBranches_35 (by decide) rfl ?_
      refine r_iload dX8_mostBranches_37 0 rfl ?_
      refine r_iload dX8_mostBranches_39 2 rfl ?_
      refine r_icmp_le 51 dX8_mostBranches_41 (by decide) (fun c_3 => ?_) (fun c_3 => ?_)
      · refine r_iinc (nI (p + 1)) [(5, .int (nI (p + 1))), (6, .int (nI (nws A l f p))), (4, .int (nI (mbF A l f p).2)), (3, .int ((mbF A l f p).1)), (0, .ref (ad 0 0)), (1, .ref (ad 27 l)), (2, .int (nI (enc f 12)))] dX8_mostBranches_51 1 rfl (nI_1 p) (by decide) rfl ?_
        refine r_goto 8 dX8_mostBranches_54 (by decide) ?_
        have hle := ni_le (by omega) (by omega) c_3
        rw [if_pos hle] at hs
        have hh := ih (p + 1) (by omega) (by omega)
        rw [hs] at hh
        exact WP.loc [0, 2, 3, 4, 5, 6] rfl hh
      · refine r_iload dX8_mostBranches_44 1 rfl ?_
        refine r_istore_n [(3, .int (nI p)), (6, .int (nI (nws A l f p))), (5, .int (nI p)), (4, .int (nI (mbF A l f p).2)), (0, .ref (ad 0 0)), (1, .ref (ad 27 l)), (2, .int (nI (enc f 12)))] dX8_mostBranches_46 rfl (by decide) rfl ?_
        refine r_iload dX8_mostBranches_47 1 rfl ?_
        refine r_istore [(4, .int (nI (nws A l f p))), (3, .int (nI p)), (6, .int (nI (nws A l f p))), (5, .int (nI p)), (0, .ref (ad 0 0)), (1, .ref (ad 27 l)), (2, .int (nI (enc f 12)))] dX8_mostBranches_49 (by decide) rfl ?_
        refine r_iinc (nI (p + 1)) [(5, .int (nI (p + 1))), (4, .int (nI (nws A l f p))), (3, .int (nI p)), (6, .int (nI (nws A l f p))), (0, .ref (ad 0 0)), (1, .ref (ad 27 l)), (2, .int (nI (enc f 12)))] dX8_mostBranches_51 3 rfl (nI_1 p) (by decide) rfl ?_
        refine r_goto 8 dX8_mostBranches_54 (by decide) ?_
        have hle := ni_nle (by omega) (by omega) c_3
        rw [if_neg (Nat.not_le.mpr hle)] at hs
        have hh := ih (p + 1) (by omega) (by omega)
        rw [hs] at hh
        exact WP.loc [0, 1, 2, 4, 5, 6] rfl hh
set_option maxRecDepth 100000 in
set_option maxHeartbeats 1000000 in
theorem c_mostBranches {d b0 : Nat} {G : GH} {A B : ST} {ad : AD} (hW : World A B ad G) (hI : Inv A) {l : Nat} (hl : l < A 15 0) {f : Nat → Bool} : CTd mX8_mostBranches (d + 3) b0 G [.ref (ad 0 0), .ref (ad 27 l), .int (nI (enc f 12))] 0 0 (some (.int (mbF A l f (A 18 0)).1)) G := by
  refine CT.intro (by decide +kernel) rfl (Nat.le_of_ble_eq_true rfl) ?_
  show WP mX8_mostBranches _ _ _ _ _ 0 0 0 [(0, .ref (ad 0 0)), (1, .ref (ad 27 l)), (2, .int (nI (enc f 12)))] []
  refine r_iconst (v := (mbF A l f 0).1) dX8_mostBranches_0 (by first | rfl | decide) ?_
  refine r_istore_n [(3, .int ((mbF A l f 0).1)), (0, .ref (ad 0 0)), (1, .ref (ad 27 l)), (2, .int (nI (enc f 12)))] dX8_mostBranches_1 rfl (by decide) rfl ?_
  refine r_iconst (v := nI (mbF A l f 0).2) dX8_mostBranches_2 (by first | rfl | decide) ?_
  refine r_istore [(4, .int (nI (mbF A l f 0).2)), (3, .int ((mbF A l f 0).1)), (0, .ref (ad 0 0)), (1, .ref (ad 27 l)), (2, .int (nI (enc f 12)))] dX8_mostBranches_3 (by decide) rfl ?_
  refine r_iconst (v := nI 0) dX8_mostBranches_5 (by first | rfl | decide) ?_
  refine r_istore [(5, .int (nI 0)), (4, .int (nI (mbF A l f 0).2)), (3, .int ((mbF A l f 0).1)), (0, .ref (ad 0 0)), (1, .ref (ad 27 l)), (2, .int (nI (enc f 12)))] dX8_mostBranches_6 (by decide) rfl ?_
  exact lp_X8_mostBranches hW hI hl _ 0 (Nat.zero_le _) (Nat.lt_succ_self _)
