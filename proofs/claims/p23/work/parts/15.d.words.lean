set_option maxRecDepth 100000 in
set_option maxHeartbeats 4000000 in
theorem c_X7_setEnding {d b0 : Nat} {G : GH} {A B : ST} {ad : AD} (hW : World A B ad G) (hI : Inv A) {l g : Nat} (hl : l < 3) (hg : g < 8) (hle : A 0 0 ≤ 4) : CTd mX7_setEnding (d + 2) b0 G [.ref (ad 3 0), .int (nI l), .int (nI g), .ref (ad 1 0)] 0 0 none (va_up (va_up G (ad 18 (l * 8 + g)) (some (chA 4 (cpy (rg A 1 0 60) (rg A 5 (4 * (l * 8 + g)) 4) (A 0 0))))) (ad 17 (l * 8 + g)) (some (sgC (ad 18 (l * 8 + g)) (A 0 0)))) := by
  have hb0 := hI.b0
  have hb2 := hI.b2
  have hb9 := hI.b9
  have hb15 := hI.b15
  have hb18 := hI.b18
  have he : l * 8 + g < 24 := by omega
  refine CT.intro (by decide +kernel) rfl (Nat.le_of_ble_eq_true rfl) ?_
  show WP mX7_setEnding _ _ _ _ _ 0 0 0 [(0, .ref (ad 3 0)), (1, .int (nI l)), (2, .int (nI g)), (3, .ref (ad 1 0))] []
  refine r_aload_n dX7_setEnding_0 rfl 0 rfl ?_
  refine r_iload_n dX7_setEnding_1 rfl 1 rfl ?_
  refine r_iload_n dX7_setEnding_2 rfl 2 rfl ?_
  refine r_callV (st := []) [.int (nI l), .int (nI g)] 0 0 dX7_setEnding_3 kX7_endingAt nX7_endingAt lRX7_38 (hW.g 3 0 rfl) rfl (c_X7_endingAt hW hI hl hg) rfl rfl (Nat.le_of_ble_eq_true rfl) (Nat.le_refl _) (Nat.le_refl _) (fun _ _ h => h.elim) ?_
  refine cx_det (st2 := [.ref (ad 17 (l * 8 + g))]) rfl ?_
  refine r_astore [(4, .ref (ad 17 (l * 8 + g))), (0, .ref (ad 3 0)), (1, .int (nI l)), (2, .int (nI g)), (3, .ref (ad 1 0))] dX7_setEnding_6 (by decide) rfl ?_
  refine r_aload dX7_setEnding_8 0 rfl ?_
  refine r_ifnullR dX7_setEnding_10 ?_
  refine r_aload dX7_setEnding_13 0 rfl ?_
  refine r_aload_n dX7_setEnding_15 rfl 4 rfl ?_
  refine r_callV (st := []) [.ref (ad 1 0)] 0 0 dX7_setEnding_16 kX5_take nX5_take lRX7_34 (hW.g 17 (l * 8 + g) he) rfl (c_X5_take (sg17 hW hI he) (sg1 hW hI) (hW.ne 17 _ 1 0 he rfl (Or.inl (by decide))) (hW.ne 18 _ 2 0 he rfl (Or.inl (by decide))) (fun k _ => rg_C hI.ch.1 k) hle) rfl rfl (Nat.le_of_ble_eq_true rfl) (Nat.le_refl _) (Nat.le_refl _) (fun _ _ h => h.elim) ?_
  refine cx_det (st2 := []) rfl ?_
  refine r_vret dX7_setEnding_19 rfl ?_
  exact ⟨rfl, rfl⟩
set_option maxRecDepth 100000 in
set_option maxHeartbeats 4000000 in
theorem c_X7_setOwn_s {d b0 : Nat} {G : GH} {A B : ST} {ad : AD} (hW : World A B ad G) (hI : Inv A) {l w g : Nat} (ho : oix l w g < 288 ∧ A 8 (oix l w g) ≠ 0) (hle : A 0 0 ≤ 10) : CTd mX7_setOwn (d + 2) b0 G [.ref (ad 3 0), .int (nI l), .int (nI w), .int (nI g), .ref (ad 1 0)] 0 0 none (va_up (va_up G (ad 20 (oix l w g)) (some (chA 10 (cpy (rg A 1 0 60) (rg A 7 (10 * (oix l w g)) 10) (A 0 0))))) (ad 19 (oix l w g)) (some (sgC (ad 20 (oix l w g)) (A 0 0)))) := by
  have hb0 := hI.b0
  have hb2 := hI.b2
  have hb9 := hI.b9
  have hb15 := hI.b15
  have hb18 := hI.b18
  refine CT.intro (by decide +kernel) rfl (Nat.le_of_ble_eq_true rfl) ?_
  show WP mX7_setOwn _ _ _ _ _ 0 0 0 [(0, .ref (ad 3 0)), (1, .int (nI l)), (2, .int (nI w)), (3, .int (nI g)), (4, .ref (ad 1 0))] []
  refine r_iload_n dX7_setOwn_0 rfl 1 rfl ?_
  refine r_iload_n dX7_setOwn_1 rfl 2 rfl ?_
  refine r_iload_n dX7_setOwn_2 rfl 3 rfl ?_
  refine r_callS (st := []) [.int (nI l), .int (nI w), .int (nI g)] 0 0 dX7_setOwn_3 kX7_ownIndex nX7_ownIndex lRX7_42 c_X7_ownIndex rfl rfl (Nat.le_of_ble_eq_true rfl) (Nat.le_refl _) (Nat.le_refl _) (fun _ _ h => h.elim) ?_
  refine cx_det (st2 := [.int (nI (oix l w g))]) rfl ?_
  refine r_istore [(5, .int (nI (oix l w g))), (0, .ref (ad 3 0)), (1, .int (nI l)), (2, .int (nI w)), (3, .int (nI g)), (4, .ref (ad 1 0))] dX7_setOwn_6 (by decide) rfl ?_
  refine r_iload dX7_setOwn_8 0 rfl ?_
  refine r_aload_n dX7_setOwn_10 rfl 1 rfl ?_
  refine r_get 2 dX7_setOwn_11 fRX7_20 (hW.g 3 0 rfl) rfl ?_
  refine r_alen (v := nI 288) dX7_setOwn_14 (hW.g 6 0 rfl) rfl ?_
  refine r_callSN (st := []) [.int (nI (oix l w g)), .int (nI 288)] 0 0 dX7_setOwn_15 kX8_isBelow nX8_isBelow lRX7_30 (c_isB (nI (oix l w g)) 288) rfl rfl (Nat.le_of_ble_eq_true rfl) (Nat.le_refl _) (Nat.le_refl _) (fun _ _ h => h.elim) ?_
  refine cx_det (st2 := [.int (b2i (inB (nI (oix l w g)) 288))]) rfl ?_
  refine r_if_ne 22 dX7_setOwn_18 (by decide) (fun c_2 => ?_) (fun c_2 => absurd c_2 (b2i_no (inB_k ho.1 (by decide))))
  refine r_aload_n dX7_setOwn_22 rfl 1 rfl ?_
  refine r_get 2 dX7_setOwn_23 fRX7_20 (hW.g 3 0 rfl) rfl ?_
  refine r_iload dX7_setOwn_26 0 rfl ?_
  refine r_aald dX7_setOwn_28 (hW.g 6 0 rfl) (vp_in_nI ho.1 (by decide)) ?_
  refine r_topq (.ref (ad 19 (oix l w g))) (by rw [nI_cl (show oix l w g < 2147483648 by have := ho.1; omega)]; rw [if_neg ho.2]; rfl) ?_
  refine r_astore [(6, .ref (ad 19 (oix l w g))), (5, .int (nI (oix l w g))), (0, .ref (ad 3 0)), (1, .int (nI l)), (2, .int (nI w)), (3, .int (nI g)), (4, .ref (ad 1 0))] dX7_setOwn_29 (by decide) rfl ?_
  refine r_aload dX7_setOwn_31 0 rfl ?_
  refine r_ifnonnullR 56 dX7_setOwn_33 (by decide) ?_
  refine r_aload dX7_setOwn_56 0 rfl ?_
  refine r_aload dX7_setOwn_58 6 rfl ?_
  refine r_callV (st := []) [.ref (ad 1 0)] 0 0 dX7_setOwn_60 kX5_take nX5_take lRX7_34 (hW.g 19 (oix l w g) ho) rfl (c_X5_take (sg19 hW hI ho) (sg1 hW hI) (hW.ne 19 _ 1 0 ho rfl (Or.inl (by decide))) (hW.ne 20 _ 2 0 ho rfl (Or.inl (by decide))) (fun k _ => rg_C hI.ch.1 k) hle) rfl rfl (Nat.le_of_ble_eq_true rfl) (Nat.le_refl _) (Nat.le_refl _) (fun _ _ h => h.elim) ?_
  refine cx_det (st2 := []) rfl ?_
  refine r_vret dX7_setOwn_63 rfl ?_
  exact ⟨rfl, rfl⟩
theorem adx_old {ad : AD} {k1 i1 q1 k2 i2 q2 k i : Nat} (h1 : ¬ (k = k1 ∧ i = i1)) (h2 : ¬ (k = k2 ∧ i = i2)) : adx (adx ad k2 i2 q2) k1 i1 q1 k i = ad k i := by
  unfold adx
  by_cases e1 : k = k1
  · rw [if_pos e1, if_neg (fun e => h1 ⟨e1, e⟩)]
    by_cases e2 : k = k2
    · rw [if_pos e2, if_neg (fun e => h2 ⟨e2, e⟩)]
    · rw [if_neg e2]
  · rw [if_neg e1]
    by_cases e2 : k = k2
    · rw [if_pos e2, if_neg (fun e => h2 ⟨e2, e⟩)]
    · rw [if_neg e2]
set_option maxRecDepth 100000 in
set_option maxHeartbeats 4000000 in
theorem c_X7_setOwn_n {d b0 : Nat} {G : GH} {A B : ST} {ad : AD} (hW : World A B ad G) (hI : Inv A) {l w g : Nat} (hox : oix l w g < 288) (h80 : A 8 (oix l w g) = 0) (hlen0 : A 0 0 ≠ 0) (hle : A 0 0 ≤ 10) : CT mX7_setOwn (d + 2) b0 G [.ref (ad 3 0), .int (nI l), .int (nI w), .int (nI g), .ref (ad 1 0)] 2 12 (fun r G' => r = none ∧ ∃ ad' : AD, World (setA (cpyA A 7 (10 * oix l w g) (A 0 0)) 8 (oix l w g) (A 0 0)) B ad' G' ∧ ∀ k i, lvw A k i → ad' k i = ad k i) (fun _ _ => False) := by
  have hb0 := hI.b0
  have hb2 := hI.b2
  have hb9 := hI.b9
  have hb15 := hI.b15
  have hb18 := hI.b18
  refine CT.intro (by decide +kernel) rfl (Nat.le_of_ble_eq_true rfl) ?_
  show WP mX7_setOwn _ _ _ _ _ 2 12 0 [(0, .ref (ad 3 0)), (1, .int (nI l)), (2, .int (nI w)), (3, .int (nI g)), (4, .ref (ad 1 0))] []
  have hR_1 := hW.g 1 0 rfl
  have hR_2 := hW.g 2 0 rfl
  have hR_3 := hW.g 3 0 rfl
  have hR_4 := hW.g 6 0 rfl
  refine r_iload_n dX7_setOwn_0 rfl 1 rfl ?_
  refine r_iload_n dX7_setOwn_1 rfl 2 rfl ?_
  refine r_iload_n dX7_setOwn_2 rfl 3 rfl ?_
  refine r_callS (st := []) [.int (nI l), .int (nI w), .int (nI g)] 2 12 dX7_setOwn_3 kX7_ownIndex nX7_ownIndex lRX7_42 c_X7_ownIndex rfl rfl (Nat.le_of_ble_eq_true rfl) (Nat.le_refl _) (Nat.le_refl _) (fun _ _ h => h.elim) ?_
  refine cx_det (st2 := [.int (nI (oix l w g))]) rfl ?_
  refine r_istore [(5, .int (nI (oix l w g))), (0, .ref (ad 3 0)), (1, .int (nI l)), (2, .int (nI w)), (3, .int (nI g)), (4, .ref (ad 1 0))] dX7_setOwn_6 (by decide) rfl ?_
  refine r_iload dX7_setOwn_8 0 rfl ?_
  refine r_aload_n dX7_setOwn_10 rfl 1 rfl ?_
  refine r_get 2 dX7_setOwn_11 fRX7_20 hR_3 rfl ?_
  refine r_alen (v := nI 288) dX7_setOwn_14 hR_4 rfl ?_
  refine r_callSN (st := []) [.int (nI (oix l w g)), .int (nI 288)] 2 12 dX7_setOwn_15 kX8_isBelow nX8_isBelow lRX7_30 (c_isB (nI (oix l w g)) 288) rfl rfl (Nat.le_of_ble_eq_true rfl) (Nat.le_refl _) (Nat.le_refl _) (fun _ _ h => h.elim) ?_
  refine cx_det (st2 := [.int (b2i (inB (nI (oix l w g)) 288))]) rfl ?_
  refine r_if_ne 22 dX7_setOwn_18 (by decide) (fun c_6 => ?_) (fun c_6 => absurd c_6 (b2i_no (inB_k hox (by decide))))
  refine r_aload_n dX7_setOwn_22 rfl 1 rfl ?_
  refine r_get 2 dX7_setOwn_23 fRX7_20 hR_3 rfl ?_
  refine r_iload dX7_setOwn_26 0 rfl ?_
  refine r_aald dX7_setOwn_28 hR_4 (vp_in_nI hox (by decide)) ?_
  refine r_topq (.null) (by rw [nI_cl (show oix l w g < 2147483648 by omega)]; rw [if_pos h80]; rfl) ?_
  refine r_astoreN [(6, .null), (5, .int (nI (oix l w g))), (0, .ref (ad 3 0)), (1, .int (nI l)), (2, .int (nI w)), (3, .int (nI g)), (4, .ref (ad 1 0))] dX7_setOwn_29 (by decide) rfl ?_
  refine r_aloadN dX7_setOwn_31 0 rfl ?_
  refine r_ifnonnullN dX7_setOwn_33 ?_
  refine r_new [.null, .int 0] 1 10 dX7_setOwn_36 wRX7_9 (by decide) (by decide) (fun q_7 hq_8 hb_9 => ?_)
  have hA_10 : ad 1 0 ≠ q_7 := cx_nf hR_1 hq_8
  have hG_11 := up_n (e := some (.inr (5, [.null, .int 0]))) hA_10 hR_1
  have hA_12 : ad 2 0 ≠ q_7 := cx_nf hR_2 hq_8
  have hG_13 := up_n (e := some (.inr (5, [.null, .int 0]))) hA_12 hR_2
  have hA_14 : ad 3 0 ≠ q_7 := cx_nf hR_3 hq_8
  have hG_15 := up_n (e := some (.inr (5, [.null, .int 0]))) hA_14 hR_3
  have hA_16 : ad 6 0 ≠ q_7 := cx_nf hR_4 hq_8
  have hG_17 := up_n (e := some (.inr (5, [.null, .int 0]))) hA_16 hR_4
  have hG_18 : (va_up G q_7 (some (.inr (5, [.null, .int 0])))) q_7 = some (.inr (5, [.null, .int 0])) := up_s
  refine r_heap (G' := (va_up G q_7 (some (.inr (5, [.null, .int 0]))))) rfl ?_
  refine r_dup dX7_setOwn_39 rfl ?_
  refine r_bipush (v := 10) dX7_setOwn_40 (by decide) ?_
  refine r_callI (st := [.ref q_7]) [.int 10] 0 0 dX7_setOwn_42 kX5_init nX5_init rfl rfl lRX7_23 (c_X5_init (N := 10) (by decide) (by decide) hG_18) rfl rfl (Nat.le_of_ble_eq_true rfl) (by decide) (by decide) (fun _ _ h => h.elim) ?_
  intro r G9 hr
  obtain ⟨rfl, qa, hqa, hbqa, rfl⟩ := hr
  have hA_19 : ad 1 0 ≠ qa := cx_nf hG_11 hqa
  have hG_20 := up_n (e := some (chA 10 (fun _ => 0))) hA_19 hG_11
  have hA_21 : ad 2 0 ≠ qa := cx_nf hG_13 hqa
  have hG_22 := up_n (e := some (chA 10 (fun _ => 0))) hA_21 hG_13
  have hA_23 : ad 3 0 ≠ qa := cx_nf hG_15 hqa
  have hG_24 := up_n (e := some (chA 10 (fun _ => 0))) hA_23 hG_15
  have hA_25 : ad 6 0 ≠ qa := cx_nf hG_17 hqa
  have hG_26 := up_n (e := some (chA 10 (fun _ => 0))) hA_25 hG_17
  have hA_27 : q_7 ≠ qa := cx_nf hG_18 hqa
  have hG_28 := up_n (e := some (chA 10 (fun _ => 0))) hA_27 hG_18
  have hG_29 : (va_up (va_up G q_7 (some (.inr (5, [.null, .int 0])))) qa (some (chA 10 (fun _ => 0)))) qa = some (chA 10 (fun _ => 0)) := up_s
  have hG_30 := up_n (e := some (sgC qa 0)) hA_10 hG_20
  have hG_31 := up_n (e := some (sgC qa 0)) hA_12 hG_22
  have hG_32 := up_n (e := some (sgC qa 0)) hA_14 hG_24
  have hG_33 := up_n (e := some (sgC qa 0)) hA_16 hG_26
  have hG_34 := up_n (e := some (sgC qa 0)) (Ne.symm hA_27) hG_29
  have hG_35 : (va_up (va_up (va_up G q_7 (some (.inr (5, [.null, .int 0])))) qa (some (chA 10 (fun _ => 0)))) q_7 (some (sgC qa 0))) q_7 = some (sgC qa 0) := up_s
  refine r_astore [(6, .ref q_7), (5, .int (nI (oix l w g))), (0, .ref (ad 3 0)), (1, .int (nI l)), (2, .int (nI w)), (3, .int (nI g)), (4, .ref (ad 1 0))] dX7_setOwn_45 (by decide) rfl ?_
  refine r_aload_n dX7_setOwn_47 rfl 2 rfl ?_
  refine r_get 2 dX7_setOwn_48 fRX7_20 hG_32 rfl ?_
  refine r_iload dX7_setOwn_51 1 rfl ?_
  refine r_aload dX7_setOwn_53 0 rfl ?_
  refine r_aast RX5 dX7_setOwn_55 hG_33 hG_35 rfl (vp_in_nI hox (by decide)) ?_
  have hG_36 := up_n (e := some (.inl (.object RX5, 288, .inr (.inr (.inr (.inr (va_up (fun j => if A 8 j = 0 then none else some (ad 19 j)) (oix l w g) (some q_7)))))))) (hW.ne 1 0 6 0 rfl rfl (Or.inl (by decide))) hG_30
  have hG_37 := up_n (e := some (.inl (.object RX5, 288, .inr (.inr (.inr (.inr (va_up (fun j => if A 8 j = 0 then none else some (ad 19 j)) (oix l w g) (some q_7)))))))) (hW.ne 2 0 6 0 rfl rfl (Or.inl (by decide))) hG_31
  have hG_38 := up_n (e := some (.inl (.object RX5, 288, .inr (.inr (.inr (.inr (va_up (fun j => if A 8 j = 0 then none else some (ad 19 j)) (oix l w g) (some q_7)))))))) (hW.ne 3 0 6 0 rfl rfl (Or.inl (by decide))) hG_32
  have hG_39 := up_n (e := some (.inl (.object RX5, 288, .inr (.inr (.inr (.inr (va_up (fun j => if A 8 j = 0 then none else some (ad 19 j)) (oix l w g) (some q_7)))))))) (Ne.symm hA_16) hG_35
  have hG_40 := up_n (e := some (.inl (.object RX5, 288, .inr (.inr (.inr (.inr (va_up (fun j => if A 8 j = 0 then none else some (ad 19 j)) (oix l w g) (some q_7)))))))) (Ne.symm hA_25) hG_34
  have hG_41 : (va_up (va_up (va_up (va_up G q_7 (some (.inr (5, [.null, .int 0])))) qa (some (chA 10 (fun _ => 0)))) q_7 (some (sgC qa 0))) (ad 6 0) (some (.inl (.object RX5, 288, .inr (.inr (.inr (.inr (va_up (fun j => if A 8 j = 0 then none else some (ad 19 j)) (oix l w g) (some q_7))))))))) (ad 6 0) = some (.inl (.object RX5, 288, .inr (.inr (.inr (.inr (va_up (fun j => if A 8 j = 0 then none else some (ad 19 j)) (oix l w g) (some q_7))))))) := up_s
  refine r_heap (G' := (va_up (va_up (va_up (va_up G q_7 (some (.inr (5, [.null, .int 0])))) qa (some (chA 10 (fun _ => 0)))) q_7 (some (sgC qa 0))) (ad 6 0) (some (.inl (.object RX5, 288, .inr (.inr (.inr (.inr (va_up (fun j => if A 8 j = 0 then none else some (ad 19 j)) (oix l w g) (some q_7)))))))))) (by rw [nI_cl (show oix l w g < 2147483648 by omega)]) ?_
  refine r_aload dX7_setOwn_56 0 rfl ?_
  refine r_aload dX7_setOwn_58 6 rfl ?_
  refine r_callV (st := []) [.ref (ad 1 0)] 0 0 dX7_setOwn_60 kX5_take nX5_take lRX7_34 hG_39 rfl (c_X5_take (show SG _ q_7 qa 10 0 (fun _ => 0) from ⟨hG_39, hG_40, by decide, by decide⟩) (show SG _ (ad 1 0) (ad 2 0) 60 (A 0 0) (rg A 1 0 60) from ⟨hG_36, hG_37, hb0, by decide⟩) (Ne.symm hA_10) (Ne.symm hA_21) (fun k _ => rg_C hI.ch.1 k) hle) rfl rfl (Nat.le_of_ble_eq_true rfl) (Nat.le_refl _) (Nat.le_refl _) (fun _ _ h => h.elim) ?_
  refine cx_det (st2 := []) rfl ?_
  have hG_42 := up_n (e := some (chA 10 (cpy (rg A 1 0 60) (fun _ => 0) (A 0 0)))) hA_19 hG_36
  have hG_43 := up_n (e := some (chA 10 (cpy (rg A 1 0 60) (fun _ => 0) (A 0 0)))) hA_21 hG_37
  have hG_44 := up_n (e := some (chA 10 (cpy (rg A 1 0 60) (fun _ => 0) (A 0 0)))) hA_23 hG_38
  have hG_45 := up_n (e := some (chA 10 (cpy (rg A 1 0 60) (fun _ => 0) (A 0 0)))) hA_25 hG_41
  have hG_46 := up_n (e := some (chA 10 (cpy (rg A 1 0 60) (fun _ => 0) (A 0 0)))) hA_27 hG_39
  have hG_47 : (va_up (va_up (va_up (va_up (va_up G q_7 (some (.inr (5, [.null, .int 0])))) qa (some (chA 10 (fun _ => 0)))) q_7 (some (sgC qa 0))) (ad 6 0) (some (.inl (.object RX5, 288, .inr (.inr (.inr (.inr (va_up (fun j => if A 8 j = 0 then none else some (ad 19 j)) (oix l w g) (some q_7))))))))) qa (some (chA 10 (cpy (rg A 1 0 60) (fun _ => 0) (A 0 0))))) qa = some (chA 10 (cpy (rg A 1 0 60) (fun _ => 0) (A 0 0))) := up_s
  have hG_48 := up_n (e := some (sgC qa (A 0 0))) hA_10 hG_42
  have hG_49 := up_n (e := some (sgC qa (A 0 0))) hA_12 hG_43
  have hG_50 := up_n (e := some (sgC qa (A 0 0))) hA_14 hG_44
  have hG_51 := up_n (e := some (sgC qa (A 0 0))) hA_16 hG_45
  have hG_52 := up_n (e := some (sgC qa (A 0 0))) (Ne.symm hA_27) hG_47
  have hG_53 : (va_up (va_up (va_up (va_up (va_up (va_up G q_7 (some (.inr (5, [.null, .int 0])))) qa (some (chA 10 (fun _ => 0)))) q_7 (some (sgC qa 0))) (ad 6 0) (some (.inl (.object RX5, 288, .inr (.inr (.inr (.inr (va_up (fun j => if A 8 j = 0 then none else some (ad 19 j)) (oix l w g) (some q_7))))))))) qa (some (chA 10 (cpy (rg A 1 0 60) (fun _ => 0) (A 0 0))))) q_7 (some (sgC qa (A 0 0)))) q_7 = some (sgC qa (A 0 0)) := up_s
  refine r_vret dX7_setOwn_63 rfl ?_
  have hold : ∀ x c, G x = some c → x ≠ ad 6 0 → (va_up (va_up (va_up (va_up (va_up (va_up G q_7 (some (.inr (5, [.null, .int 0])))) qa (some (chA 10 (fun _ => 0)))) q_7 (some (sgC qa 0))) (ad 6 0) (some (.inl (.object RX5, 288, .inr (.inr (.inr (.inr (va_up (fun j => if A 8 j = 0 then none else some (ad 19 j)) (oix l w g) (some q_7))))))))) qa (some (chA 10 (cpy (rg A 1 0 60) (fun _ => 0) (A 0 0))))) q_7 (some (sgC qa (A 0 0)))) x = some c := by
    intro x c y0 n0
    have m_q_7 : x ≠ q_7 := cx_nf y0 hq_8
    have y1 := up_n (e := some (.inr (5, [.null, .int 0]))) m_q_7 y0
    have m_qa : x ≠ qa := cx_nf y1 hqa
    have y2 := up_n (e := some (chA 10 (fun _ => 0))) m_qa y1
    have y3 := up_n (e := some (sgC qa 0)) m_q_7 y2
    have y4 := up_n (e := some (.inl (.object RX5, 288, .inr (.inr (.inr (.inr (va_up (fun j => if A 8 j = 0 then none else some (ad 19 j)) (oix l w g) (some q_7)))))))) n0 y3
    have y5 := up_n (e := some (chA 10 (cpy (rg A 1 0 60) (fun _ => 0) (A 0 0)))) m_qa y4
    have y6 := up_n (e := some (sgC qa (A 0 0))) m_q_7 y5
    exact y6
  have hf1 : G q_7 = none := by
    cases hx : G q_7 with
    | none => rfl
    | some c =>
      exfalso
      have y0 := hx
      rw [hq_8] at y0; cases y0
  have hf2 : G qa = none := by
    cases hx : G qa with
    | none => rfl
    | some c =>
      exfalso
      have y0 := hx
      have m0 : qa ≠ q_7 := cx_nf y0 hq_8
      have y1 := up_n (e := some (.inr (5, [.null, .int 0]))) m0 y0
      rw [hqa] at y1; cases y1
  have hne : q_7 ≠ qa := hA_27
  refine ⟨rfl, _, g_own (i0 := oix l w g) hW hI hox h80 (fun h => h.2 h80) hlen0 hf1 hf2 hne hold hG_51 hG_53 hG_52 hle, fun k i hk => ?_⟩
  exact adx_old (fun e => by rw [e.1, e.2] at hk; exact hk.2 h80) (fun e => by rw [e.1, e.2] at hk; exact hk.2 h80)
set_option maxRecDepth 100000 in
set_option maxHeartbeats 4000000 in
theorem c_X7_addStem {d b0 : Nat} {G : GH} {A B : ST} {ad : AD} (hW : World A B ad G) (hI : Inv A) (hn : A 2 0 < 12) (hle : A 0 0 ≤ 10) : CT mX7_addStem (d + 2) b0 G [.ref (ad 3 0), .ref (ad 1 0)] 2 12 (fun r G' => r = some (.int (nI (A 2 0))) ∧ ∃ ad' : AD, World (setA (setA (cpyA A 3 (10 * A 2 0) (A 0 0)) 4 (A 2 0) (A 0 0)) 2 0 (A 2 0 + 1)) B ad' G' ∧ ∀ k i, lvw A k i → ad' k i = ad k i) (fun _ _ => False) := by
  have hb0 := hI.b0
  have hb2 := hI.b2
  have hb9 := hI.b9
  have hb15 := hI.b15
  have hb18 := hI.b18
  refine CT.intro (by decide +kernel) rfl (Nat.le_of_ble_eq_true rfl) ?_
  show WP mX7_addStem _ _ _ _ _ 2 12 0 [(0, .ref (ad 3 0)), (1, .ref (ad 1 0))] []
  have hR_1 := hW.g 1 0 rfl
  have hR_2 := hW.g 2 0 rfl
  have hR_3 := hW.g 3 0 rfl
  have hR_4 := hW.g 4 0 rfl
  refine r_aload_n dX7_addStem_0 rfl 0 rfl ?_
  refine r_get 3 dX7_addStem_1 fRX7_26 hR_3 rfl ?_
  refine r_aload_n dX7_addStem_4 rfl 0 rfl ?_
  refine r_get 0 dX7_addStem_5 fRX7_11 hR_3 rfl ?_
  refine r_alen (v := nI 12) dX7_addStem_8 hR_4 rfl ?_
  refine r_callSN (st := []) [.int (nI (A 2 0)), .int (nI 12)] 2 12 dX7_addStem_9 kX8_isBelow nX8_isBelow lRX7_30 (c_isB (nI (A 2 0)) 12) rfl rfl (Nat.le_of_ble_eq_true rfl) (Nat.le_refl _) (Nat.le_refl _) (fun _ _ h => h.elim) ?_
  refine cx_det (st2 := [.int (b2i (inB (nI (A 2 0)) 12))]) rfl ?_
  refine r_if_ne 17 dX7_addStem_12 (by decide) (fun c_5 => ?_) (fun c_5 => absurd c_5 (b2i_no (inB_k hn (by decide))))
  refine r_new [.null, .int 0] 1 10 dX7_addStem_17 wRX7_9 (by decide) (by decide) (fun q_6 hq_7 hb_8 => ?_)
  have hA_9 : ad 1 0 ≠ q_6 := cx_nf hR_1 hq_7
  have hG_10 := up_n (e := some (.inr (5, [.null, .int 0]))) hA_9 hR_1
  have hA_11 : ad 2 0 ≠ q_6 := cx_nf hR_2 hq_7
  have hG_12 := up_n (e := some (.inr (5, [.null, .int 0]))) hA_11 hR_2
  have hA_13 : ad 3 0 ≠ q_6 := cx_nf hR_3 hq_7
  have hG_14 := up_n (e := some (.inr (5, [.null, .int 0]))) hA_13 hR_3
  have hA_15 : ad 4 0 ≠ q_6 := cx_nf hR_4 hq_7
  have hG_16 := up_n (e := some (.inr (5, [.null, .int 0]))) hA_15 hR_4
  have hG_17 : (va_up G q_6 (some (.inr (5, [.null, .int 0])))) q_6 = some (.inr (5, [.null, .int 0])) := up_s
  refine r_heap (G' := (va_up G q_6 (some (.inr (5, [.null, .int 0]))))) rfl ?_
  refine r_dup dX7_addStem_20 rfl ?_
  refine r_bipush (v := 10) dX7_addStem_21 (by decide) ?_
  refine r_callI (st := [.ref q_6]) [.int 10] 0 0 dX7_addStem_23 kX5_init nX5_init rfl rfl lRX7_23 (c_X5_init (N := 10) (by decide) (by decide) hG_17) rfl rfl (Nat.le_of_ble_eq_true rfl) (by decide) (by decide) (fun _ _ h => h.elim) ?_
  intro r G9 hr
  obtain ⟨rfl, qa, hqa, hbqa, rfl⟩ := hr
  have hA_18 : ad 1 0 ≠ qa := cx_nf hG_10 hqa
  have hG_19 := up_n (e := some (chA 10 (fun _ => 0))) hA_18 hG_10
  have hA_20 : ad 2 0 ≠ qa := cx_nf hG_12 hqa
  have hG_21 := up_n (e := some (chA 10 (fun _ => 0))) hA_20 hG_12
  have hA_22 : ad 3 0 ≠ qa := cx_nf hG_14 hqa
  have hG_23 := up_n (e := some (chA 10 (fun _ => 0))) hA_22 hG_14
  have hA_24 : ad 4 0 ≠ qa := cx_nf hG_16 hqa
  have hG_25 := up_n (e := some (chA 10 (fun _ => 0))) hA_24 hG_16
  have hA_26 : q_6 ≠ qa := cx_nf hG_17 hqa
  have hG_27 := up_n (e := some (chA 10 (fun _ => 0))) hA_26 hG_17
  have hG_28 : (va_up (va_up G q_6 (some (.inr (5, [.null, .int 0])))) qa (some (chA 10 (fun _ => 0)))) qa = some (chA 10 (fun _ => 0)) := up_s
  have hG_29 := up_n (e := some (sgC qa 0)) hA_9 hG_19
  have hG_30 := up_n (e := some (sgC qa 0)) hA_11 hG_21
  have hG_31 := up_n (e := some (sgC qa 0)) hA_13 hG_23
  have hG_32 := up_n (e := some (sgC qa 0)) hA_15 hG_25
  have hG_33 := up_n (e := some (sgC qa 0)) (Ne.symm hA_26) hG_28
  have hG_34 : (va_up (va_up (va_up G q_6 (some (.inr (5, [.null, .int 0])))) qa (some (chA 10 (fun _ => 0)))) q_6 (some (sgC qa 0))) q_6 = some (sgC qa 0) := up_s
  refine r_astore_n [(2, .ref q_6), (0, .ref (ad 3 0)), (1, .ref (ad 1 0))] dX7_addStem_26 rfl (by decide) rfl ?_
  refine r_aload_n dX7_addStem_27 rfl 0 rfl ?_
  refine r_aload_n dX7_addStem_28 rfl 2 rfl ?_
  refine r_callV (st := []) [.ref (ad 1 0)] 0 0 dX7_addStem_29 kX5_take nX5_take lRX7_34 hG_34 rfl (c_X5_take (show SG _ q_6 qa 10 0 (fun _ => 0) from ⟨hG_34, hG_33, by decide, by decide⟩) (show SG _ (ad 1 0) (ad 2 0) 60 (A 0 0) (rg A 1 0 60) from ⟨hG_29, hG_30, hb0, by decide⟩) (Ne.symm hA_9) (Ne.symm hA_20) (fun k _ => rg_C hI.ch.1 k) hle) rfl rfl (Nat.le_of_ble_eq_true rfl) (Nat.le_refl _) (Nat.le_refl _) (fun _ _ h => h.elim) ?_
  refine cx_det (st2 := []) rfl ?_
  have hG_35 := up_n (e := some (chA 10 (cpy (rg A 1 0 60) (fun _ => 0) (A 0 0)))) hA_18 hG_29
  have hG_36 := up_n (e := some (chA 10 (cpy (rg A 1 0 60) (fun _ => 0) (A 0 0)))) hA_20 hG_30
  have hG_37 := up_n (e := some (chA 10 (cpy (rg A 1 0 60) (fun _ => 0) (A 0 0)))) hA_22 hG_31
  have hG_38 := up_n (e := some (chA 10 (cpy (rg A 1 0 60) (fun _ => 0) (A 0 0)))) hA_24 hG_32
  have hG_39 := up_n (e := some (chA 10 (cpy (rg A 1 0 60) (fun _ => 0) (A 0 0)))) hA_26 hG_34
  have hG_40 : (va_up (va_up (va_up (va_up G q_6 (some (.inr (5, [.null, .int 0])))) qa (some (chA 10 (fun _ => 0)))) q_6 (some (sgC qa 0))) qa (some (chA 10 (cpy (rg A 1 0 60) (fun _ => 0) (A 0 0))))) qa = some (chA 10 (cpy (rg A 1 0 60) (fun _ => 0) (A 0 0))) := up_s
  have hG_41 := up_n (e := some (sgC qa (A 0 0))) hA_9 hG_35
  have hG_42 := up_n (e := some (sgC qa (A 0 0))) hA_11 hG_36
  have hG_43 := up_n (e := some (sgC qa (A 0 0))) hA_13 hG_37
  have hG_44 := up_n (e := some (sgC qa (A 0 0))) hA_15 hG_38
  have hG_45 := up_n (e := some (sgC qa (A 0 0))) (Ne.symm hA_26) hG_40
  have hG_46 : (va_up (va_up (va_up (va_up (va_up G q_6 (some (.inr (5, [.null, .int 0])))) qa (some (chA 10 (fun _ => 0)))) q_6 (some (sgC qa 0))) qa (some (chA 10 (cpy (rg A 1 0 60) (fun _ => 0) (A 0 0))))) q_6 (some (sgC qa (A 0 0)))) q_6 = some (sgC qa (A 0 0)) := up_s
  refine r_aload_n dX7_addStem_32 rfl 1 rfl ?_
  refine r_get 0 dX7_addStem_33 fRX7_11 hG_43 rfl ?_
  refine r_aload_n dX7_addStem_36 rfl 1 rfl ?_
  refine r_get 3 dX7_addStem_37 fRX7_26 hG_43 rfl ?_
  refine r_aload_n dX7_addStem_40 rfl 0 rfl ?_
  refine r_aast RX5 dX7_addStem_41 hG_44 hG_46 rfl (vp_in_nI hn (by decide)) ?_
  have hG_47 := up_n (e := some (.inl (.object RX5, 12, .inr (.inr (.inr (.inr (va_up (fun j => if j < A 2 0 then some (ad 15 j) else none) (A 2 0) (some q_6)))))))) (hW.ne 1 0 4 0 rfl rfl (Or.inl (by decide))) hG_41
  have hG_48 := up_n (e := some (.inl (.object RX5, 12, .inr (.inr (.inr (.inr (va_up (fun j => if j < A 2 0 then some (ad 15 j) else none) (A 2 0) (some q_6)))))))) (hW.ne 2 0 4 0 rfl rfl (Or.inl (by decide))) hG_42
  have hG_49 := up_n (e := some (.inl (.object RX5, 12, .inr (.inr (.inr (.inr (va_up (fun j => if j < A 2 0 then some (ad 15 j) else none) (A 2 0) (some q_6)))))))) (hW.ne 3 0 4 0 rfl rfl (Or.inl (by decide))) hG_43
  have hG_50 := up_n (e := some (.inl (.object RX5, 12, .inr (.inr (.inr (.inr (va_up (fun j => if j < A 2 0 then some (ad 15 j) else none) (A 2 0) (some q_6)))))))) (Ne.symm hA_15) hG_46
  have hG_51 := up_n (e := some (.inl (.object RX5, 12, .inr (.inr (.inr (.inr (va_up (fun j => if j < A 2 0 then some (ad 15 j) else none) (A 2 0) (some q_6)))))))) (Ne.symm hA_24) hG_45
  have hG_52 : (va_up (va_up (va_up (va_up (va_up (va_up G q_6 (some (.inr (5, [.null, .int 0])))) qa (some (chA 10 (fun _ => 0)))) q_6 (some (sgC qa 0))) qa (some (chA 10 (cpy (rg A 1 0 60) (fun _ => 0) (A 0 0))))) q_6 (some (sgC qa (A 0 0)))) (ad 4 0) (some (.inl (.object RX5, 12, .inr (.inr (.inr (.inr (va_up (fun j => if j < A 2 0 then some (ad 15 j) else none) (A 2 0) (some q_6))))))))) (ad 4 0) = some (.inl (.object RX5, 12, .inr (.inr (.inr (.inr (va_up (fun j => if j < A 2 0 then some (ad 15 j) else none) (A 2 0) (some q_6))))))) := up_s
  refine r_heap (G' := (va_up (va_up (va_up (va_up (va_up (va_up G q_6 (some (.inr (5, [.null, .int 0])))) qa (some (chA 10 (fun _ => 0)))) q_6 (some (sgC qa 0))) qa (some (chA 10 (cpy (rg A 1 0 60) (fun _ => 0) (A 0 0))))) q_6 (some (sgC qa (A 0 0)))) (ad 4 0) (some (.inl (.object RX5, 12, .inr (.inr (.inr (.inr (va_up (fun j => if j < A 2 0 then some (ad 15 j) else none) (A 2 0) (some q_6)))))))))) (by rw [nI_cl (show A 2 0 < 2147483648 by omega)]) ?_
  refine r_aload_n dX7_addStem_42 rfl 1 rfl ?_
  refine r_dup dX7_addStem_43 rfl ?_
  refine r_get 3 dX7_addStem_44 fRX7_26 hG_49 rfl ?_
  refine r_iconst (v := 1) dX7_addStem_47 (by decide) ?_
  refine r_iadd dX7_addStem_48 ?_
  refine r_top (nI (A 2 0 + 1)) (nI_1 _) ?_
  refine r_put 3 (.int) dX7_addStem_49 gRX7_26 hG_49 (Nat.le_of_ble_eq_true rfl) rfl rfl ?_
  have hG_53 := up_n (e := some (.inr (7, [.ref (ad 4 0), .ref (ad 5 0), .ref (ad 6 0), .int (nI (A 2 0 + 1))]))) (hW.ne 1 0 3 0 rfl rfl (Or.inl (by decide))) hG_47
  have hG_54 := up_n (e := some (.inr (7, [.ref (ad 4 0), .ref (ad 5 0), .ref (ad 6 0), .int (nI (A 2 0 + 1))]))) (hW.ne 2 0 3 0 rfl rfl (Or.inl (by decide))) hG_48
  have hG_55 := up_n (e := some (.inr (7, [.ref (ad 4 0), .ref (ad 5 0), .ref (ad 6 0), .int (nI (A 2 0 + 1))]))) (Ne.symm (hW.ne 3 0 4 0 rfl rfl (Or.inl (by decide)))) hG_52
  have hG_56 := up_n (e := some (.inr (7, [.ref (ad 4 0), .ref (ad 5 0), .ref (ad 6 0), .int (nI (A 2 0 + 1))]))) (Ne.symm hA_13) hG_50
  have hG_57 := up_n (e := some (.inr (7, [.ref (ad 4 0), .ref (ad 5 0), .ref (ad 6 0), .int (nI (A 2 0 + 1))]))) (Ne.symm hA_22) hG_51
  have hG_58 : (va_up (va_up (va_up (va_up (va_up (va_up (va_up G q_6 (some (.inr (5, [.null, .int 0])))) qa (some (chA 10 (fun _ => 0)))) q_6 (some (sgC qa 0))) qa (some (chA 10 (cpy (rg A 1 0 60) (fun _ => 0) (A 0 0))))) q_6 (some (sgC qa (A 0 0)))) (ad 4 0) (some (.inl (.object RX5, 12, .inr (.inr (.inr (.inr (va_up (fun j => if j < A 2 0 then some (ad 15 j) else none) (A 2 0) (some q_6))))))))) (ad 3 0) (some (.inr (7, [.ref (ad 4 0), .ref (ad 5 0), .ref (ad 6 0), .int (nI (A 2 0 + 1))])))) (ad 3 0) = some (.inr (7, [.ref (ad 4 0), .ref (ad 5 0), .ref (ad 6 0), .int (nI (A 2 0 + 1))])) := up_s
  refine r_heap (G' := (va_up (va_up (va_up (va_up (va_up (va_up (va_up G q_6 (some (.inr (5, [.null, .int 0])))) qa (some (chA 10 (fun _ => 0)))) q_6 (some (sgC qa 0))) qa (some (chA 10 (cpy (rg A 1 0 60) (fun _ => 0) (A 0 0))))) q_6 (some (sgC qa (A 0 0)))) (ad 4 0) (some (.inl (.object RX5, 12, .inr (.inr (.inr (.inr (va_up (fun j => if j < A 2 0 then some (ad 15 j) else none) (A 2 0) (some q_6))))))))) (ad 3 0) (some (.inr (7, [.ref (ad 4 0), .ref (ad 5 0), .ref (ad 6 0), .int (nI (A 2 0 + 1))]))))) rfl ?_
  refine r_aload_n dX7_addStem_52 rfl 1 rfl ?_
  refine r_get 3 dX7_addStem_53 fRX7_26 hG_58 rfl ?_
  refine r_iconst (v := 1) dX7_addStem_56 (by decide) ?_
  refine r_isub dX7_addStem_57 ?_
  refine r_top (nI (A 2 0)) (nI_m1 _) ?_
  refine r_ireti dX7_addStem_58 rfl ?_
  have hold : ∀ x c, G x = some c → x ≠ ad 4 0 → x ≠ ad 3 0 → (va_up (va_up (va_up (va_up (va_up (va_up (va_up G q_6 (some (.inr (5, [.null, .int 0])))) qa (some (chA 10 (fun _ => 0)))) q_6 (some (sgC qa 0))) qa (some (chA 10 (cpy (rg A 1 0 60) (fun _ => 0) (A 0 0))))) q_6 (some (sgC qa (A 0 0)))) (ad 4 0) (some (.inl (.object RX5, 12, .inr (.inr (.inr (.inr (va_up (fun j => if j < A 2 0 then some (ad 15 j) else none) (A 2 0) (some q_6))))))))) (ad 3 0) (some (.inr (7, [.ref (ad 4 0), .ref (ad 5 0), .ref (ad 6 0), .int (nI (A 2 0 + 1))])))) x = some c := by
    intro x c y0 n0 n1
    have m_q_6 : x ≠ q_6 := cx_nf y0 hq_7
    have y1 := up_n (e := some (.inr (5, [.null, .int 0]))) m_q_6 y0
    have m_qa : x ≠ qa := cx_nf y1 hqa
    have y2 := up_n (e := some (chA 10 (fun _ => 0))) m_qa y1
    have y3 := up_n (e := some (sgC qa 0)) m_q_6 y2
    have y4 := up_n (e := some (chA 10 (cpy (rg A 1 0 60) (fun _ => 0) (A 0 0)))) m_qa y3
    have y5 := up_n (e := some (sgC qa (A 0 0))) m_q_6 y4
    have y6 := up_n (e := some (.inl (.object RX5, 12, .inr (.inr (.inr (.inr (va_up (fun j => if j < A 2 0 then some (ad 15 j) else none) (A 2 0) (some q_6)))))))) n0 y5
    have y7 := up_n (e := some (.inr (7, [.ref (ad 4 0), .ref (ad 5 0), .ref (ad 6 0), .int (nI (A 2 0 + 1))]))) n1 y6
    exact y7
  have hf1 : G q_6 = none := by
    cases hx : G q_6 with
    | none => rfl
    | some c =>
      exfalso
      have y0 := hx
      rw [hq_7] at y0; cases y0
  have hf2 : G qa = none := by
    cases hx : G qa with
    | none => rfl
    | some c =>
      exfalso
      have y0 := hx
      have m0 : qa ≠ q_6 := cx_nf y0 hq_7
      have y1 := up_n (e := some (.inr (5, [.null, .int 0]))) m0 y0
      rw [hqa] at y1; cases y1
  have hne : q_6 ≠ qa := hA_26
  refine ⟨rfl, _, g_stem hW hI hf1 hf2 hne hold hG_55 hG_58 hG_56 hG_57 hle, fun k i hk => ?_⟩
  exact adx_old (fun e => by rw [e.1, e.2] at hk; exact Nat.lt_irrefl _ hk) (fun e => by rw [e.1, e.2] at hk; exact Nat.lt_irrefl _ hk)

