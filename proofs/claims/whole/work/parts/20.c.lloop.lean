theorem sub5 {L i : Nat} (hL : L ≤ 2560) (hi : i ≤ 2560) (h : ¬ nI L - 5 < nI i) : i + 5 ≤ L := by
  have e1 : (nI L - 5).toInt = (L : Int) - 5 := pk_sub_toInt (b := 5) (by omega) (by decide)
  have e2 : (nI i).toInt = (i : Int) := nI_toInt (by omega)
  rw [Int32.lt_iff_toInt_lt, e1, e2] at h
  omega
set_option maxRecDepth 100000 in
set_option maxHeartbeats 4000000 in
theorem lp_law {X : SX} {b0 : Nat} (hX : X.2.1 ≤ 2560) : ∀ (fu i : Nat) (C : ST) (ad : AD) (G : GH), World C C ad G → Inv C → Pag C → i ≤ 2560 → 2560 - i < fu → WL X mL_law 10 b0 (fun r _ => r = some (.int 1)) (fun _ _ => False) G (4 * (2560 - i)) (80 * (2560 - i)) 23 [(4, .int (nI i)), (3, .ref (ad 33 0)), (2, .ref (ad 31 0)), (1, .ref (ad 0 0)), (0, .ref X.1)] [] := by
  intro fu
  induction fu with
  | zero => intro i C ad G _ _ _ _ hn; exact absurd hn (Nat.not_lt_zero _)
  | succ fu ih =>
    intro i C ad G hW hI hP hi hn
    refine q_iload dL_law_23 0 rfl ?_
    refine q_aload_n dL_law_25 rfl 4 rfl ?_
    refine q_slen (v := nI X.2.1) dL_law_26 rfl ?_
    refine q_iconst (v := 5) dL_law_27 (by decide) ?_
    refine q_isub dL_law_28 ?_
    refine q_icmp_gt 1452 dL_law_29 (by decide) (fun c_1 => ?_) (fun c_1 => ?_)
    · refine q_iconst (v := 1) dL_law_1452 (by decide) ?_
      refine q_ret .boolean dL_law_1453 rfl rfl ?_
      rfl
    have hi5 := sub5 hX hi c_1
    have K : LK X b0 (fun r _ => r = some (.int 1)) (fun _ _ => False) (4 * (2560 - (i + 5))) (80 * (2560 - (i + 5))) i := by
      intro C' ad' G' hW' hI' hP'
      refine q_iinc (nI (i + 5)) [(4, .int (nI (i + 5))), (3, .ref (ad' 33 0)), (2, .ref (ad' 31 0)), (1, .ref (ad' 0 0)), (0, .ref X.1)] dL_law_1446 0 rfl (nI_add i 5) (by decide) rfl ?_
      refine q_goto 23 dL_law_1449 (by decide) ?_
      exact ih (i + 5) C' ad' G' hW' hI' hP' (by omega) (by omega)
    refine WL.bud (bc' := 4 * (2560 - (i + 5)) + 20) (bs' := 80 * (2560 - (i + 5)) + 400) (by omega) (by omega) ?_
    refine q_aload_n dL_law_32 rfl 4 rfl ?_
    refine q_iload dL_law_33 0 rfl ?_
    refine q_sld dL_law_35 (vp_in_nI (by omega) (by omega)) ?_
    refine q_top (X.2.2 i) (by rw [nI_cl (by omega)]) ?_
    refine q_bipush (v := 31) dL_law_36 (by decide) ?_
    refine q_iand dL_law_38 ?_
    by_cases h0 : (X.2.2 i &&& 31) = nI 0
    · refine q_top (nI 0) h0 ?_
      refine q_tin 132 dL_law_39 (by decide) (by decide) (off := 93) rfl (by decide) ?_
      exact la_type hW hI hP hi5 hX K
    by_cases h1 : (X.2.2 i &&& 31) = nI 1
    · refine q_top (nI 1) h1 ?_
      refine q_tin 190 dL_law_39 (by decide) (by decide) (off := 151) rfl (by decide) ?_
      exact la_clear hW hI hP hi5 hX K
    by_cases h2 : (X.2.2 i &&& 31) = nI 2
    · refine q_top (nI 2) h2 ?_
      refine q_tin 203 dL_law_39 (by decide) (by decide) (off := 164) rfl (by decide) ?_
      exact la_word hW hI hP hi5 hX K
    by_cases h3 : (X.2.2 i &&& 31) = nI 3
    · refine q_top (nI 3) h3 ?_
      refine q_tin 247 dL_law_39 (by decide) (by decide) (off := 208) rfl (by decide) ?_
      exact la_form hW hI hP hi5 hX K
    by_cases h4 : (X.2.2 i &&& 31) = nI 4
    · refine q_top (nI 4) h4 ?_
      refine q_tin 327 dL_law_39 (by decide) (by decide) (off := 288) rfl (by decide) ?_
      exact la_clause hW hI hP hi5 hX K
    by_cases h5 : (X.2.2 i &&& 31) = nI 5
    · refine q_top (nI 5) h5 ?_
      refine q_tin 383 dL_law_39 (by decide) (by decide) (off := 344) rfl (by decide) ?_
      exact la_text hW hI hP hi5 hX K
    by_cases h6 : (X.2.2 i &&& 31) = nI 6
    · refine q_top (nI 6) h6 ?_
      refine q_tin 451 dL_law_39 (by decide) (by decide) (off := 412) rfl (by decide) ?_
      exact la_fault hW hI hP hi5 hX K
    by_cases h7 : (X.2.2 i &&& 31) = nI 7
    · refine q_top (nI 7) h7 ?_
      refine q_tin 464 dL_law_39 (by decide) (by decide) (off := 425) rfl (by decide) ?_
      exact la_approve hW hI hP hi5 hX K
    by_cases h8 : (X.2.2 i &&& 31) = nI 8
    · refine q_top (nI 8) h8 ?_
      refine q_tin 539 dL_law_39 (by decide) (by decide) (off := 500) rfl (by decide) ?_
      exact la_relate hW hI hP hi5 hX K
    by_cases h9 : (X.2.2 i &&& 31) = nI 9
    · refine q_top (nI 9) h9 ?_
      refine q_tin 631 dL_law_39 (by decide) (by decide) (off := 592) rfl (by decide) ?_
      exact la_isLinked hW hI hP hi5 hX K
    by_cases h10 : (X.2.2 i &&& 31) = nI 10
    · refine q_top (nI 10) h10 ?_
      refine q_tin 694 dL_law_39 (by decide) (by decide) (off := 655) rfl (by decide) ?_
      exact la_letter hW hI hP hi5 hX K
    by_cases h11 : (X.2.2 i &&& 31) = nI 11
    · refine q_top (nI 11) h11 ?_
      refine q_tin 738 dL_law_39 (by decide) (by decide) (off := 699) rfl (by decide) ?_
      exact la_put hW hI hP hi5 hX K
    by_cases h12 : (X.2.2 i &&& 31) = nI 12
    · refine q_top (nI 12) h12 ?_
      refine q_tin 806 dL_law_39 (by decide) (by decide) (off := 767) rfl (by decide) ?_
      exact la_data hW hI hP hi5 hX K
    by_cases h13 : (X.2.2 i &&& 31) = nI 13
    · refine q_top (nI 13) h13 ?_
      refine q_tin 874 dL_law_39 (by decide) (by decide) (off := 835) rfl (by decide) ?_
      exact la_fill hW hI hP hi5 hX K
    by_cases h14 : (X.2.2 i &&& 31) = nI 14
    · refine q_top (nI 14) h14 ?_
      refine q_tin 954 dL_law_39 (by decide) (by decide) (off := 915) rfl (by decide) ?_
      exact la_price hW hI hP hi5 hX K
    by_cases h15 : (X.2.2 i &&& 31) = nI 15
    · refine q_top (nI 15) h15 ?_
      refine q_tin 1022 dL_law_39 (by decide) (by decide) (off := 983) rfl (by decide) ?_
      exact la_faultOf hW hI hP hi5 hX K
    by_cases h16 : (X.2.2 i &&& 31) = nI 16
    · refine q_top (nI 16) h16 ?_
      refine q_tin 1114 dL_law_39 (by decide) (by decide) (off := 1075) rfl (by decide) ?_
      exact la_sign hW hI hP hi5 hX K
    by_cases h17 : (X.2.2 i &&& 31) = nI 17
    · refine q_top (nI 17) h17 ?_
      refine q_tin 1206 dL_law_39 (by decide) (by decide) (off := 1167) rfl (by decide) ?_
      exact la_signAnew hW hI hP hi5 hX K
    by_cases h18 : (X.2.2 i &&& 31) = nI 18
    · refine q_top (nI 18) h18 ?_
      refine q_tin 1298 dL_law_39 (by decide) (by decide) (off := 1259) rfl (by decide) ?_
      exact la_costs hW hI hP hi5 hX K
    by_cases h19 : (X.2.2 i &&& 31) = nI 19
    · refine q_top (nI 19) h19 ?_
      refine q_tin 1378 dL_law_39 (by decide) (by decide) (off := 1339) rfl (by decide) ?_
      exact la_sample hW hI hP hi5 hX K
    refine q_tout 1446 dL_law_39 (cx_sw 20 (by decide) (fun k hk => ?_)) (by decide) ?_
    · have hk2 : k = 0 ∨ k = 1 ∨ k = 2 ∨ k = 3 ∨ k = 4 ∨ k = 5 ∨ k = 6 ∨ k = 7 ∨ k = 8 ∨ k = 9 ∨ k = 10 ∨ k = 11 ∨ k = 12 ∨ k = 13 ∨ k = 14 ∨ k = 15 ∨ k = 16 ∨ k = 17 ∨ k = 18 ∨ k = 19 := by omega
      rcases hk2 with e | e | e | e | e | e | e | e | e | e | e | e | e | e | e | e | e | e | e | e <;> rw [e]
      · exact h0
      · exact h1
      · exact h2
      · exact h3
      · exact h4
      · exact h5
      · exact h6
      · exact h7
      · exact h8
      · exact h9
      · exact h10
      · exact h11
      · exact h12
      · exact h13
      · exact h14
      · exact h15
      · exact h16
      · exact h17
      · exact h18
      · exact h19
    · exact WL.bud (by omega) (by omega) (K C ad G hW hI hP)
set_option maxRecDepth 100000 in
set_option maxHeartbeats 4000000 in
theorem law_all {X : SX} {b0 : Nat} (hX : X.2.1 ≤ 2560) : WL X mL_law 10 b0 (fun r _ => r = some (.int 1)) (fun _ _ => False) (fun _ => none) 20000 400000 0 [(0, .ref X.1)] [] := by
  refine q_new [.null, .null, .null, .null, .null, .null, .null, .null, .int 0, .int 0, .int 0] 19999 399989 dL_law_0 wRL_8 (by decide) (by decide) (fun qx hqx hbx => ?_)
  refine q_dup dL_law_3 rfl ?_
  refine q_callI (st := [.ref qx]) [] 19899 396989 dL_law_4 kX8_init nX8_init rfl rfl lRL_78 (c_X8_init (d := 5) (G := va_up (fun _ => none) qx (some (.inr (8, [.null, .null, .null, .null, .null, .null, .null, .null, .int 0, .int 0, .int 0])))) up_s) rfl rfl (Nat.le_of_ble_eq_true rfl) (by decide) (by decide) ?_
  intro r G1 hr
  obtain ⟨rfl, FX, HX, HC⟩ := hr
  show WL X mL_law _ _ _ _ _ _ _ 7 [(0, .ref X.1)] [.ref qx]
  refine q_astore_n [(1, .ref qx), (0, .ref X.1)] dL_law_7 rfl (by decide) rfl ?_
  refine q_new [.int 0, .null, .int 0, .null, .null, .null, .null, .null, .null, .int 0, .null, .null, .null, .null, .null, .int 0, .null, .null, .int 0, .null, .null, .null, .null, .int 0, .int 0, .null, .int 0] 19898 396962 dL_law_8 wRL_79 (by decide) (by decide) (fun qm hqm hbm => ?_)
  refine q_dup dL_law_11 rfl ?_
  refine q_callI (st := [.ref qm]) [] 19879 389962 dL_law_12 kX9_init nX9_init rfl rfl lRL_81 (c_X9_init (d := 8) (G := va_up G1 qm (some (.inr (9, [.int 0, .null, .int 0, .null, .null, .null, .null, .null, .null, .int 0, .null, .null, .null, .null, .null, .int 0, .null, .null, .int 0, .null, .null, .null, .null, .int 0, .int 0, .null, .int 0])))) up_s) rfl rfl (Nat.le_of_ble_eq_true rfl) (by decide) (by decide) ?_
  intro r G2 hr
  obtain ⟨rfl, FM, HM, HM1, HM2⟩ := hr
  show WL X mL_law _ _ _ _ _ _ _ 15 [(1, .ref qx), (0, .ref X.1)] [.ref qm]
  refine q_astore_n [(2, .ref qm), (1, .ref qx), (0, .ref X.1)] dL_law_15 rfl (by decide) rfl ?_
  refine q_iconst (v := 1) dL_law_16 (by decide) ?_
  refine q_newa (.long) 1 (1, .inr (.inl (fun _ => 0))) 19878 389961 dL_law_17 ac_long rfl (fun _ _ h => h) (fun _ => rfl) (by decide) (by decide) (by decide) (by decide) (by decide) (fun qo hqo hbo => ?_)
  refine q_astore_n [(3, .ref qo), (2, .ref qm), (1, .ref qx), (0, .ref X.1)] dL_law_19 rfl (by decide) rfl ?_
  refine q_iconst (v := nI 0) dL_law_20 (by decide) ?_
  refine q_istore [(4, .int (nI 0)), (3, .ref qo), (2, .ref qm), (1, .ref qx), (0, .ref X.1)] dL_law_21 (by decide) rfl ?_
  have hW := w_start HX HC hqm HM HM1 HM2 hqo
  exact WL.bud (by decide) (by decide) (lp_law hX 2561 0 st0 _ _ hW inv_st0 pag_st0 (by decide) (by decide))
