set_option maxRecDepth 100000 in
set_option maxHeartbeats 4000000 in
theorem c_X7_count {d b0 : Nat} {G : GH} {A B : ST} {ad : AD} (hW : World A B ad G) (hI : Inv A)  : CTd mX7_count d b0 G [.ref (ad 3 0)] 0 0 (some (.int (nI (A 2 0)))) G := by
  have hb2 := hI.b2
  refine CT.intro (by decide +kernel) rfl (Nat.le_of_ble_eq_true rfl) ?_
  show WP mX7_count _ _ _ _ _ 0 0 0 [(0, .ref (ad 3 0))] []
  refine r_aload_n dX7_count_0 rfl 0 rfl ?_
  refine r_get 3 dX7_count_1 fRX7_26 (hW.g 3 0 rfl) rfl ?_
  refine r_ireti dX7_count_4 rfl ?_
  exact ⟨rfl, rfl⟩
set_option maxRecDepth 100000 in
set_option maxHeartbeats 4000000 in
theorem c_X7_stemAt {d b0 : Nat} {G : GH} {A B : ST} {ad : AD} (hW : World A B ad G) (hI : Inv A) {w : Nat} (hw : w < A 2 0) : CTd mX7_stemAt (d + 1) b0 G [.ref (ad 3 0), .int (nI w)] 0 0 (some (.ref (ad 15 w))) G := by
  have hb2 := hI.b2
  refine CT.intro (by decide +kernel) rfl (Nat.le_of_ble_eq_true rfl) ?_
  show WP mX7_stemAt _ _ _ _ _ 0 0 0 [(0, .ref (ad 3 0)), (1, .int (nI w))] []
  refine r_iload_n dX7_stemAt_0 rfl 1 rfl ?_
  refine r_aload_n dX7_stemAt_1 rfl 0 rfl ?_
  refine r_get 3 dX7_stemAt_2 fRX7_26 (hW.g 3 0 rfl) rfl ?_
  refine r_callSN (st := []) [.int (nI w), .int (nI (A 2 0))] 0 0 dX7_stemAt_5 kX8_isBelow nX8_isBelow lRX7_30 (c_X8_isBelow (nI w) (nI (A 2 0))) rfl rfl (Nat.le_of_ble_eq_true rfl) (Nat.le_refl _) (Nat.le_refl _) (fun _ _ h => h.elim) ?_
  refine cx_det (st2 := [.int (s_X8_isBelow (nI w) (nI (A 2 0)))]) rfl ?_
  refine r_if_eq 29 dX7_stemAt_8 (by decide) (fun c_1 => absurd c_1 (by rw [ib_nI (by omega) (by omega), decide_eq_true hw]; decide)) (fun c_1 => ?_)
  refine r_iload_n dX7_stemAt_11 rfl 1 rfl ?_
  refine r_aload_n dX7_stemAt_12 rfl 0 rfl ?_
  refine r_get 0 dX7_stemAt_13 fRX7_11 (hW.g 3 0 rfl) rfl ?_
  refine r_alen (v := nI 12) dX7_stemAt_16 (hW.g 4 0 rfl) rfl ?_
  refine r_icmp_ge 29 dX7_stemAt_17 (by decide) (fun c_2 => absurd c_2 (nI_ge (by omega) (by decide))) (fun c_2 => ?_)
  refine r_aload_n dX7_stemAt_20 rfl 0 rfl ?_
  refine r_get 0 dX7_stemAt_21 fRX7_11 (hW.g 3 0 rfl) rfl ?_
  refine r_iload_n dX7_stemAt_24 rfl 1 rfl ?_
  refine r_aald dX7_stemAt_25 (hW.g 4 0 rfl) (vp_in_nI (by omega) (by decide)) ?_
  refine r_topq (.ref (ad 15 w)) (by rw [nI_cl (by omega)]; rw [if_pos hw]; rfl) ?_
  refine r_goto 30 dX7_stemAt_26 (by decide) ?_
  refine r_aret dX7_stemAt_30 rfl (Or.inl ⟨_, rfl⟩) (Or.inr ⟨_, rfl⟩) ?_
  exact ⟨rfl, rfl⟩
set_option maxRecDepth 100000 in
set_option maxHeartbeats 4000000 in
theorem c_X7_endingAt {d b0 : Nat} {G : GH} {A B : ST} {ad : AD} (hW : World A B ad G) (hI : Inv A) {l g : Nat} (hl : l < 3) (hg : g < 8) : CTd mX7_endingAt (d + 1) b0 G [.ref (ad 3 0), .int (nI l), .int (nI g)] 0 0 (some (.ref (ad 17 (l * 8 + g)))) G := by
  have hb2 := hI.b2
  refine CT.intro (by decide +kernel) rfl (Nat.le_of_ble_eq_true rfl) ?_
  show WP mX7_endingAt _ _ _ _ _ 0 0 0 [(0, .ref (ad 3 0)), (1, .int (nI l)), (2, .int (nI g))] []
  refine r_iload_n dX7_endingAt_0 rfl 1 rfl ?_
  refine r_bipush (v := 8) dX7_endingAt_1 (by decide) ?_
  refine r_imul dX7_endingAt_3 ?_
  refine r_top (nI (l * 8)) (pk_mul l 8) ?_
  refine r_iload_n dX7_endingAt_4 rfl 2 rfl ?_
  refine r_iadd dX7_endingAt_5 ?_
  refine r_top (nI (l * 8 + g)) (nI_add (l * 8) g) ?_
  refine r_istore_n [(3, .int (nI (l * 8 + g))), (0, .ref (ad 3 0)), (1, .int (nI l)), (2, .int (nI g))] dX7_endingAt_6 rfl (by decide) rfl ?_
  refine r_iload_n dX7_endingAt_7 rfl 0 rfl ?_
  refine r_aload_n dX7_endingAt_8 rfl 1 rfl ?_
  refine r_get 1 dX7_endingAt_9 fRX7_17 (hW.g 3 0 rfl) rfl ?_
  refine r_alen (v := nI 24) dX7_endingAt_12 (hW.g 5 0 rfl) rfl ?_
  refine r_callSN (st := []) [.int (nI (l * 8 + g)), .int (nI 24)] 0 0 dX7_endingAt_13 kX8_isBelow nX8_isBelow lRX7_30 (c_X8_isBelow (nI (l * 8 + g)) (nI 24)) rfl rfl (Nat.le_of_ble_eq_true rfl) (Nat.le_refl _) (Nat.le_refl _) (fun _ _ h => h.elim) ?_
  refine cx_det (st2 := [.int (s_X8_isBelow (nI (l * 8 + g)) (nI 24))]) rfl ?_
  refine r_if_eq 28 dX7_endingAt_16 (by decide) (fun c_2 => absurd c_2 (by rw [ib_nI (by omega) (by omega), decide_eq_true (show l * 8 + g < 24 by omega)]; decide)) (fun c_2 => ?_)
  refine r_aload_n dX7_endingAt_19 rfl 1 rfl ?_
  refine r_get 1 dX7_endingAt_20 fRX7_17 (hW.g 3 0 rfl) rfl ?_
  refine r_iload_n dX7_endingAt_23 rfl 0 rfl ?_
  refine r_aald dX7_endingAt_24 (hW.g 5 0 rfl) (vp_in_nI (show l * 8 + g < 24 by omega) (by decide)) ?_
  refine r_topq (.ref (ad 17 (l * 8 + g))) (by rw [nI_cl (by omega)]; rw [if_pos (show l * 8 + g < 24 by omega)]; rfl) ?_
  refine r_goto 29 dX7_endingAt_25 (by decide) ?_
  refine r_aret dX7_endingAt_29 rfl (Or.inl ⟨_, rfl⟩) (Or.inr ⟨_, rfl⟩) ?_
  exact ⟨rfl, rfl⟩
set_option maxRecDepth 100000 in
set_option maxHeartbeats 4000000 in
theorem c_X7_ownIndex {d b0 : Nat} {G : GH} {l w g : Nat} : CTd mX7_ownIndex d b0 G [.int (nI l), .int (nI w), .int (nI g)] 0 0 (some (.int (nI ((w * 3 + l) * 8 + g)))) G := by
  refine CT.intro (by decide +kernel) rfl (Nat.le_of_ble_eq_true rfl) ?_
  show WP mX7_ownIndex _ _ _ _ _ 0 0 0 [(0, .int (nI l)), (1, .int (nI w)), (2, .int (nI g))] []
  refine r_iload_n dX7_ownIndex_0 rfl 1 rfl ?_
  refine r_iconst (v := 3) dX7_ownIndex_1 (by decide) ?_
  refine r_imul dX7_ownIndex_2 ?_
  refine r_top (nI (w * 3)) (pk_mul w 3) ?_
  refine r_iload_n dX7_ownIndex_3 rfl 0 rfl ?_
  refine r_iadd dX7_ownIndex_4 ?_
  refine r_top (nI (w * 3 + l)) (nI_add (w * 3) l) ?_
  refine r_bipush (v := 8) dX7_ownIndex_5 (by decide) ?_
  refine r_imul dX7_ownIndex_7 ?_
  refine r_top (nI ((w * 3 + l) * 8)) (pk_mul (w * 3 + l) 8) ?_
  refine r_iload_n dX7_ownIndex_8 rfl 2 rfl ?_
  refine r_iadd dX7_ownIndex_9 ?_
  refine r_top (nI ((w * 3 + l) * 8 + g)) (nI_add ((w * 3 + l) * 8) g) ?_
  refine r_ireti dX7_ownIndex_10 rfl ?_
  exact ⟨rfl, rfl⟩
abbrev oix (l w g : Nat) : Nat := (w * 3 + l) * 8 + g
set_option maxRecDepth 100000 in
set_option maxHeartbeats 4000000 in
theorem c_X7_ownAt_s {d b0 : Nat} {G : GH} {A B : ST} {ad : AD} (hW : World A B ad G) (hI : Inv A) {l w g : Nat} (hl : l < 3) (hw : w < A 2 0) (hg : g < 8) (ho : A 8 (oix l w g) ≠ 0) : CTd mX7_ownAt (d + 1) b0 G [.ref (ad 3 0), .int (nI l), .int (nI w), .int (nI g)] 0 0 (some (.ref (ad 19 (oix l w g)))) G := by
  have hb2 := hI.b2
  have hox : oix l w g < 288 := by show (w * 3 + l) * 8 + g < 288; omega
  refine CT.intro (by decide +kernel) rfl (Nat.le_of_ble_eq_true rfl) ?_
  show WP mX7_ownAt _ _ _ _ _ 0 0 0 [(0, .ref (ad 3 0)), (1, .int (nI l)), (2, .int (nI w)), (3, .int (nI g))] []
  refine r_iload_n dX7_ownAt_0 rfl 1 rfl ?_
  refine r_iload_n dX7_ownAt_1 rfl 2 rfl ?_
  refine r_iload_n dX7_ownAt_2 rfl 3 rfl ?_
  refine r_callS (st := []) [.int (nI l), .int (nI w), .int (nI g)] 0 0 dX7_ownAt_3 kX7_ownIndex nX7_ownIndex lRX7_42 c_X7_ownIndex rfl rfl (Nat.le_of_ble_eq_true rfl) (Nat.le_refl _) (Nat.le_refl _) (fun _ _ h => h.elim) ?_
  refine cx_det (st2 := [.int (nI (oix l w g))]) rfl ?_
  refine r_istore [(4, .int (nI (oix l w g))), (0, .ref (ad 3 0)), (1, .int (nI l)), (2, .int (nI w)), (3, .int (nI g))] dX7_ownAt_6 (by decide) rfl ?_
  refine r_iload dX7_ownAt_8 0 rfl ?_
  refine r_aload_n dX7_ownAt_10 rfl 1 rfl ?_
  refine r_get 2 dX7_ownAt_11 fRX7_20 (hW.g 3 0 rfl) rfl ?_
  refine r_alen (v := nI 288) dX7_ownAt_14 (hW.g 6 0 rfl) rfl ?_
  refine r_callSN (st := []) [.int (nI (oix l w g)), .int (nI 288)] 0 0 dX7_ownAt_15 kX8_isBelow nX8_isBelow lRX7_30 (c_X8_isBelow (nI (oix l w g)) (nI 288)) rfl rfl (Nat.le_of_ble_eq_true rfl) (Nat.le_refl _) (Nat.le_refl _) (fun _ _ h => h.elim) ?_
  refine cx_det (st2 := [.int (s_X8_isBelow (nI (oix l w g)) (nI 288))]) rfl ?_
  refine r_if_eq 31 dX7_ownAt_18 (by decide) (fun c_2 => absurd c_2 (by rw [ib_nI (by omega) (by omega), decide_eq_true hox]; decide)) (fun c_2 => ?_)
  refine r_aload_n dX7_ownAt_21 rfl 1 rfl ?_
  refine r_get 2 dX7_ownAt_22 fRX7_20 (hW.g 3 0 rfl) rfl ?_
  refine r_iload dX7_ownAt_25 0 rfl ?_
  refine r_aald dX7_ownAt_27 (hW.g 6 0 rfl) (vp_in_nI hox (by decide)) ?_
  refine r_topq (.ref (ad 19 (oix l w g))) (by rw [nI_cl (by omega)]; rw [if_neg ho]; rfl) ?_
  refine r_goto 32 dX7_ownAt_28 (by decide) ?_
  refine r_aret dX7_ownAt_32 rfl (Or.inl ⟨_, rfl⟩) (Or.inr ⟨_, rfl⟩) ?_
  exact ⟨rfl, rfl⟩
set_option maxRecDepth 100000 in
set_option maxHeartbeats 4000000 in
theorem c_X7_ownAt_n {d b0 : Nat} {G : GH} {A B : ST} {ad : AD} (hW : World A B ad G) (hI : Inv A) {l w g : Nat} (hl : l < 3) (hw : w < A 2 0) (hg : g < 8) (ho : A 8 (oix l w g) = 0) : CTd mX7_ownAt (d + 1) b0 G [.ref (ad 3 0), .int (nI l), .int (nI w), .int (nI g)] 0 0 (some .null) G := by
  have hb2 := hI.b2
  have hox : oix l w g < 288 := by show (w * 3 + l) * 8 + g < 288; omega
  refine CT.intro (by decide +kernel) rfl (Nat.le_of_ble_eq_true rfl) ?_
  show WP mX7_ownAt _ _ _ _ _ 0 0 0 [(0, .ref (ad 3 0)), (1, .int (nI l)), (2, .int (nI w)), (3, .int (nI g))] []
  refine r_iload_n dX7_ownAt_0 rfl 1 rfl ?_
  refine r_iload_n dX7_ownAt_1 rfl 2 rfl ?_
  refine r_iload_n dX7_ownAt_2 rfl 3 rfl ?_
  refine r_callS (st := []) [.int (nI l), .int (nI w), .int (nI g)] 0 0 dX7_ownAt_3 kX7_ownIndex nX7_ownIndex lRX7_42 c_X7_ownIndex rfl rfl (Nat.le_of_ble_eq_true rfl) (Nat.le_refl _) (Nat.le_refl _) (fun _ _ h => h.elim) ?_
  refine cx_det (st2 := [.int (nI (oix l w g))]) rfl ?_
  refine r_istore [(4, .int (nI (oix l w g))), (0, .ref (ad 3 0)), (1, .int (nI l)), (2, .int (nI w)), (3, .int (nI g))] dX7_ownAt_6 (by decide) rfl ?_
  refine r_iload dX7_ownAt_8 0 rfl ?_
  refine r_aload_n dX7_ownAt_10 rfl 1 rfl ?_
  refine r_get 2 dX7_ownAt_11 fRX7_20 (hW.g 3 0 rfl) rfl ?_
  refine r_alen (v := nI 288) dX7_ownAt_14 (hW.g 6 0 rfl) rfl ?_
  refine r_callSN (st := []) [.int (nI (oix l w g)), .int (nI 288)] 0 0 dX7_ownAt_15 kX8_isBelow nX8_isBelow lRX7_30 (c_X8_isBelow (nI (oix l w g)) (nI 288)) rfl rfl (Nat.le_of_ble_eq_true rfl) (Nat.le_refl _) (Nat.le_refl _) (fun _ _ h => h.elim) ?_
  refine cx_det (st2 := [.int (s_X8_isBelow (nI (oix l w g)) (nI 288))]) rfl ?_
  refine r_if_eq 31 dX7_ownAt_18 (by decide) (fun c_2 => absurd c_2 (by rw [ib_nI (by omega) (by omega), decide_eq_true hox]; decide)) (fun c_2 => ?_)
  refine r_aload_n dX7_ownAt_21 rfl 1 rfl ?_
  refine r_get 2 dX7_ownAt_22 fRX7_20 (hW.g 3 0 rfl) rfl ?_
  refine r_iload dX7_ownAt_25 0 rfl ?_
  refine r_aald dX7_ownAt_27 (hW.g 6 0 rfl) (vp_in_nI hox (by decide)) ?_
  refine r_topq (.null) (by rw [nI_cl (by omega)]; rw [if_pos ho]; rfl) ?_
  refine r_goto 32 dX7_ownAt_28 (by decide) ?_
  refine r_aret dX7_ownAt_32 rfl (Or.inl ⟨_, rfl⟩) (Or.inl rfl) ?_
  exact ⟨rfl, rfl⟩
def voB (x : Int32) : Bool := !(decide (s_X8_isVowel x = 0))
def kep (n : Nat) (f : Nat → Int32) (m : Nat) (g : Nat → Int32) : Nat := if voB (chr f n (n - 1)) && voB (chr g m 0) then n - 1 else n
theorem kep_le (n : Nat) (f : Nat → Int32) (m : Nat) (g : Nat → Int32) : kep n f m g ≤ n := by unfold kep; split <;> omega
set_option maxRecDepth 100000 in
set_option maxHeartbeats 4000000 in
theorem c_X7_keptOfStem {d b0 : Nat} {G : GH} {a arr n b brr m : Nat} {f g : Nat → Int32} (h : SG G a arr 10 n f) (h2 : SG G b brr 4 m g) (hf : ∀ k, k < n → isC (f k)) (hg : ∀ k, k < m → isC (g k)) (hn : 1 ≤ n) : CTd mX7_keptOfStem (d + 1) b0 G [.ref a, .ref b] 0 0 (some (.int (nI (kep n f m g)))) G := by
  have hb := h.2.2.1
  refine CT.intro (by decide +kernel) rfl (Nat.le_of_ble_eq_true rfl) ?_
  show WP mX7_keptOfStem _ _ _ _ _ 0 0 0 [(0, .ref a), (1, .ref b)] []
  refine r_aload_n dX7_keptOfStem_0 rfl 0 rfl ?_
  refine r_ifnullR dX7_keptOfStem_1 ?_
  refine r_aload_n dX7_keptOfStem_4 rfl 1 rfl ?_
  refine r_ifnonnullR 10 dX7_keptOfStem_5 (by decide) ?_
  refine r_aload_n dX7_keptOfStem_10 rfl 0 rfl ?_
  refine r_callV (st := []) [] 0 0 dX7_keptOfStem_11 kX5_length nX5_length lRX7_50 h.1 rfl (c_X5_length h) rfl rfl (Nat.le_of_ble_eq_true rfl) (Nat.le_refl _) (Nat.le_refl _) (fun _ _ h => h.elim) ?_
  refine cx_det (st2 := [.int (nI n)]) rfl ?_
  refine r_istore_n [(2, .int (nI n)), (0, .ref a), (1, .ref b)] dX7_keptOfStem_14 rfl (by decide) rfl ?_
  refine r_aload_n dX7_keptOfStem_15 rfl 1 rfl ?_
  refine r_iload_n dX7_keptOfStem_16 rfl 0 rfl ?_
  refine r_iconst (v := 1) dX7_keptOfStem_17 (by decide) ?_
  refine r_isub dX7_keptOfStem_18 ?_
  refine r_top (nI (n - 1)) (pk_sub hn) ?_
  refine r_callV (st := []) [.int (nI (n - 1))] 0 0 dX7_keptOfStem_19 kX5_at nX5_at lRX7_62 h.1 rfl (c_X5_at_n h hf (k := (n - 1)) (by omega)) rfl rfl (Nat.le_of_ble_eq_true rfl) (Nat.le_refl _) (Nat.le_refl _) (fun _ _ h => h.elim) ?_
  refine cx_det (st2 := [.int (chr f n (n - 1))]) rfl ?_
  refine r_callSN (st := []) [.int (chr f n (n - 1))] 0 0 dX7_keptOfStem_22 kX8_isVowel nX8_isVowel lRX7_66 (c_X8_isVowel (chr f n (n - 1))) rfl rfl (Nat.le_of_ble_eq_true rfl) (Nat.le_refl _) (Nat.le_refl _) (fun _ _ h => h.elim) ?_
  refine cx_det (st2 := [.int (s_X8_isVowel (chr f n (n - 1)))]) rfl ?_
  refine r_if_eq 45 dX7_keptOfStem_25 (by decide) (fun c_2 => ?_) (fun c_2 => ?_)
  · refine r_iload_n dX7_keptOfStem_45 rfl 0 rfl ?_
    refine r_ireti dX7_keptOfStem_46 rfl ?_
    have v1 : voB (chr f n (n - 1)) = false := by unfold voB; rw [decide_eq_true c_2]; rfl
    exact ⟨by unfold kep; rw [v1]; rfl, rfl⟩
  · refine r_aload_n dX7_keptOfStem_28 rfl 2 rfl ?_
    refine r_iconst (v := nI 0) dX7_keptOfStem_29 (by decide) ?_
    refine r_callV (st := []) [.int (nI 0)] 0 0 dX7_keptOfStem_30 kX5_at nX5_at lRX7_62 h2.1 rfl (c_X5_at_n h2 hg (k := 0) (by omega)) rfl rfl (Nat.le_of_ble_eq_true rfl) (Nat.le_refl _) (Nat.le_refl _) (fun _ _ h => h.elim) ?_
    refine cx_det (st2 := [.int (chr g m 0)]) rfl ?_
    refine r_callSN (st := []) [.int (chr g m 0)] 0 0 dX7_keptOfStem_33 kX8_isVowel nX8_isVowel lRX7_66 (c_X8_isVowel (chr g m 0)) rfl rfl (Nat.le_of_ble_eq_true rfl) (Nat.le_refl _) (Nat.le_refl _) (fun _ _ h => h.elim) ?_
    refine cx_det (st2 := [.int (s_X8_isVowel (chr g m 0))]) rfl ?_
    refine r_if_eq 45 dX7_keptOfStem_36 (by decide) (fun c_3 => ?_) (fun c_3 => ?_)
    · refine r_iload_n dX7_keptOfStem_45 rfl 0 rfl ?_
      refine r_ireti dX7_keptOfStem_46 rfl ?_
      have v1 : voB (chr f n (n - 1)) = true := by unfold voB; rw [decide_eq_false c_2]; rfl
      have v2 : voB (chr g m 0) = false := by unfold voB; rw [decide_eq_true c_3]; rfl
      exact ⟨by unfold kep; rw [v1, v2]; rfl, rfl⟩
    · refine r_iload_n dX7_keptOfStem_39 rfl 0 rfl ?_
      refine r_iconst (v := 1) dX7_keptOfStem_40 (by decide) ?_
      refine r_isub dX7_keptOfStem_41 ?_
      refine r_top (nI (n - 1)) (pk_sub hn) ?_
      refine r_goto 46 dX7_keptOfStem_42 (by decide) ?_
      refine r_ireti dX7_keptOfStem_46 rfl ?_
      have v1 : voB (chr f n (n - 1)) = true := by unfold voB; rw [decide_eq_false c_2]; rfl
      have v2 : voB (chr g m 0) = true := by unfold voB; rw [decide_eq_false c_3]; rfl
      exact ⟨by unfold kep; rw [v1, v2]; rfl, rfl⟩
abbrev kpA (A : ST) (w e : Nat) : Nat := kep (A 4 w) (rg A 3 (10 * w) 10) (A 6 e) (rg A 5 (4 * e) 4)
def frL (A : ST) (l w g : Nat) : Nat := if A 8 (oix l w g) = 0 then kpA A w (l * 8 + g) + A 6 (l * 8 + g) else A 8 (oix l w g)
def frI (A : ST) (l w g p : Nat) : Int32 := if A 8 (oix l w g) = 0 then (if p < kpA A w (l * 8 + g) then chr (rg A 3 (10 * w) 10) (A 4 w) p else chr (rg A 5 (4 * (l * 8 + g)) 4) (A 6 (l * 8 + g)) (p - kpA A w (l * 8 + g))) else chr (rg A 7 (10 * (oix l w g)) 10) (A 8 (oix l w g)) p
set_option maxRecDepth 100000 in
set_option maxHeartbeats 4000000 in
theorem c_X7_formLength_s {d b0 : Nat} {G : GH} {A B : ST} {ad : AD} (hW : World A B ad G) (hI : Inv A) {l w g : Nat} (hl : l < 3) (hw : w < A 2 0) (hg : g < 8) (ho : A 8 (oix l w g) ≠ 0) : CTd mX7_formLength (d + 2) b0 G [.ref (ad 3 0), .int (nI l), .int (nI w), .int (nI g)] 0 0 (some (.int (nI (frL A l w g)))) G := by
  have hb2 := hI.b2
  have hox : oix l w g < 288 := by show (w * 3 + l) * 8 + g < 288; omega
  have he : l * 8 + g < 24 := by omega
  have hst := hI.st w hw
  have hen := hI.en (l * 8 + g) he
  have hkp : kpA A w (l * 8 + g) ≤ A 4 w := kep_le _ _ _ _
  have how := hI.ow _ hox
  refine CT.intro (by decide +kernel) rfl (Nat.le_of_ble_eq_true rfl) ?_
  show WP mX7_formLength _ _ _ _ _ 0 0 0 [(0, .ref (ad 3 0)), (1, .int (nI l)), (2, .int (nI w)), (3, .int (nI g))] []
  refine r_aload_n dX7_formLength_0 rfl 0 rfl ?_
  refine r_iload_n dX7_formLength_1 rfl 1 rfl ?_
  refine r_iload_n dX7_formLength_2 rfl 2 rfl ?_
  refine r_iload_n dX7_formLength_3 rfl 3 rfl ?_
  refine r_callV (st := []) [.int (nI l), .int (nI w), .int (nI g)] 0 0 dX7_formLength_4 kX7_ownAt nX7_ownAt lRX7_46 (hW.g 3 0 rfl) rfl (c_X7_ownAt_s hW hI hl hw hg ho) rfl rfl (Nat.le_of_ble_eq_true rfl) (Nat.le_refl _) (Nat.le_refl _) (fun _ _ h => h.elim) ?_
  refine cx_det (st2 := [.ref (ad 19 (oix l w g))]) rfl ?_
  refine r_astore [(4, .ref (ad 19 (oix l w g))), (0, .ref (ad 3 0)), (1, .int (nI l)), (2, .int (nI w)), (3, .int (nI g))] dX7_formLength_7 (by decide) rfl ?_
  refine r_aload dX7_formLength_9 0 rfl ?_
  refine r_ifnullR dX7_formLength_11 ?_
  refine r_aload dX7_formLength_14 0 rfl ?_
  refine r_callV (st := []) [] 0 0 dX7_formLength_16 kX5_length nX5_length lRX7_50 (hW.g 19 (oix l w g) ⟨hox, ho⟩) rfl (c_X5_length (sg19 hW hI ⟨hox, ho⟩)) rfl rfl (Nat.le_of_ble_eq_true rfl) (Nat.le_refl _) (Nat.le_refl _) (fun _ _ h => h.elim) ?_
  refine cx_det (st2 := [.int (nI (A 8 (oix l w g)))]) rfl ?_
  refine r_ireti dX7_formLength_19 rfl ?_
  exact ⟨by unfold frL; rw [if_neg ho], rfl⟩
set_option maxRecDepth 100000 in
set_option maxHeartbeats 4000000 in
theorem c_X7_formSign_s {d b0 : Nat} {G : GH} {A B : ST} {ad : AD} (hW : World A B ad G) (hI : Inv A) {l w g : Nat} (hl : l < 3) (hw : w < A 2 0) (hg : g < 8) (ho : A 8 (oix l w g) ≠ 0) {p : Nat} (hp : p < 2 ^ 31) : CTd mX7_formSign (d + 2) b0 G [.ref (ad 3 0), .int (nI l), .int (nI w), .int (nI g), .int (nI p)] 0 0 (some (.int (frI A l w g p))) G := by
  have hb2 := hI.b2
  have hox : oix l w g < 288 := by show (w * 3 + l) * 8 + g < 288; omega
  have he : l * 8 + g < 24 := by omega
  have hst := hI.st w hw
  have hen := hI.en (l * 8 + g) he
  have hkp : kpA A w (l * 8 + g) ≤ A 4 w := kep_le _ _ _ _
  have how := hI.ow _ hox
  refine CT.intro (by decide +kernel) rfl (Nat.le_of_ble_eq_true rfl) ?_
  show WP mX7_formSign _ _ _ _ _ 0 0 0 [(0, .ref (ad 3 0)), (1, .int (nI l)), (2, .int (nI w)), (3, .int (nI g)), (4, .int (nI p))] []
  refine r_aload_n dX7_formSign_0 rfl 0 rfl ?_
  refine r_iload_n dX7_formSign_1 rfl 1 rfl ?_
  refine r_iload_n dX7_formSign_2 rfl 2 rfl ?_
  refine r_iload_n dX7_formSign_3 rfl 3 rfl ?_
  refine r_callV (st := []) [.int (nI l), .int (nI w), .int (nI g)] 0 0 dX7_formSign_4 kX7_ownAt nX7_ownAt lRX7_46 (hW.g 3 0 rfl) rfl (c_X7_ownAt_s hW hI hl hw hg ho) rfl rfl (Nat.le_of_ble_eq_true rfl) (Nat.le_refl _) (Nat.le_refl _) (fun _ _ h => h.elim) ?_
  refine cx_det (st2 := [.ref (ad 19 (oix l w g))]) rfl ?_
  refine r_astore [(5, .ref (ad 19 (oix l w g))), (0, .ref (ad 3 0)), (1, .int (nI l)), (2, .int (nI w)), (3, .int (nI g)), (4, .int (nI p))] dX7_formSign_7 (by decide) rfl ?_
  refine r_aload dX7_formSign_9 0 rfl ?_
  refine r_ifnullR dX7_formSign_11 ?_
  refine r_aload dX7_formSign_14 0 rfl ?_
  refine r_iload dX7_formSign_16 5 rfl ?_
  refine r_callV (st := []) [.int (nI p)] 0 0 dX7_formSign_18 kX5_at nX5_at lRX7_62 (hW.g 19 (oix l w g) ⟨hox, ho⟩) rfl (c_X5_at_n (sg19 hW hI ⟨hox, ho⟩) (fun k _ => rg_C hI.ch.2.2.2.1 k) hp) rfl rfl (Nat.le_of_ble_eq_true rfl) (Nat.le_refl _) (Nat.le_refl _) (fun _ _ h => h.elim) ?_
  refine cx_det (st2 := [.int (chr (rg A 7 (10 * (oix l w g)) 10) (A 8 (oix l w g)) p)]) rfl ?_
  refine r_ret .char dX7_formSign_21 rfl (chr_C (fun k _ => rg_C hI.ch.2.2.2.1 k)) ?_
  exact ⟨by unfold frI; rw [if_neg ho], rfl⟩
set_option maxRecDepth 100000 in
set_option maxHeartbeats 4000000 in
theorem c_X7_formLength_n {d b0 : Nat} {G : GH} {A B : ST} {ad : AD} (hW : World A B ad G) (hI : Inv A) {l w g : Nat} (hl : l < 3) (hw : w < A 2 0) (hg : g < 8) (ho : A 8 (oix l w g) = 0) : CTd mX7_formLength (d + 2) b0 G [.ref (ad 3 0), .int (nI l), .int (nI w), .int (nI g)] 0 0 (some (.int (nI (frL A l w g)))) G := by
  have hb2 := hI.b2
  have hox : oix l w g < 288 := by show (w * 3 + l) * 8 + g < 288; omega
  have he : l * 8 + g < 24 := by omega
  have hst := hI.st w hw
  have hen := hI.en (l * 8 + g) he
  have hkp : kpA A w (l * 8 + g) ≤ A 4 w := kep_le _ _ _ _
  have how := hI.ow _ hox
  refine CT.intro (by decide +kernel) rfl (Nat.le_of_ble_eq_true rfl) ?_
  show WP mX7_formLength _ _ _ _ _ 0 0 0 [(0, .ref (ad 3 0)), (1, .int (nI l)), (2, .int (nI w)), (3, .int (nI g))] []
  refine r_aload_n dX7_formLength_0 rfl 0 rfl ?_
  refine r_iload_n dX7_formLength_1 rfl 1 rfl ?_
  refine r_iload_n dX7_formLength_2 rfl 2 rfl ?_
  refine r_iload_n dX7_formLength_3 rfl 3 rfl ?_
  refine r_callV (st := []) [.int (nI l), .int (nI w), .int (nI g)] 0 0 dX7_formLength_4 kX7_ownAt nX7_ownAt lRX7_46 (hW.g 3 0 rfl) rfl (c_X7_ownAt_n hW hI hl hw hg ho) rfl rfl (Nat.le_of_ble_eq_true rfl) (Nat.le_refl _) (Nat.le_refl _) (fun _ _ h => h.elim) ?_
  refine cx_det (st2 := [.null]) rfl ?_
  refine r_astoreN [(4, .null), (0, .ref (ad 3 0)), (1, .int (nI l)), (2, .int (nI w)), (3, .int (nI g))] dX7_formLength_7 (by decide) rfl ?_
  refine r_aloadN dX7_formLength_9 0 rfl ?_
  refine r_ifnullN 20 dX7_formLength_11 (by decide) ?_
  refine r_aload_n dX7_formLength_20 rfl 1 rfl ?_
  refine r_iload_n dX7_formLength_21 rfl 2 rfl ?_
  refine r_iload_n dX7_formLength_22 rfl 4 rfl ?_
  refine r_callV (st := []) [.int (nI l), .int (nI g)] 0 0 dX7_formLength_23 kX7_endingAt nX7_endingAt lRX7_38 (hW.g 3 0 rfl) rfl (c_X7_endingAt hW hI hl hg) rfl rfl (Nat.le_of_ble_eq_true rfl) (Nat.le_refl _) (Nat.le_refl _) (fun _ _ h => h.elim) ?_
  refine cx_det (st2 := [.ref (ad 17 (l * 8 + g))]) rfl ?_
  refine r_astore [(5, .ref (ad 17 (l * 8 + g))), (4, .null), (0, .ref (ad 3 0)), (1, .int (nI l)), (2, .int (nI w)), (3, .int (nI g))] dX7_formLength_26 (by decide) rfl ?_
  refine r_aload_n dX7_formLength_28 rfl 2 rfl ?_
  refine r_iload_n dX7_formLength_29 rfl 4 rfl ?_
  refine r_callV (st := []) [.int (nI w)] 0 0 dX7_formLength_30 kX7_stemAt nX7_stemAt lRX7_54 (hW.g 3 0 rfl) rfl (c_X7_stemAt hW hI hw) rfl rfl (Nat.le_of_ble_eq_true rfl) (Nat.le_refl _) (Nat.le_refl _) (fun _ _ h => h.elim) ?_
  refine cx_det (st2 := [.ref (ad 15 w)]) rfl ?_
  refine r_aload dX7_formLength_33 0 rfl ?_
  refine r_callS (st := []) [.ref (ad 15 w), .ref (ad 17 (l * 8 + g))] 0 0 dX7_formLength_35 kX7_keptOfStem nX7_keptOfStem lRX7_58 (c_X7_keptOfStem (sg15 hW hI hw) (sg17 hW hI he) (fun k _ => rg_C hI.ch.2.1 k) (fun k _ => rg_C hI.ch.2.2.1 k) hst.1) rfl rfl (Nat.le_of_ble_eq_true rfl) (Nat.le_refl _) (Nat.le_refl _) (fun _ _ h => h.elim) ?_
  refine cx_det (st2 := [.int (nI (kpA A w (l * 8 + g)))]) rfl ?_
  refine r_aload dX7_formLength_38 0 rfl ?_
  refine r_ifnonnullR 47 dX7_formLength_40 (by decide) ?_
  refine r_aload dX7_formLength_47 0 rfl ?_
  refine r_callV (st := [.int (nI (kpA A w (l * 8 + g)))]) [] 0 0 dX7_formLength_49 kX5_length nX5_length lRX7_50 (hW.g 17 (l * 8 + g) he) rfl (c_X5_length (sg17 hW hI he)) rfl rfl (Nat.le_of_ble_eq_true rfl) (Nat.le_refl _) (Nat.le_refl _) (fun _ _ h => h.elim) ?_
  refine cx_det (st2 := [.int (nI (A 6 (l * 8 + g))), .int (nI (kpA A w (l * 8 + g)))]) rfl ?_
  refine r_iadd dX7_formLength_52 ?_
  refine r_top (nI (kpA A w (l * 8 + g) + A 6 (l * 8 + g))) (nI_add _ _) ?_
  refine r_ireti dX7_formLength_53 rfl ?_
  exact ⟨by unfold frL; rw [if_pos ho], rfl⟩
set_option maxRecDepth 100000 in
set_option maxHeartbeats 4000000 in
theorem c_X7_formSign_n {d b0 : Nat} {G : GH} {A B : ST} {ad : AD} (hW : World A B ad G) (hI : Inv A) {l w g : Nat} (hl : l < 3) (hw : w < A 2 0) (hg : g < 8) (ho : A 8 (oix l w g) = 0) {p : Nat} (hp : p < 2 ^ 31) : CTd mX7_formSign (d + 2) b0 G [.ref (ad 3 0), .int (nI l), .int (nI w), .int (nI g), .int (nI p)] 0 0 (some (.int (frI A l w g p))) G := by
  have hb2 := hI.b2
  have hox : oix l w g < 288 := by show (w * 3 + l) * 8 + g < 288; omega
  have he : l * 8 + g < 24 := by omega
  have hst := hI.st w hw
  have hen := hI.en (l * 8 + g) he
  have hkp : kpA A w (l * 8 + g) ≤ A 4 w := kep_le _ _ _ _
  have how := hI.ow _ hox
  refine CT.intro (by decide +kernel) rfl (Nat.le_of_ble_eq_true rfl) ?_
  show WP mX7_formSign _ _ _ _ _ 0 0 0 [(0, .ref (ad 3 0)), (1, .int (nI l)), (2, .int (nI w)), (3, .int (nI g)), (4, .int (nI p))] []
  refine r_aload_n dX7_formSign_0 rfl 0 rfl ?_
  refine r_iload_n dX7_formSign_1 rfl 1 rfl ?_
  refine r_iload_n dX7_formSign_2 rfl 2 rfl ?_
  refine r_iload_n dX7_formSign_3 rfl 3 rfl ?_
  refine r_callV (st := []) [.int (nI l), .int (nI w), .int (nI g)] 0 0 dX7_formSign_4 kX7_ownAt nX7_ownAt lRX7_46 (hW.g 3 0 rfl) rfl (c_X7_ownAt_n hW hI hl hw hg ho) rfl rfl (Nat.le_of_ble_eq_true rfl) (Nat.le_refl _) (Nat.le_refl _) (fun _ _ h => h.elim) ?_
  refine cx_det (st2 := [.null]) rfl ?_
  refine r_astoreN [(5, .null), (0, .ref (ad 3 0)), (1, .int (nI l)), (2, .int (nI w)), (3, .int (nI g)), (4, .int (nI p))] dX7_formSign_7 (by decide) rfl ?_
  refine r_aloadN dX7_formSign_9 0 rfl ?_
  refine r_ifnullN 22 dX7_formSign_11 (by decide) ?_
  refine r_aload_n dX7_formSign_22 rfl 1 rfl ?_
  refine r_iload_n dX7_formSign_23 rfl 3 rfl ?_
  refine r_callV (st := []) [.int (nI w)] 0 0 dX7_formSign_24 kX7_stemAt nX7_stemAt lRX7_54 (hW.g 3 0 rfl) rfl (c_X7_stemAt hW hI hw) rfl rfl (Nat.le_of_ble_eq_true rfl) (Nat.le_refl _) (Nat.le_refl _) (fun _ _ h => h.elim) ?_
  refine cx_det (st2 := [.ref (ad 15 w)]) rfl ?_
  refine r_astore [(6, .ref (ad 15 w)), (5, .null), (0, .ref (ad 3 0)), (1, .int (nI l)), (2, .int (nI w)), (3, .int (nI g)), (4, .int (nI p))] dX7_formSign_27 (by decide) rfl ?_
  refine r_aload_n dX7_formSign_29 rfl 2 rfl ?_
  refine r_iload_n dX7_formSign_30 rfl 3 rfl ?_
  refine r_iload_n dX7_formSign_31 rfl 5 rfl ?_
  refine r_callV (st := []) [.int (nI l), .int (nI g)] 0 0 dX7_formSign_32 kX7_endingAt nX7_endingAt lRX7_38 (hW.g 3 0 rfl) rfl (c_X7_endingAt hW hI hl hg) rfl rfl (Nat.le_of_ble_eq_true rfl) (Nat.le_refl _) (Nat.le_refl _) (fun _ _ h => h.elim) ?_
  refine cx_det (st2 := [.ref (ad 17 (l * 8 + g))]) rfl ?_
  refine r_astore [(7, .ref (ad 17 (l * 8 + g))), (6, .ref (ad 15 w)), (5, .null), (0, .ref (ad 3 0)), (1, .int (nI l)), (2, .int (nI w)), (3, .int (nI g)), (4, .int (nI p))] dX7_formSign_35 (by decide) rfl ?_
  refine r_aload dX7_formSign_37 1 rfl ?_
  refine r_ifnullR dX7_formSign_39 ?_
  refine r_aload dX7_formSign_42 0 rfl ?_
  refine r_ifnonnullR 49 dX7_formSign_44 (by decide) ?_
  refine r_aload dX7_formSign_49 1 rfl ?_
  refine r_aload dX7_formSign_51 0 rfl ?_
  refine r_callS (st := []) [.ref (ad 15 w), .ref (ad 17 (l * 8 + g))] 0 0 dX7_formSign_53 kX7_keptOfStem nX7_keptOfStem lRX7_58 (c_X7_keptOfStem (sg15 hW hI hw) (sg17 hW hI he) (fun k _ => rg_C hI.ch.2.1 k) (fun k _ => rg_C hI.ch.2.2.1 k) hst.1) rfl rfl (Nat.le_of_ble_eq_true rfl) (Nat.le_refl _) (Nat.le_refl _) (fun _ _ h => h.elim) ?_
  refine cx_det (st2 := [.int (nI (kpA A w (l * 8 + g)))]) rfl ?_
  refine r_istore [(8, .int (nI (kpA A w (l * 8 + g)))), (7, .ref (ad 17 (l * 8 + g))), (6, .ref (ad 15 w)), (5, .null), (0, .ref (ad 3 0)), (1, .int (nI l)), (2, .int (nI w)), (3, .int (nI g)), (4, .int (nI p))] dX7_formSign_56 (by decide) rfl ?_
  refine r_iload dX7_formSign_58 8 rfl ?_
  refine r_iload dX7_formSign_60 0 rfl ?_
  refine r_icmp_ge 75 dX7_formSign_62 (by decide) (fun c_2 => ?_) (fun c_2 => ?_)
  · refine r_aload dX7_formSign_75 1 rfl ?_
    refine r_iload dX7_formSign_77 8 rfl ?_
    refine r_iload dX7_formSign_79 0 rfl ?_
    have hk9 := ni_le (by omega) (by omega) c_2
    refine r_isub dX7_formSign_81 ?_
    refine r_top (nI (p - kpA A w (l * 8 + g))) (pk_sub hk9) ?_
    refine r_callV (st := []) [.int (nI (p - kpA A w (l * 8 + g)))] 0 0 dX7_formSign_82 kX5_at nX5_at lRX7_62 (hW.g 17 (l * 8 + g) he) rfl (c_X5_at_n (sg17 hW hI he) (fun k _ => rg_C hI.ch.2.2.1 k) (k := p - kpA A w (l * 8 + g)) (by omega)) rfl rfl (Nat.le_of_ble_eq_true rfl) (Nat.le_refl _) (Nat.le_refl _) (fun _ _ h => h.elim) ?_
    refine cx_det (st2 := [.int (chr (rg A 5 (4 * (l * 8 + g)) 4) (A 6 (l * 8 + g)) (p - kpA A w (l * 8 + g)))]) rfl ?_
    refine r_ret .char dX7_formSign_85 rfl (chr_C (fun k _ => rg_C hI.ch.2.2.1 k)) ?_
    have hk := ni_le (by omega) (by omega) c_2
    exact ⟨by unfold frI; rw [if_pos ho, if_neg (by omega)], rfl⟩
  · refine r_aload dX7_formSign_65 2 rfl ?_
    refine r_iload dX7_formSign_67 8 rfl ?_
    refine r_callV (st := []) [.int (nI p)] 0 0 dX7_formSign_69 kX5_at nX5_at lRX7_62 (hW.g 15 w hw) rfl (c_X5_at_n (sg15 hW hI hw) (fun k _ => rg_C hI.ch.2.1 k) hp) rfl rfl (Nat.le_of_ble_eq_true rfl) (Nat.le_refl _) (Nat.le_refl _) (fun _ _ h => h.elim) ?_
    refine cx_det (st2 := [.int (chr (rg A 3 (10 * w) 10) (A 4 w) p)]) rfl ?_
    refine r_goto 85 dX7_formSign_72 (by decide) ?_
    refine r_ret .char dX7_formSign_85 rfl (chr_C (fun k _ => rg_C hI.ch.2.1 k)) ?_
    have hk := ni_nle (by omega) (by omega) c_2
    exact ⟨by unfold frI; rw [if_pos ho, if_pos hk], rfl⟩
theorem c_X7_formLength {d b0 : Nat} {G : GH} {A B : ST} {ad : AD} (hW : World A B ad G) (hI : Inv A) {l w g : Nat} (hl : l < 3) (hw : w < A 2 0) (hg : g < 8) : CTd mX7_formLength (d + 2) b0 G [.ref (ad 3 0), .int (nI l), .int (nI w), .int (nI g)] 0 0 (some (.int (nI (frL A l w g)))) G := by
  by_cases ho : A 8 (oix l w g) = 0
  · exact c_X7_formLength_n hW hI hl hw hg ho
  · exact c_X7_formLength_s hW hI hl hw hg ho
theorem c_X7_formSign {d b0 : Nat} {G : GH} {A B : ST} {ad : AD} (hW : World A B ad G) (hI : Inv A) {l w g : Nat} (hl : l < 3) (hw : w < A 2 0) (hg : g < 8) {p : Nat} (hp : p < 2 ^ 31) : CTd mX7_formSign (d + 2) b0 G [.ref (ad 3 0), .int (nI l), .int (nI w), .int (nI g), .int (nI p)] 0 0 (some (.int (frI A l w g p))) G := by
  by_cases ho : A 8 (oix l w g) = 0
  · exact c_X7_formSign_n hW hI hl hw hg ho hp
  · exact c_X7_formSign_s hW hI hl hw hg ho hp
