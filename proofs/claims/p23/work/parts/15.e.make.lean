def ltB (A : ST) (lo hi : Nat) : Bool := allB (fun k => smB (rg A 1 0 60 k)) (A 0 0) && (decide (lo ≤ A 0 0) && decide (A 0 0 ≤ hi))
theorem ltB_len {A : ST} {lo hi : Nat} (h : ltB A lo hi = true) : lo ≤ A 0 0 ∧ A 0 0 ≤ hi := by
  unfold ltB at h
  simp only [Bool.and_eq_true, decide_eq_true_eq] at h
  exact h.2
theorem nI_nm1 {k : Nat} (h : k < 2 ^ 31) : ¬ nI k = (-1) := fun e => by
  have h1 := nI_pos h
  rw [e] at h1
  exact h1 (by decide)
set_option maxRecDepth 100000 in
set_option maxHeartbeats 4000000 in
theorem c_word_0 {d b0 : Nat} {G : GH} {A B : ST} {ad : AD} (hW : World A B ad G) (hI : Inv A) (hP : Pag A) (hl : ltB A 1 10 = true) (hn : A 2 0 < 12) : CT mX8_word (d + 8) b0 G [.ref (ad 0 0)] 20 400 (OPo (nI (A 2 0)) (setA (setA (setA (cpyA A 3 (10 * A 2 0) (A 0 0)) 4 (A 2 0) (A 0 0)) 2 0 (A 2 0 + 1)) 0 0 0) B ad A) (fun _ _ => False) := by
  have hb0 := hI.b0
  have hb2 := hI.b2
  have hb9 := hI.b9
  have hb15 := hI.b15
  have hb18 := hI.b18
  refine CT.intro (by decide +kernel) rfl (Nat.le_of_ble_eq_true rfl) ?_
  show WP mX8_word _ _ _ _ _ 20 400 0 [(0, .ref (ad 0 0))] []
  refine r_aload_n dX8_word_0 rfl 0 rfl ?_
  refine r_get 0 dX8_word_1 fRX8_14 (hW.g 0 0 rfl) rfl ?_
  refine r_iconst (v := 1) dX8_word_4 (by decide) ?_
  refine r_bipush (v := 10) dX8_word_5 (by decide) ?_
  refine r_callV (st := []) [.int 1, .int 10] 20 400 dX8_word_7 kX5_isLetters nX5_isLetters lRX8_79 (hW.g 1 0 rfl) rfl (c_X5_isLetters (lo := 1) (hi := 10) (sgb hW hb0) (fun k _ => rg_C hI.ch.1 k) (by decide) (by decide)) rfl rfl (Nat.le_of_ble_eq_true rfl) (Nat.le_refl _) (Nat.le_refl _) (fun _ _ h => h.elim) ?_
  refine cx_det (st2 := [.int (b2i (ltB A 1 10))]) rfl ?_
  refine r_if_eq 25 dX8_word_10 (by decide) (fun c_1 => absurd c_1 (b2i_no hl)) (fun c_1 => ?_)
  refine r_aload_n dX8_word_13 rfl 0 rfl ?_
  refine r_get 1 dX8_word_14 fRX8_21 (hW.g 0 0 rfl) rfl ?_
  refine r_callV (st := []) [] 20 400 dX8_word_17 kX7_count nX7_count lRX8_83 (hW.g 3 0 rfl) rfl (c_X7_count hW hI) rfl rfl (Nat.le_of_ble_eq_true rfl) (Nat.le_refl _) (Nat.le_refl _) (fun _ _ h => h.elim) ?_
  refine cx_det (st2 := [.int (nI (A 2 0))]) rfl ?_
  refine r_bipush (v := 12) dX8_word_20 (by decide) ?_
  refine r_icmp_lt 35 dX8_word_22 (by decide) (fun c_2 => ?_) (fun c_2 => absurd ((nI_ltI (by omega) (by decide)).mpr hn) c_2)
  refine r_aload_n dX8_word_35 rfl 0 rfl ?_
  refine r_get 1 dX8_word_36 fRX8_21 (hW.g 0 0 rfl) rfl ?_
  refine r_aload_n dX8_word_39 rfl 0 rfl ?_
  refine r_get 0 dX8_word_40 fRX8_14 (hW.g 0 0 rfl) rfl ?_
  refine r_callV (st := []) [.ref (ad 1 0)] 18 388 dX8_word_43 kX7_addStem nX7_addStem lRX8_88 (hW.g 3 0 rfl) rfl (c_X7_addStem hW hI hn (ltB_len hl).2) rfl rfl (Nat.le_of_ble_eq_true rfl) (by decide) (by decide) (fun _ _ h => h.elim) ?_
  intro r G9 hr
  obtain ⟨rfl, ad9, hW9, hk9⟩ := hr
  have f0 := hW9.g 0 0 rfl
  rw [hk9 0 0 rfl] at f0
  refine r_istore_n [(1, .int (nI (A 2 0))), (0, .ref (ad 0 0))] dX8_word_46 rfl (by decide) rfl ?_
  refine r_aload_n dX8_word_47 rfl 1 rfl ?_
  refine r_get 0 dX8_word_48 fRX8_14 f0 rfl ?_
  refine r_callV (st := []) [] 18 388 dX8_word_51 kX5_empty nX5_empty lRX8_76 (hW9.g 1 0 rfl) rfl (c_X5_empty (sgb hW9 hb0)) rfl rfl (Nat.le_of_ble_eq_true rfl) (Nat.le_refl _) (Nat.le_refl _) (fun _ _ h => h.elim) ?_
  refine cx_det (st2 := []) rfl ?_
  have hW_4 : World (setA (setA (setA (cpyA A 3 (10 * A 2 0) (A 0 0)) 4 (A 2 0) (A 0 0)) 2 0 (A 2 0 + 1)) 0 0 0) B ad9 (va_up G9 (ad9 1 0) (some (sgC (ad9 2 0) 0))) := w_b0 hW9 0
  refine r_heap (G' := va_up G9 (ad9 1 0) (some (sgC (ad9 2 0) 0))) rfl ?_
  refine r_iload_n dX8_word_54 rfl 0 rfl ?_
  refine r_ireti dX8_word_55 rfl ?_
  exact ⟨rfl, (setA (setA (setA (cpyA A 3 (10 * A 2 0) (A 0 0)) 4 (A 2 0) (A 0 0)) 2 0 (A 2 0 + 1)) 0 0 0), ad9, hW_4, hk9, hP, fun f hf => rfl⟩
set_option maxRecDepth 100000 in
set_option maxHeartbeats 4000000 in
theorem c_word_1a {d b0 : Nat} {G : GH} {A B : ST} {ad : AD} (hW : World A B ad G) (hI : Inv A) (hl : ltB A 1 10 = false) : CT mX8_word (d + 8) b0 G [.ref (ad 0 0)] 20 400 (fun _ _ => False) (fun E G' => E = "java/lang/IllegalStateException" ∧ G' = G) := by
  have hb0 := hI.b0
  have hb2 := hI.b2
  have hb9 := hI.b9
  have hb15 := hI.b15
  have hb18 := hI.b18
  refine CT.intro (by decide +kernel) rfl (Nat.le_of_ble_eq_true rfl) ?_
  show WP mX8_word _ _ _ _ _ 20 400 0 [(0, .ref (ad 0 0))] []
  refine r_aload_n dX8_word_0 rfl 0 rfl ?_
  refine r_get 0 dX8_word_1 fRX8_14 (hW.g 0 0 rfl) rfl ?_
  refine r_iconst (v := 1) dX8_word_4 (by decide) ?_
  refine r_bipush (v := 10) dX8_word_5 (by decide) ?_
  refine r_callV (st := []) [.int 1, .int 10] 20 400 dX8_word_7 kX5_isLetters nX5_isLetters lRX8_79 (hW.g 1 0 rfl) rfl (c_X5_isLetters (lo := 1) (hi := 10) (sgb hW hb0) (fun k _ => rg_C hI.ch.1 k) (by decide) (by decide)) rfl rfl (Nat.le_of_ble_eq_true rfl) (Nat.le_refl _) (Nat.le_refl _) (fun _ _ h => h.elim) ?_
  refine cx_det (st2 := [.int (b2i (ltB A 1 10))]) rfl ?_
  refine r_if_eq 25 dX8_word_10 (by decide) (fun c_1 => ?_) (fun c_1 => absurd (b2i_z hl) c_1)
  refine r_throw "java/lang/IllegalStateException" "no stem, or too many words" dX8_word_25 dX8_word_28 dX8_word_29 dX8_word_31 dX8_word_34 rfl (by decide +kernel) t_212 t_31 (by decide +kernel) exS_at exS_ng (by decide +kernel) (by omega) (by decide) (by decide) (Nat.le_of_ble_eq_true rfl) ?_
  exact ⟨rfl, rfl⟩
set_option maxRecDepth 100000 in
set_option maxHeartbeats 4000000 in
theorem c_word_1b {d b0 : Nat} {G : GH} {A B : ST} {ad : AD} (hW : World A B ad G) (hI : Inv A) (hl : ltB A 1 10 = true) (hn : ¬ A 2 0 < 12) : CT mX8_word (d + 8) b0 G [.ref (ad 0 0)] 20 400 (fun _ _ => False) (fun E G' => E = "java/lang/IllegalStateException" ∧ G' = G) := by
  have hb0 := hI.b0
  have hb2 := hI.b2
  have hb9 := hI.b9
  have hb15 := hI.b15
  have hb18 := hI.b18
  refine CT.intro (by decide +kernel) rfl (Nat.le_of_ble_eq_true rfl) ?_
  show WP mX8_word _ _ _ _ _ 20 400 0 [(0, .ref (ad 0 0))] []
  refine r_aload_n dX8_word_0 rfl 0 rfl ?_
  refine r_get 0 dX8_word_1 fRX8_14 (hW.g 0 0 rfl) rfl ?_
  refine r_iconst (v := 1) dX8_word_4 (by decide) ?_
  refine r_bipush (v := 10) dX8_word_5 (by decide) ?_
  refine r_callV (st := []) [.int 1, .int 10] 20 400 dX8_word_7 kX5_isLetters nX5_isLetters lRX8_79 (hW.g 1 0 rfl) rfl (c_X5_isLetters (lo := 1) (hi := 10) (sgb hW hb0) (fun k _ => rg_C hI.ch.1 k) (by decide) (by decide)) rfl rfl (Nat.le_of_ble_eq_true rfl) (Nat.le_refl _) (Nat.le_refl _) (fun _ _ h => h.elim) ?_
  refine cx_det (st2 := [.int (b2i (ltB A 1 10))]) rfl ?_
  refine r_if_eq 25 dX8_word_10 (by decide) (fun c_1 => absurd c_1 (b2i_no hl)) (fun c_1 => ?_)
  refine r_aload_n dX8_word_13 rfl 0 rfl ?_
  refine r_get 1 dX8_word_14 fRX8_21 (hW.g 0 0 rfl) rfl ?_
  refine r_callV (st := []) [] 20 400 dX8_word_17 kX7_count nX7_count lRX8_83 (hW.g 3 0 rfl) rfl (c_X7_count hW hI) rfl rfl (Nat.le_of_ble_eq_true rfl) (Nat.le_refl _) (Nat.le_refl _) (fun _ _ h => h.elim) ?_
  refine cx_det (st2 := [.int (nI (A 2 0))]) rfl ?_
  refine r_bipush (v := 12) dX8_word_20 (by decide) ?_
  refine r_icmp_lt 35 dX8_word_22 (by decide) (fun c_2 => absurd c_2 (fun h => hn ((nI_ltI (by omega) (by decide)).mp h))) (fun c_2 => ?_)
  refine r_throw "java/lang/IllegalStateException" "no stem, or too many words" dX8_word_25 dX8_word_28 dX8_word_29 dX8_word_31 dX8_word_34 rfl (by decide +kernel) t_212 t_31 (by decide +kernel) exS_at exS_ng (by decide +kernel) (by omega) (by decide) (by decide) (Nat.le_of_ble_eq_true rfl) ?_
  exact ⟨rfl, rfl⟩
set_option maxRecDepth 100000 in
set_option maxHeartbeats 4000000 in
theorem c_form_1a {d b0 : Nat} {G : GH} {A B : ST} {ad : AD} (hW : World A B ad G) (hI : Inv A) {x y z : Int32} (hx : inB x 3 = false) : CT mX8_form (d + 8) b0 G [.ref (ad 0 0), .int x, .int y, .int z] 20 400 (fun _ _ => False) (fun E G' => E = "java/lang/IndexOutOfBoundsException" ∧ G' = G) := by
  have hb0 := hI.b0
  have hb2 := hI.b2
  have hb9 := hI.b9
  have hb15 := hI.b15
  have hb18 := hI.b18
  refine CT.intro (by decide +kernel) rfl (Nat.le_of_ble_eq_true rfl) ?_
  show WP mX8_form _ _ _ _ _ 20 400 0 [(0, .ref (ad 0 0)), (1, .int x), (2, .int y), (3, .int z)] []
  refine r_iload_n dX8_form_0 rfl 1 rfl ?_
  refine r_callS (st := []) [.int x] 20 400 dX8_form_1 kX8_isLanguage nX8_isLanguage lRX8_92 (c_isL x) rfl rfl (Nat.le_of_ble_eq_true rfl) (Nat.le_refl _) (Nat.le_refl _) (fun _ _ h => h.elim) ?_
  refine cx_det (st2 := [.int (b2i (inB x 3))]) rfl ?_
  refine r_if_eq 20 dX8_form_4 (by decide) (fun c_1 => ?_) (fun c_1 => absurd (b2i_z hx) c_1)
  refine r_throw "java/lang/IndexOutOfBoundsException" "no such language or word" dX8_form_20 dX8_form_23 dX8_form_24 dX8_form_26 dX8_form_29 rfl (by decide +kernel) t_321 t_32 (by decide +kernel) exB_at exB_ng (by decide +kernel) (by omega) (by decide) (by decide) (Nat.le_of_ble_eq_true rfl) ?_
  exact ⟨rfl, rfl⟩
set_option maxRecDepth 100000 in
set_option maxHeartbeats 4000000 in
theorem c_form_1b {d b0 : Nat} {G : GH} {A B : ST} {ad : AD} (hW : World A B ad G) (hI : Inv A) {l : Nat} {y z : Int32} (hl : l < 3) (hy1 : ¬ y = -1) (hy : inB y (A 2 0) = false) : CT mX8_form (d + 8) b0 G [.ref (ad 0 0), .int (nI l), .int y, .int z] 20 400 (fun _ _ => False) (fun E G' => E = "java/lang/IndexOutOfBoundsException" ∧ G' = G) := by
  have hb0 := hI.b0
  have hb2 := hI.b2
  have hb9 := hI.b9
  have hb15 := hI.b15
  have hb18 := hI.b18
  refine CT.intro (by decide +kernel) rfl (Nat.le_of_ble_eq_true rfl) ?_
  show WP mX8_form _ _ _ _ _ 20 400 0 [(0, .ref (ad 0 0)), (1, .int (nI l)), (2, .int y), (3, .int z)] []
  refine r_iload_n dX8_form_0 rfl 1 rfl ?_
  refine r_callS (st := []) [.int (nI l)] 20 400 dX8_form_1 kX8_isLanguage nX8_isLanguage lRX8_92 (c_isL (nI l)) rfl rfl (Nat.le_of_ble_eq_true rfl) (Nat.le_refl _) (Nat.le_refl _) (fun _ _ h => h.elim) ?_
  refine cx_det (st2 := [.int (b2i (inB (nI l) 3))]) rfl ?_
  refine r_if_eq 20 dX8_form_4 (by decide) (fun c_1 => absurd c_1 (b2i_no (inB_k hl (by decide)))) (fun c_1 => ?_)
  refine r_iload_n dX8_form_7 rfl 2 rfl ?_
  refine r_iconst (v := (-1)) dX8_form_8 (by decide) ?_
  refine r_icmp_eq 30 dX8_form_9 (by decide) (fun c_2 => absurd c_2 hy1) (fun c_2 => ?_)
  refine r_aload_n dX8_form_12 rfl 0 rfl ?_
  refine r_iload_n dX8_form_13 rfl 2 rfl ?_
  refine r_callV (st := []) [.int y] 20 400 dX8_form_14 kX8_isWord nX8_isWord lRX8_96 (hW.g 0 0 rfl) rfl (c_isW hW hI y) rfl rfl (Nat.le_of_ble_eq_true rfl) (Nat.le_refl _) (Nat.le_refl _) (fun _ _ h => h.elim) ?_
  refine cx_det (st2 := [.int (b2i (inB y (A 2 0)))]) rfl ?_
  refine r_if_ne 30 dX8_form_17 (by decide) (fun c_3 => absurd (b2i_z hy) c_3) (fun c_3 => ?_)
  refine r_throw "java/lang/IndexOutOfBoundsException" "no such language or word" dX8_form_20 dX8_form_23 dX8_form_24 dX8_form_26 dX8_form_29 rfl (by decide +kernel) t_321 t_32 (by decide +kernel) exB_at exB_ng (by decide +kernel) (by omega) (by decide) (by decide) (Nat.le_of_ble_eq_true rfl) ?_
  exact ⟨rfl, rfl⟩
set_option maxRecDepth 100000 in
set_option maxHeartbeats 4000000 in
theorem c_form_2a {d b0 : Nat} {G : GH} {A B : ST} {ad : AD} (hW : World A B ad G) (hI : Inv A) {l : Nat} {z : Int32} (hl : l < 3) (hz : inB z 8 = false) : CT mX8_form (d + 8) b0 G [.ref (ad 0 0), .int (nI l), .int (-1), .int z] 20 400 (fun _ _ => False) (fun E G' => E = "java/lang/IllegalArgumentException" ∧ G' = G) := by
  have hb0 := hI.b0
  have hb2 := hI.b2
  have hb9 := hI.b9
  have hb15 := hI.b15
  have hb18 := hI.b18
  refine CT.intro (by decide +kernel) rfl (Nat.le_of_ble_eq_true rfl) ?_
  show WP mX8_form _ _ _ _ _ 20 400 0 [(0, .ref (ad 0 0)), (1, .int (nI l)), (2, .int (-1)), (3, .int z)] []
  refine r_iload_n dX8_form_0 rfl 1 rfl ?_
  refine r_callS (st := []) [.int (nI l)] 20 400 dX8_form_1 kX8_isLanguage nX8_isLanguage lRX8_92 (c_isL (nI l)) rfl rfl (Nat.le_of_ble_eq_true rfl) (Nat.le_refl _) (Nat.le_refl _) (fun _ _ h => h.elim) ?_
  refine cx_det (st2 := [.int (b2i (inB (nI l) 3))]) rfl ?_
  refine r_if_eq 20 dX8_form_4 (by decide) (fun c_1 => absurd c_1 (b2i_no (inB_k hl (by decide)))) (fun c_1 => ?_)
  refine r_iload_n dX8_form_7 rfl 2 rfl ?_
  refine r_iconst (v := (-1)) dX8_form_8 (by decide) ?_
  refine r_icmp_eq 30 dX8_form_9 (by decide) (fun c_2 => ?_) (fun c_2 => absurd (by decide) c_2)
  refine r_iload_n dX8_form_30 rfl 3 rfl ?_
  refine r_bipush (v := 8) dX8_form_31 (by decide) ?_
  refine r_callS (st := []) [.int z, .int 8] 20 400 dX8_form_33 kX8_isBelow nX8_isBelow lRX8_104 (c_isB z 8) rfl rfl (Nat.le_of_ble_eq_true rfl) (Nat.le_refl _) (Nat.le_refl _) (fun _ _ h => h.elim) ?_
  refine cx_det (st2 := [.int (b2i (inB z 8))]) rfl ?_
  refine r_if_ne 49 dX8_form_36 (by decide) (fun c_3 => absurd (b2i_z hz) c_3) (fun c_3 => ?_)
  refine r_throw "java/lang/IllegalArgumentException" "no such grammar" dX8_form_39 dX8_form_42 dX8_form_43 dX8_form_45 dX8_form_48 rfl (by decide +kernel) t_337 t_33 (by decide +kernel) exA_at exA_ng (by decide +kernel) (by omega) (by decide) (by decide) (Nat.le_of_ble_eq_true rfl) ?_
  exact ⟨rfl, rfl⟩
set_option maxRecDepth 100000 in
set_option maxHeartbeats 4000000 in
theorem c_form_2b {d b0 : Nat} {G : GH} {A B : ST} {ad : AD} (hW : World A B ad G) (hI : Inv A) {l w : Nat} {z : Int32} (hl : l < 3) (hw : w < A 2 0) (hz : inB z 8 = false) : CT mX8_form (d + 8) b0 G [.ref (ad 0 0), .int (nI l), .int (nI w), .int z] 20 400 (fun _ _ => False) (fun E G' => E = "java/lang/IllegalArgumentException" ∧ G' = G) := by
  have hb0 := hI.b0
  have hb2 := hI.b2
  have hb9 := hI.b9
  have hb15 := hI.b15
  have hb18 := hI.b18
  refine CT.intro (by decide +kernel) rfl (Nat.le_of_ble_eq_true rfl) ?_
  show WP mX8_form _ _ _ _ _ 20 400 0 [(0, .ref (ad 0 0)), (1, .int (nI l)), (2, .int (nI w)), (3, .int z)] []
  refine r_iload_n dX8_form_0 rfl 1 rfl ?_
  refine r_callS (st := []) [.int (nI l)] 20 400 dX8_form_1 kX8_isLanguage nX8_isLanguage lRX8_92 (c_isL (nI l)) rfl rfl (Nat.le_of_ble_eq_true rfl) (Nat.le_refl _) (Nat.le_refl _) (fun _ _ h => h.elim) ?_
  refine cx_det (st2 := [.int (b2i (inB (nI l) 3))]) rfl ?_
  refine r_if_eq 20 dX8_form_4 (by decide) (fun c_1 => absurd c_1 (b2i_no (inB_k hl (by decide)))) (fun c_1 => ?_)
  refine r_iload_n dX8_form_7 rfl 2 rfl ?_
  refine r_iconst (v := (-1)) dX8_form_8 (by decide) ?_
  refine r_icmp_eq 30 dX8_form_9 (by decide) (fun c_2 => absurd c_2 (nI_nm1 (show w < 2147483648 by omega))) (fun c_2 => ?_)
  refine r_aload_n dX8_form_12 rfl 0 rfl ?_
  refine r_iload_n dX8_form_13 rfl 2 rfl ?_
  refine r_callV (st := []) [.int (nI w)] 20 400 dX8_form_14 kX8_isWord nX8_isWord lRX8_96 (hW.g 0 0 rfl) rfl (c_isW hW hI (nI w)) rfl rfl (Nat.le_of_ble_eq_true rfl) (Nat.le_refl _) (Nat.le_refl _) (fun _ _ h => h.elim) ?_
  refine cx_det (st2 := [.int (b2i (inB (nI w) (A 2 0)))]) rfl ?_
  refine r_if_ne 30 dX8_form_17 (by decide) (fun c_3 => ?_) (fun c_3 => absurd c_3 (b2i_no (inB_k hw (by omega))))
  refine r_iload_n dX8_form_30 rfl 3 rfl ?_
  refine r_bipush (v := 8) dX8_form_31 (by decide) ?_
  refine r_callS (st := []) [.int z, .int 8] 20 400 dX8_form_33 kX8_isBelow nX8_isBelow lRX8_104 (c_isB z 8) rfl rfl (Nat.le_of_ble_eq_true rfl) (Nat.le_refl _) (Nat.le_refl _) (fun _ _ h => h.elim) ?_
  refine cx_det (st2 := [.int (b2i (inB z 8))]) rfl ?_
  refine r_if_ne 49 dX8_form_36 (by decide) (fun c_4 => absurd (b2i_z hz) c_4) (fun c_4 => ?_)
  refine r_throw "java/lang/IllegalArgumentException" "no such grammar" dX8_form_39 dX8_form_42 dX8_form_43 dX8_form_45 dX8_form_48 rfl (by decide +kernel) t_337 t_33 (by decide +kernel) exA_at exA_ng (by decide +kernel) (by omega) (by decide) (by decide) (Nat.le_of_ble_eq_true rfl) ?_
  exact ⟨rfl, rfl⟩
set_option maxRecDepth 100000 in
set_option maxHeartbeats 4000000 in
theorem c_form_3a {d b0 : Nat} {G : GH} {A B : ST} {ad : AD} (hW : World A B ad G) (hI : Inv A) {l g : Nat} (hl : l < 3) (hg : g < 8) (hb : ltB A 0 4 = false) : CT mX8_form (d + 8) b0 G [.ref (ad 0 0), .int (nI l), .int (-1), .int (nI g)] 20 400 (fun _ _ => False) (fun E G' => E = "java/lang/IllegalStateException" ∧ G' = G) := by
  have hb0 := hI.b0
  have hb2 := hI.b2
  have hb9 := hI.b9
  have hb15 := hI.b15
  have hb18 := hI.b18
  refine CT.intro (by decide +kernel) rfl (Nat.le_of_ble_eq_true rfl) ?_
  show WP mX8_form _ _ _ _ _ 20 400 0 [(0, .ref (ad 0 0)), (1, .int (nI l)), (2, .int (-1)), (3, .int (nI g))] []
  refine r_iload_n dX8_form_0 rfl 1 rfl ?_
  refine r_callS (st := []) [.int (nI l)] 20 400 dX8_form_1 kX8_isLanguage nX8_isLanguage lRX8_92 (c_isL (nI l)) rfl rfl (Nat.le_of_ble_eq_true rfl) (Nat.le_refl _) (Nat.le_refl _) (fun _ _ h => h.elim) ?_
  refine cx_det (st2 := [.int (b2i (inB (nI l) 3))]) rfl ?_
  refine r_if_eq 20 dX8_form_4 (by decide) (fun c_1 => absurd c_1 (b2i_no (inB_k hl (by decide)))) (fun c_1 => ?_)
  refine r_iload_n dX8_form_7 rfl 2 rfl ?_
  refine r_iconst (v := (-1)) dX8_form_8 (by decide) ?_
  refine r_icmp_eq 30 dX8_form_9 (by decide) (fun c_2 => ?_) (fun c_2 => absurd (by decide) c_2)
  refine r_iload_n dX8_form_30 rfl 3 rfl ?_
  refine r_bipush (v := 8) dX8_form_31 (by decide) ?_
  refine r_callS (st := []) [.int (nI g), .int 8] 20 400 dX8_form_33 kX8_isBelow nX8_isBelow lRX8_104 (c_isB (nI g) 8) rfl rfl (Nat.le_of_ble_eq_true rfl) (Nat.le_refl _) (Nat.le_refl _) (fun _ _ h => h.elim) ?_
  refine cx_det (st2 := [.int (b2i (inB (nI g) 8))]) rfl ?_
  refine r_if_ne 49 dX8_form_36 (by decide) (fun c_3 => ?_) (fun c_3 => absurd c_3 (b2i_no (inB_k hg (by decide))))
  refine r_iload_n dX8_form_49 rfl 2 rfl ?_
  refine r_iconst (v := (-1)) dX8_form_50 (by decide) ?_
  refine r_icmp_ne 66 dX8_form_51 (by decide) (fun c_4 => absurd (by decide) c_4) (fun c_4 => ?_)
  refine r_aload_n dX8_form_54 rfl 0 rfl ?_
  refine r_get 0 dX8_form_55 fRX8_14 (hW.g 0 0 rfl) rfl ?_
  refine r_iconst (v := 0) dX8_form_58 (by decide) ?_
  refine r_iconst (v := 4) dX8_form_59 (by decide) ?_
  refine r_callV (st := []) [.int 0, .int 4] 20 400 dX8_form_60 kX5_isLetters nX5_isLetters lRX8_79 (hW.g 1 0 rfl) rfl (c_X5_isLetters (lo := 0) (hi := 4) (sgb hW hb0) (fun k _ => rg_C hI.ch.1 k) (by decide) (by decide)) rfl rfl (Nat.le_of_ble_eq_true rfl) (Nat.le_refl _) (Nat.le_refl _) (fun _ _ h => h.elim) ?_
  refine cx_det (st2 := [.int (b2i (ltB A 0 4))]) rfl ?_
  refine r_goto 76 dX8_form_63 (by decide) ?_
  refine r_istore [(4, .int (b2i (ltB A 0 4))), (0, .ref (ad 0 0)), (1, .int (nI l)), (2, .int (-1)), (3, .int (nI g))] dX8_form_76 (by decide) rfl ?_
  refine r_iload dX8_form_78 0 rfl ?_
  refine r_if_ne 93 dX8_form_80 (by decide) (fun c_6 => absurd (b2i_z hb) c_6) (fun c_6 => ?_)
  refine r_throw "java/lang/IllegalStateException" "no ending, or no form" dX8_form_83 dX8_form_86 dX8_form_87 dX8_form_89 dX8_form_92 rfl (by decide +kernel) t_212 t_31 (by decide +kernel) exS_at exS_ng (by decide +kernel) (by omega) (by decide) (by decide) (Nat.le_of_ble_eq_true rfl) ?_
  exact ⟨rfl, rfl⟩
set_option maxRecDepth 100000 in
set_option maxHeartbeats 4000000 in
theorem c_form_3b {d b0 : Nat} {G : GH} {A B : ST} {ad : AD} (hW : World A B ad G) (hI : Inv A) {l w g : Nat} (hl : l < 3) (hw : w < A 2 0) (hg : g < 8) (hb : ltB A 1 10 = false) : CT mX8_form (d + 8) b0 G [.ref (ad 0 0), .int (nI l), .int (nI w), .int (nI g)] 20 400 (fun _ _ => False) (fun E G' => E = "java/lang/IllegalStateException" ∧ G' = G) := by
  have hb0 := hI.b0
  have hb2 := hI.b2
  have hb9 := hI.b9
  have hb15 := hI.b15
  have hb18 := hI.b18
  refine CT.intro (by decide +kernel) rfl (Nat.le_of_ble_eq_true rfl) ?_
  show WP mX8_form _ _ _ _ _ 20 400 0 [(0, .ref (ad 0 0)), (1, .int (nI l)), (2, .int (nI w)), (3, .int (nI g))] []
  refine r_iload_n dX8_form_0 rfl 1 rfl ?_
  refine r_callS (st := []) [.int (nI l)] 20 400 dX8_form_1 kX8_isLanguage nX8_isLanguage lRX8_92 (c_isL (nI l)) rfl rfl (Nat.le_of_ble_eq_true rfl) (Nat.le_refl _) (Nat.le_refl _) (fun _ _ h => h.elim) ?_
  refine cx_det (st2 := [.int (b2i (inB (nI l) 3))]) rfl ?_
  refine r_if_eq 20 dX8_form_4 (by decide) (fun c_1 => absurd c_1 (b2i_no (inB_k hl (by decide)))) (fun c_1 => ?_)
  refine r_iload_n dX8_form_7 rfl 2 rfl ?_
  refine r_iconst (v := (-1)) dX8_form_8 (by decide) ?_
  refine r_icmp_eq 30 dX8_form_9 (by decide) (fun c_2 => absurd c_2 (nI_nm1 (show w < 2147483648 by omega))) (fun c_2 => ?_)
  refine r_aload_n dX8_form_12 rfl 0 rfl ?_
  refine r_iload_n dX8_form_13 rfl 2 rfl ?_
  refine r_callV (st := []) [.int (nI w)] 20 400 dX8_form_14 kX8_isWord nX8_isWord lRX8_96 (hW.g 0 0 rfl) rfl (c_isW hW hI (nI w)) rfl rfl (Nat.le_of_ble_eq_true rfl) (Nat.le_refl _) (Nat.le_refl _) (fun _ _ h => h.elim) ?_
  refine cx_det (st2 := [.int (b2i (inB (nI w) (A 2 0)))]) rfl ?_
  refine r_if_ne 30 dX8_form_17 (by decide) (fun c_3 => ?_) (fun c_3 => absurd c_3 (b2i_no (inB_k hw (by omega))))
  refine r_iload_n dX8_form_30 rfl 3 rfl ?_
  refine r_bipush (v := 8) dX8_form_31 (by decide) ?_
  refine r_callS (st := []) [.int (nI g), .int 8] 20 400 dX8_form_33 kX8_isBelow nX8_isBelow lRX8_104 (c_isB (nI g) 8) rfl rfl (Nat.le_of_ble_eq_true rfl) (Nat.le_refl _) (Nat.le_refl _) (fun _ _ h => h.elim) ?_
  refine cx_det (st2 := [.int (b2i (inB (nI g) 8))]) rfl ?_
  refine r_if_ne 49 dX8_form_36 (by decide) (fun c_4 => ?_) (fun c_4 => absurd c_4 (b2i_no (inB_k hg (by decide))))
  refine r_iload_n dX8_form_49 rfl 2 rfl ?_
  refine r_iconst (v := (-1)) dX8_form_50 (by decide) ?_
  refine r_icmp_ne 66 dX8_form_51 (by decide) (fun c_5 => ?_) (fun c_5 => absurd c_5 (nI_nm1 (show w < 2147483648 by omega)))
  refine r_aload_n dX8_form_66 rfl 0 rfl ?_
  refine r_get 0 dX8_form_67 fRX8_14 (hW.g 0 0 rfl) rfl ?_
  refine r_iconst (v := 1) dX8_form_70 (by decide) ?_
  refine r_bipush (v := 10) dX8_form_71 (by decide) ?_
  refine r_callV (st := []) [.int 1, .int 10] 20 400 dX8_form_73 kX5_isLetters nX5_isLetters lRX8_79 (hW.g 1 0 rfl) rfl (c_X5_isLetters (lo := 1) (hi := 10) (sgb hW hb0) (fun k _ => rg_C hI.ch.1 k) (by decide) (by decide)) rfl rfl (Nat.le_of_ble_eq_true rfl) (Nat.le_refl _) (Nat.le_refl _) (fun _ _ h => h.elim) ?_
  refine cx_det (st2 := [.int (b2i (ltB A 1 10))]) rfl ?_
  refine r_istore [(4, .int (b2i (ltB A 1 10))), (0, .ref (ad 0 0)), (1, .int (nI l)), (2, .int (nI w)), (3, .int (nI g))] dX8_form_76 (by decide) rfl ?_
  refine r_iload dX8_form_78 0 rfl ?_
  refine r_if_ne 93 dX8_form_80 (by decide) (fun c_7 => absurd (b2i_z hb) c_7) (fun c_7 => ?_)
  refine r_throw "java/lang/IllegalStateException" "no ending, or no form" dX8_form_83 dX8_form_86 dX8_form_87 dX8_form_89 dX8_form_92 rfl (by decide +kernel) t_212 t_31 (by decide +kernel) exS_at exS_ng (by decide +kernel) (by omega) (by decide) (by decide) (Nat.le_of_ble_eq_true rfl) ?_
  exact ⟨rfl, rfl⟩
set_option maxRecDepth 100000 in
set_option maxHeartbeats 4000000 in
theorem c_form_0a {d b0 : Nat} {G : GH} {A B : ST} {ad : AD} (hW : World A B ad G) (hI : Inv A) (hP : Pag A) {l g : Nat} (hl : l < 3) (hg : g < 8) (hb : ltB A 0 4 = true) : CT mX8_form (d + 8) b0 G [.ref (ad 0 0), .int (nI l), .int (-1), .int (nI g)] 20 400 (OPo (nI (A 0 0)) (setA (setA (cpyA A 5 (4 * (l * 8 + g)) (A 0 0)) 6 (l * 8 + g) (A 0 0)) 0 0 0) B ad A) (fun _ _ => False) := by
  have hb0 := hI.b0
  have hb2 := hI.b2
  have hb9 := hI.b9
  have hb15 := hI.b15
  have hb18 := hI.b18
  have he : l * 8 + g < 24 := by omega
  refine CT.intro (by decide +kernel) rfl (Nat.le_of_ble_eq_true rfl) ?_
  show WP mX8_form _ _ _ _ _ 20 400 0 [(0, .ref (ad 0 0)), (1, .int (nI l)), (2, .int (-1)), (3, .int (nI g))] []
  refine r_iload_n dX8_form_0 rfl 1 rfl ?_
  refine r_callS (st := []) [.int (nI l)] 20 400 dX8_form_1 kX8_isLanguage nX8_isLanguage lRX8_92 (c_isL (nI l)) rfl rfl (Nat.le_of_ble_eq_true rfl) (Nat.le_refl _) (Nat.le_refl _) (fun _ _ h => h.elim) ?_
  refine cx_det (st2 := [.int (b2i (inB (nI l) 3))]) rfl ?_
  refine r_if_eq 20 dX8_form_4 (by decide) (fun c_1 => absurd c_1 (b2i_no (inB_k hl (by decide)))) (fun c_1 => ?_)
  refine r_iload_n dX8_form_7 rfl 2 rfl ?_
  refine r_iconst (v := (-1)) dX8_form_8 (by decide) ?_
  refine r_icmp_eq 30 dX8_form_9 (by decide) (fun c_2 => ?_) (fun c_2 => absurd (by decide) c_2)
  refine r_iload_n dX8_form_30 rfl 3 rfl ?_
  refine r_bipush (v := 8) dX8_form_31 (by decide) ?_
  refine r_callS (st := []) [.int (nI g), .int 8] 20 400 dX8_form_33 kX8_isBelow nX8_isBelow lRX8_104 (c_isB (nI g) 8) rfl rfl (Nat.le_of_ble_eq_true rfl) (Nat.le_refl _) (Nat.le_refl _) (fun _ _ h => h.elim) ?_
  refine cx_det (st2 := [.int (b2i (inB (nI g) 8))]) rfl ?_
  refine r_if_ne 49 dX8_form_36 (by decide) (fun c_3 => ?_) (fun c_3 => absurd c_3 (b2i_no (inB_k hg (by decide))))
  refine r_iload_n dX8_form_49 rfl 2 rfl ?_
  refine r_iconst (v := (-1)) dX8_form_50 (by decide) ?_
  refine r_icmp_ne 66 dX8_form_51 (by decide) (fun c_4 => absurd (by decide) c_4) (fun c_4 => ?_)
  refine r_aload_n dX8_form_54 rfl 0 rfl ?_
  refine r_get 0 dX8_form_55 fRX8_14 (hW.g 0 0 rfl) rfl ?_
  refine r_iconst (v := 0) dX8_form_58 (by decide) ?_
  refine r_iconst (v := 4) dX8_form_59 (by decide) ?_
  refine r_callV (st := []) [.int 0, .int 4] 20 400 dX8_form_60 kX5_isLetters nX5_isLetters lRX8_79 (hW.g 1 0 rfl) rfl (c_X5_isLetters (lo := 0) (hi := 4) (sgb hW hb0) (fun k _ => rg_C hI.ch.1 k) (by decide) (by decide)) rfl rfl (Nat.le_of_ble_eq_true rfl) (Nat.le_refl _) (Nat.le_refl _) (fun _ _ h => h.elim) ?_
  refine cx_det (st2 := [.int (b2i (ltB A 0 4))]) rfl ?_
  refine r_goto 76 dX8_form_63 (by decide) ?_
  refine r_istore [(4, .int (b2i (ltB A 0 4))), (0, .ref (ad 0 0)), (1, .int (nI l)), (2, .int (-1)), (3, .int (nI g))] dX8_form_76 (by decide) rfl ?_
  refine r_iload dX8_form_78 0 rfl ?_
  refine r_if_ne 93 dX8_form_80 (by decide) (fun c_6 => ?_) (fun c_6 => absurd c_6 (b2i_no hb))
  refine r_iload_n dX8_form_93 rfl 3 rfl ?_
  refine r_iconst (v := (-1)) dX8_form_94 (by decide) ?_
  refine r_icmp_ne 114 dX8_form_95 (by decide) (fun c_7 => absurd (by decide) c_7) (fun c_7 => ?_)
  refine r_aload_n dX8_form_98 rfl 1 rfl ?_
  refine r_get 1 dX8_form_99 fRX8_21 (hW.g 0 0 rfl) rfl ?_
  refine r_iload_n dX8_form_102 rfl 2 rfl ?_
  refine r_iload_n dX8_form_103 rfl 4 rfl ?_
  refine r_aload_n dX8_form_104 rfl 1 rfl ?_
  refine r_get 0 dX8_form_105 fRX8_14 (hW.g 0 0 rfl) rfl ?_
  refine r_callV (st := []) [.int (nI l), .int (nI g), .ref (ad 1 0)] 20 400 dX8_form_108 kX7_setEnding nX7_setEnding lRX8_114 (hW.g 3 0 rfl) rfl (c_X7_setEnding hW hI hl hg (ltB_len hb).2) rfl rfl (Nat.le_of_ble_eq_true rfl) (Nat.le_refl _) (Nat.le_refl _) (fun _ _ h => h.elim) ?_
  refine cx_det (st2 := []) rfl ?_
  have hWa := w_en1 hW he (ltB_len hb).2
  have hW_8 : World (setA (cpyA A 5 (4 * (l * 8 + g)) (A 0 0)) 6 (l * 8 + g) (A 0 0)) B ad (va_up (va_up G (ad 18 (l * 8 + g)) (some (chA 4 (cpy (rg A 1 0 60) (rg A 5 (4 * (l * 8 + g)) 4) (A 0 0))))) (ad 17 (l * 8 + g)) (some (sgC (ad 18 (l * 8 + g)) (A 0 0)))) := w_en0 hWa he
  refine r_heap (G' := va_up (va_up G (ad 18 (l * 8 + g)) (some (chA 4 (cpy (rg A 1 0 60) (rg A 5 (4 * (l * 8 + g)) 4) (A 0 0))))) (ad 17 (l * 8 + g)) (some (sgC (ad 18 (l * 8 + g)) (A 0 0)))) rfl ?_
  refine r_goto 128 dX8_form_111 (by decide) ?_
  refine r_aload_n dX8_form_128 rfl 1 rfl ?_
  refine r_get 0 dX8_form_129 fRX8_14 (hW_8.g 0 0 rfl) rfl ?_
  refine r_callV (st := []) [] 20 400 dX8_form_132 kX5_length nX5_length lRX8_72 (hW_8.g 1 0 rfl) rfl (c_X5_length (sgb hW_8 hb0)) rfl rfl (Nat.le_of_ble_eq_true rfl) (Nat.le_refl _) (Nat.le_refl _) (fun _ _ h => h.elim) ?_
  refine cx_det (st2 := [.int (nI (A 0 0))]) rfl ?_
  refine r_istore [(5, .int (nI (A 0 0))), (4, .int (b2i (ltB A 0 4))), (0, .ref (ad 0 0)), (1, .int (nI l)), (2, .int (-1)), (3, .int (nI g))] dX8_form_135 (by decide) rfl ?_
  refine r_aload_n dX8_form_137 rfl 2 rfl ?_
  refine r_get 0 dX8_form_138 fRX8_14 (hW_8.g 0 0 rfl) rfl ?_
  refine r_callV (st := []) [] 20 400 dX8_form_141 kX5_empty nX5_empty lRX8_76 (hW_8.g 1 0 rfl) rfl (c_X5_empty (sgb hW_8 hb0)) rfl rfl (Nat.le_of_ble_eq_true rfl) (Nat.le_refl _) (Nat.le_refl _) (fun _ _ h => h.elim) ?_
  refine cx_det (st2 := []) rfl ?_
  have hW_10 : World (setA (setA (cpyA A 5 (4 * (l * 8 + g)) (A 0 0)) 6 (l * 8 + g) (A 0 0)) 0 0 0) B ad (va_up (va_up (va_up G (ad 18 (l * 8 + g)) (some (chA 4 (cpy (rg A 1 0 60) (rg A 5 (4 * (l * 8 + g)) 4) (A 0 0))))) (ad 17 (l * 8 + g)) (some (sgC (ad 18 (l * 8 + g)) (A 0 0)))) (ad 1 0) (some (sgC (ad 2 0) 0))) := w_b0 hW_8 0
  refine r_heap (G' := va_up (va_up (va_up G (ad 18 (l * 8 + g)) (some (chA 4 (cpy (rg A 1 0 60) (rg A 5 (4 * (l * 8 + g)) 4) (A 0 0))))) (ad 17 (l * 8 + g)) (some (sgC (ad 18 (l * 8 + g)) (A 0 0)))) (ad 1 0) (some (sgC (ad 2 0) 0))) rfl ?_
  refine r_iload dX8_form_144 0 rfl ?_
  refine r_ireti dX8_form_146 rfl ?_
  exact ⟨rfl, (setA (setA (cpyA A 5 (4 * (l * 8 + g)) (A 0 0)) 6 (l * 8 + g) (A 0 0)) 0 0 0), ad, hW_10, fun _ _ _ => rfl, hP, fun f hf => rfl⟩
set_option maxRecDepth 100000 in
set_option maxHeartbeats 4000000 in
theorem c_form_0b {d b0 : Nat} {G : GH} {A B : ST} {ad : AD} (hW : World A B ad G) (hI : Inv A) (hP : Pag A) {l w g : Nat} (hl : l < 3) (hw : w < A 2 0) (hg : g < 8) (hb : ltB A 1 10 = true) (h8 : A 8 (oix l w g) ≠ 0) : CT mX8_form (d + 8) b0 G [.ref (ad 0 0), .int (nI l), .int (nI w), .int (nI g)] 20 400 (OPo (nI (A 0 0)) (setA (setA (cpyA A 7 (10 * oix l w g) (A 0 0)) 8 (oix l w g) (A 0 0)) 0 0 0) B ad A) (fun _ _ => False) := by
  have hb0 := hI.b0
  have hb2 := hI.b2
  have hb9 := hI.b9
  have hb15 := hI.b15
  have hb18 := hI.b18
  have hlen := ltB_len hb
  have hne0 : A 0 0 ≠ 0 := by omega
  have hox : oix l w g < 288 := by show (w * 3 + l) * 8 + g < 288; omega
  have ho : oix l w g < 288 ∧ A 8 (oix l w g) ≠ 0 := ⟨hox, h8⟩
  refine CT.intro (by decide +kernel) rfl (Nat.le_of_ble_eq_true rfl) ?_
  show WP mX8_form _ _ _ _ _ 20 400 0 [(0, .ref (ad 0 0)), (1, .int (nI l)), (2, .int (nI w)), (3, .int (nI g))] []
  refine r_iload_n dX8_form_0 rfl 1 rfl ?_
  refine r_callS (st := []) [.int (nI l)] 20 400 dX8_form_1 kX8_isLanguage nX8_isLanguage lRX8_92 (c_isL (nI l)) rfl rfl (Nat.le_of_ble_eq_true rfl) (Nat.le_refl _) (Nat.le_refl _) (fun _ _ h => h.elim) ?_
  refine cx_det (st2 := [.int (b2i (inB (nI l) 3))]) rfl ?_
  refine r_if_eq 20 dX8_form_4 (by decide) (fun c_1 => absurd c_1 (b2i_no (inB_k hl (by decide)))) (fun c_1 => ?_)
  refine r_iload_n dX8_form_7 rfl 2 rfl ?_
  refine r_iconst (v := (-1)) dX8_form_8 (by decide) ?_
  refine r_icmp_eq 30 dX8_form_9 (by decide) (fun c_2 => absurd c_2 (nI_nm1 (show w < 2147483648 by omega))) (fun c_2 => ?_)
  refine r_aload_n dX8_form_12 rfl 0 rfl ?_
  refine r_iload_n dX8_form_13 rfl 2 rfl ?_
  refine r_callV (st := []) [.int (nI w)] 20 400 dX8_form_14 kX8_isWord nX8_isWord lRX8_96 (hW.g 0 0 rfl) rfl (c_isW hW hI (nI w)) rfl rfl (Nat.le_of_ble_eq_true rfl) (Nat.le_refl _) (Nat.le_refl _) (fun _ _ h => h.elim) ?_
  refine cx_det (st2 := [.int (b2i (inB (nI w) (A 2 0)))]) rfl ?_
  refine r_if_ne 30 dX8_form_17 (by decide) (fun c_3 => ?_) (fun c_3 => absurd c_3 (b2i_no (inB_k hw (by omega))))
  refine r_iload_n dX8_form_30 rfl 3 rfl ?_
  refine r_bipush (v := 8) dX8_form_31 (by decide) ?_
  refine r_callS (st := []) [.int (nI g), .int 8] 20 400 dX8_form_33 kX8_isBelow nX8_isBelow lRX8_104 (c_isB (nI g) 8) rfl rfl (Nat.le_of_ble_eq_true rfl) (Nat.le_refl _) (Nat.le_refl _) (fun _ _ h => h.elim) ?_
  refine cx_det (st2 := [.int (b2i (inB (nI g) 8))]) rfl ?_
  refine r_if_ne 49 dX8_form_36 (by decide) (fun c_4 => ?_) (fun c_4 => absurd c_4 (b2i_no (inB_k hg (by decide))))
  refine r_iload_n dX8_form_49 rfl 2 rfl ?_
  refine r_iconst (v := (-1)) dX8_form_50 (by decide) ?_
  refine r_icmp_ne 66 dX8_form_51 (by decide) (fun c_5 => ?_) (fun c_5 => absurd c_5 (nI_nm1 (show w < 2147483648 by omega)))
  refine r_aload_n dX8_form_66 rfl 0 rfl ?_
  refine r_get 0 dX8_form_67 fRX8_14 (hW.g 0 0 rfl) rfl ?_
  refine r_iconst (v := 1) dX8_form_70 (by decide) ?_
  refine r_bipush (v := 10) dX8_form_71 (by decide) ?_
  refine r_callV (st := []) [.int 1, .int 10] 20 400 dX8_form_73 kX5_isLetters nX5_isLetters lRX8_79 (hW.g 1 0 rfl) rfl (c_X5_isLetters (lo := 1) (hi := 10) (sgb hW hb0) (fun k _ => rg_C hI.ch.1 k) (by decide) (by decide)) rfl rfl (Nat.le_of_ble_eq_true rfl) (Nat.le_refl _) (Nat.le_refl _) (fun _ _ h => h.elim) ?_
  refine cx_det (st2 := [.int (b2i (ltB A 1 10))]) rfl ?_
  refine r_istore [(4, .int (b2i (ltB A 1 10))), (0, .ref (ad 0 0)), (1, .int (nI l)), (2, .int (nI w)), (3, .int (nI g))] dX8_form_76 (by decide) rfl ?_
  refine r_iload dX8_form_78 0 rfl ?_
  refine r_if_ne 93 dX8_form_80 (by decide) (fun c_7 => ?_) (fun c_7 => absurd c_7 (b2i_no hb))
  refine r_iload_n dX8_form_93 rfl 3 rfl ?_
  refine r_iconst (v := (-1)) dX8_form_94 (by decide) ?_
  refine r_icmp_ne 114 dX8_form_95 (by decide) (fun c_8 => ?_) (fun c_8 => absurd c_8 (nI_nm1 (show w < 2147483648 by omega)))
  refine r_aload_n dX8_form_114 rfl 1 rfl ?_
  refine r_get 1 dX8_form_115 fRX8_21 (hW.g 0 0 rfl) rfl ?_
  refine r_iload_n dX8_form_118 rfl 2 rfl ?_
  refine r_iload_n dX8_form_119 rfl 3 rfl ?_
  refine r_iload_n dX8_form_120 rfl 4 rfl ?_
  refine r_aload_n dX8_form_121 rfl 1 rfl ?_
  refine r_get 0 dX8_form_122 fRX8_14 (hW.g 0 0 rfl) rfl ?_
  refine r_callV (st := []) [.int (nI l), .int (nI w), .int (nI g), .ref (ad 1 0)] 20 400 dX8_form_125 kX7_setOwn nX7_setOwn lRX8_118 (hW.g 3 0 rfl) rfl (c_X7_setOwn_s hW hI ho (ltB_len hb).2) rfl rfl (Nat.le_of_ble_eq_true rfl) (Nat.le_refl _) (Nat.le_refl _) (fun _ _ h => h.elim) ?_
  refine cx_det (st2 := []) rfl ?_
  have hWa := w_ow1 hW ho (ltB_len hb).2
  have hW_9 : World (setA (cpyA A 7 (10 * oix l w g) (A 0 0)) 8 (oix l w g) (A 0 0)) B ad (va_up (va_up G (ad 20 (oix l w g)) (some (chA 10 (cpy (rg A 1 0 60) (rg A 7 (10 * (oix l w g)) 10) (A 0 0))))) (ad 19 (oix l w g)) (some (sgC (ad 20 (oix l w g)) (A 0 0)))) := w_ow0 hWa ho hne0
  refine r_heap (G' := va_up (va_up G (ad 20 (oix l w g)) (some (chA 10 (cpy (rg A 1 0 60) (rg A 7 (10 * (oix l w g)) 10) (A 0 0))))) (ad 19 (oix l w g)) (some (sgC (ad 20 (oix l w g)) (A 0 0)))) rfl ?_
  refine r_aload_n dX8_form_128 rfl 1 rfl ?_
  refine r_get 0 dX8_form_129 fRX8_14 (hW_9.g 0 0 rfl) rfl ?_
  refine r_callV (st := []) [] 20 400 dX8_form_132 kX5_length nX5_length lRX8_72 (hW_9.g 1 0 rfl) rfl (c_X5_length (sgb hW_9 hb0)) rfl rfl (Nat.le_of_ble_eq_true rfl) (Nat.le_refl _) (Nat.le_refl _) (fun _ _ h => h.elim) ?_
  refine cx_det (st2 := [.int (nI (A 0 0))]) rfl ?_
  refine r_istore [(5, .int (nI (A 0 0))), (4, .int (b2i (ltB A 1 10))), (0, .ref (ad 0 0)), (1, .int (nI l)), (2, .int (nI w)), (3, .int (nI g))] dX8_form_135 (by decide) rfl ?_
  refine r_aload_n dX8_form_137 rfl 2 rfl ?_
  refine r_get 0 dX8_form_138 fRX8_14 (hW_9.g 0 0 rfl) rfl ?_
  refine r_callV (st := []) [] 20 400 dX8_form_141 kX5_empty nX5_empty lRX8_76 (hW_9.g 1 0 rfl) rfl (c_X5_empty (sgb hW_9 hb0)) rfl rfl (Nat.le_of_ble_eq_true rfl) (Nat.le_refl _) (Nat.le_refl _) (fun _ _ h => h.elim) ?_
  refine cx_det (st2 := []) rfl ?_
  have hW_11 : World (setA (setA (cpyA A 7 (10 * oix l w g) (A 0 0)) 8 (oix l w g) (A 0 0)) 0 0 0) B ad (va_up (va_up (va_up G (ad 20 (oix l w g)) (some (chA 10 (cpy (rg A 1 0 60) (rg A 7 (10 * (oix l w g)) 10) (A 0 0))))) (ad 19 (oix l w g)) (some (sgC (ad 20 (oix l w g)) (A 0 0)))) (ad 1 0) (some (sgC (ad 2 0) 0))) := w_b0 hW_9 0
  refine r_heap (G' := va_up (va_up (va_up G (ad 20 (oix l w g)) (some (chA 10 (cpy (rg A 1 0 60) (rg A 7 (10 * (oix l w g)) 10) (A 0 0))))) (ad 19 (oix l w g)) (some (sgC (ad 20 (oix l w g)) (A 0 0)))) (ad 1 0) (some (sgC (ad 2 0) 0))) rfl ?_
  refine r_iload dX8_form_144 0 rfl ?_
  refine r_ireti dX8_form_146 rfl ?_
  exact ⟨rfl, (setA (setA (cpyA A 7 (10 * oix l w g) (A 0 0)) 8 (oix l w g) (A 0 0)) 0 0 0), ad, hW_11, fun _ _ _ => rfl, hP, fun f hf => rfl⟩
set_option maxRecDepth 100000 in
set_option maxHeartbeats 4000000 in
theorem c_form_0c {d b0 : Nat} {G : GH} {A B : ST} {ad : AD} (hW : World A B ad G) (hI : Inv A) (hP : Pag A) {l w g : Nat} (hl : l < 3) (hw : w < A 2 0) (hg : g < 8) (hb : ltB A 1 10 = true) (h8 : A 8 (oix l w g) = 0) : CT mX8_form (d + 8) b0 G [.ref (ad 0 0), .int (nI l), .int (nI w), .int (nI g)] 20 400 (OPo (nI (A 0 0)) (setA (setA (cpyA A 7 (10 * oix l w g) (A 0 0)) 8 (oix l w g) (A 0 0)) 0 0 0) B ad A) (fun _ _ => False) := by
  have hb0 := hI.b0
  have hb2 := hI.b2
  have hb9 := hI.b9
  have hb15 := hI.b15
  have hb18 := hI.b18
  have hlen := ltB_len hb
  have hne0 : A 0 0 ≠ 0 := by omega
  have hox : oix l w g < 288 := by show (w * 3 + l) * 8 + g < 288; omega
  refine CT.intro (by decide +kernel) rfl (Nat.le_of_ble_eq_true rfl) ?_
  show WP mX8_form _ _ _ _ _ 20 400 0 [(0, .ref (ad 0 0)), (1, .int (nI l)), (2, .int (nI w)), (3, .int (nI g))] []
  refine r_iload_n dX8_form_0 rfl 1 rfl ?_
  refine r_callS (st := []) [.int (nI l)] 20 400 dX8_form_1 kX8_isLanguage nX8_isLanguage lRX8_92 (c_isL (nI l)) rfl rfl (Nat.le_of_ble_eq_true rfl) (Nat.le_refl _) (Nat.le_refl _) (fun _ _ h => h.elim) ?_
  refine cx_det (st2 := [.int (b2i (inB (nI l) 3))]) rfl ?_
  refine r_if_eq 20 dX8_form_4 (by decide) (fun c_1 => absurd c_1 (b2i_no (inB_k hl (by decide)))) (fun c_1 => ?_)
  refine r_iload_n dX8_form_7 rfl 2 rfl ?_
  refine r_iconst (v := (-1)) dX8_form_8 (by decide) ?_
  refine r_icmp_eq 30 dX8_form_9 (by decide) (fun c_2 => absurd c_2 (nI_nm1 (show w < 2147483648 by omega))) (fun c_2 => ?_)
  refine r_aload_n dX8_form_12 rfl 0 rfl ?_
  refine r_iload_n dX8_form_13 rfl 2 rfl ?_
  refine r_callV (st := []) [.int (nI w)] 20 400 dX8_form_14 kX8_isWord nX8_isWord lRX8_96 (hW.g 0 0 rfl) rfl (c_isW hW hI (nI w)) rfl rfl (Nat.le_of_ble_eq_true rfl) (Nat.le_refl _) (Nat.le_refl _) (fun _ _ h => h.elim) ?_
  refine cx_det (st2 := [.int (b2i (inB (nI w) (A 2 0)))]) rfl ?_
  refine r_if_ne 30 dX8_form_17 (by decide) (fun c_3 => ?_) (fun c_3 => absurd c_3 (b2i_no (inB_k hw (by omega))))
  refine r_iload_n dX8_form_30 rfl 3 rfl ?_
  refine r_bipush (v := 8) dX8_form_31 (by decide) ?_
  refine r_callS (st := []) [.int (nI g), .int 8] 20 400 dX8_form_33 kX8_isBelow nX8_isBelow lRX8_104 (c_isB (nI g) 8) rfl rfl (Nat.le_of_ble_eq_true rfl) (Nat.le_refl _) (Nat.le_refl _) (fun _ _ h => h.elim) ?_
  refine cx_det (st2 := [.int (b2i (inB (nI g) 8))]) rfl ?_
  refine r_if_ne 49 dX8_form_36 (by decide) (fun c_4 => ?_) (fun c_4 => absurd c_4 (b2i_no (inB_k hg (by decide))))
  refine r_iload_n dX8_form_49 rfl 2 rfl ?_
  refine r_iconst (v := (-1)) dX8_form_50 (by decide) ?_
  refine r_icmp_ne 66 dX8_form_51 (by decide) (fun c_5 => ?_) (fun c_5 => absurd c_5 (nI_nm1 (show w < 2147483648 by omega)))
  refine r_aload_n dX8_form_66 rfl 0 rfl ?_
  refine r_get 0 dX8_form_67 fRX8_14 (hW.g 0 0 rfl) rfl ?_
  refine r_iconst (v := 1) dX8_form_70 (by decide) ?_
  refine r_bipush (v := 10) dX8_form_71 (by decide) ?_
  refine r_callV (st := []) [.int 1, .int 10] 20 400 dX8_form_73 kX5_isLetters nX5_isLetters lRX8_79 (hW.g 1 0 rfl) rfl (c_X5_isLetters (lo := 1) (hi := 10) (sgb hW hb0) (fun k _ => rg_C hI.ch.1 k) (by decide) (by decide)) rfl rfl (Nat.le_of_ble_eq_true rfl) (Nat.le_refl _) (Nat.le_refl _) (fun _ _ h => h.elim) ?_
  refine cx_det (st2 := [.int (b2i (ltB A 1 10))]) rfl ?_
  refine r_istore [(4, .int (b2i (ltB A 1 10))), (0, .ref (ad 0 0)), (1, .int (nI l)), (2, .int (nI w)), (3, .int (nI g))] dX8_form_76 (by decide) rfl ?_
  refine r_iload dX8_form_78 0 rfl ?_
  refine r_if_ne 93 dX8_form_80 (by decide) (fun c_7 => ?_) (fun c_7 => absurd c_7 (b2i_no hb))
  refine r_iload_n dX8_form_93 rfl 3 rfl ?_
  refine r_iconst (v := (-1)) dX8_form_94 (by decide) ?_
  refine r_icmp_ne 114 dX8_form_95 (by decide) (fun c_8 => ?_) (fun c_8 => absurd c_8 (nI_nm1 (show w < 2147483648 by omega)))
  refine r_aload_n dX8_form_114 rfl 1 rfl ?_
  refine r_get 1 dX8_form_115 fRX8_21 (hW.g 0 0 rfl) rfl ?_
  refine r_iload_n dX8_form_118 rfl 2 rfl ?_
  refine r_iload_n dX8_form_119 rfl 3 rfl ?_
  refine r_iload_n dX8_form_120 rfl 4 rfl ?_
  refine r_aload_n dX8_form_121 rfl 1 rfl ?_
  refine r_get 0 dX8_form_122 fRX8_14 (hW.g 0 0 rfl) rfl ?_
  refine r_callV (st := []) [.int (nI l), .int (nI w), .int (nI g), .ref (ad 1 0)] 18 388 dX8_form_125 kX7_setOwn nX7_setOwn lRX8_118 (hW.g 3 0 rfl) rfl (c_X7_setOwn_n hW hI hox h8 hne0 (ltB_len hb).2) rfl rfl (Nat.le_of_ble_eq_true rfl) (by decide) (by decide) (fun _ _ h => h.elim) ?_
  intro r G9 hr
  obtain ⟨rfl, ad9, hW9, hk9⟩ := hr
  have f0 := hW9.g 0 0 rfl
  rw [hk9 0 0 rfl] at f0
  refine r_aload_n dX8_form_128 rfl 1 rfl ?_
  refine r_get 0 dX8_form_129 fRX8_14 f0 rfl ?_
  refine r_callV (st := []) [] 18 388 dX8_form_132 kX5_length nX5_length lRX8_72 (hW9.g 1 0 rfl) rfl (c_X5_length (sgb hW9 hb0)) rfl rfl (Nat.le_of_ble_eq_true rfl) (Nat.le_refl _) (Nat.le_refl _) (fun _ _ h => h.elim) ?_
  refine cx_det (st2 := [.int (nI (A 0 0))]) rfl ?_
  refine r_istore [(5, .int (nI (A 0 0))), (4, .int (b2i (ltB A 1 10))), (0, .ref (ad 0 0)), (1, .int (nI l)), (2, .int (nI w)), (3, .int (nI g))] dX8_form_135 (by decide) rfl ?_
  refine r_aload_n dX8_form_137 rfl 2 rfl ?_
  refine r_get 0 dX8_form_138 fRX8_14 f0 rfl ?_
  refine r_callV (st := []) [] 18 388 dX8_form_141 kX5_empty nX5_empty lRX8_76 (hW9.g 1 0 rfl) rfl (c_X5_empty (sgb hW9 hb0)) rfl rfl (Nat.le_of_ble_eq_true rfl) (Nat.le_refl _) (Nat.le_refl _) (fun _ _ h => h.elim) ?_
  refine cx_det (st2 := []) rfl ?_
  have hW_10 : World (setA (setA (cpyA A 7 (10 * oix l w g) (A 0 0)) 8 (oix l w g) (A 0 0)) 0 0 0) B ad9 (va_up G9 (ad9 1 0) (some (sgC (ad9 2 0) 0))) := w_b0 hW9 0
  refine r_heap (G' := va_up G9 (ad9 1 0) (some (sgC (ad9 2 0) 0))) rfl ?_
  refine r_iload dX8_form_144 0 rfl ?_
  refine r_ireti dX8_form_146 rfl ?_
  exact ⟨rfl, (setA (setA (cpyA A 7 (10 * oix l w g) (A 0 0)) 8 (oix l w g) (A 0 0)) 0 0 0), ad9, hW_10, hk9, hP, fun f hf => rfl⟩
set_option maxRecDepth 100000 in
set_option maxHeartbeats 4000000 in
theorem c_letter_0 {d b0 : Nat} {G : GH} {A B : ST} {ad : AD} (hW : World A B ad G) (hI : Inv A) (hP : Pag A) (hn : A 15 0 < 6) : CT mX8_letter (d + 8) b0 G [.ref (ad 0 0)] 20 400 (OPo (nI (A 15 0)) (setA A 15 0 (A 15 0 + 1)) B ad A) (fun _ _ => False) := by
  have hb0 := hI.b0
  have hb2 := hI.b2
  have hb9 := hI.b9
  have hb15 := hI.b15
  have hb18 := hI.b18
  refine CT.intro (by decide +kernel) rfl (Nat.le_of_ble_eq_true rfl) ?_
  show WP mX8_letter _ _ _ _ _ 20 400 0 [(0, .ref (ad 0 0))] []
  have hR_1 := hW.g 0 0 rfl
  have hR_2 := hW.g 8 0 rfl
  refine r_aload_n dX8_letter_0 rfl 0 rfl ?_
  refine r_get 9 dX8_letter_1 fRX8_182 hR_1 rfl ?_
  refine r_aload_n dX8_letter_4 rfl 0 rfl ?_
  refine r_get 3 dX8_letter_5 fRX8_33 hR_1 rfl ?_
  refine r_alen (v := nI 6) dX8_letter_8 hR_2 rfl ?_
  refine r_callS (st := []) [.int (nI (A 15 0)), .int (nI 6)] 20 400 dX8_letter_9 kX8_isBelow nX8_isBelow lRX8_104 (c_isB (nI (A 15 0)) 6) rfl rfl (Nat.le_of_ble_eq_true rfl) (Nat.le_refl _) (Nat.le_refl _) (fun _ _ h => h.elim) ?_
  refine cx_det (st2 := [.int (b2i (inB (nI (A 15 0)) 6))]) rfl ?_
  refine r_if_ne 25 dX8_letter_12 (by decide) (fun c_3 => ?_) (fun c_3 => absurd c_3 (b2i_no (inB_k hn (by decide))))
  refine r_aload_n dX8_letter_25 rfl 0 rfl ?_
  refine r_get 3 dX8_letter_26 fRX8_33 hR_1 rfl ?_
  refine r_aload_n dX8_letter_29 rfl 0 rfl ?_
  refine r_get 9 dX8_letter_30 fRX8_182 hR_1 rfl ?_
  refine r_new [.null, .int 0] 19 398 dX8_letter_33 wRX8_31 (by decide) (by decide) (fun q_4 hq_5 hb_6 => ?_)
  have hA_7 : ad 0 0 ≠ q_4 := cx_nf hR_1 hq_5
  have hG_8 := up_n (e := some (.inr (2, [.null, .int 0]))) hA_7 hR_1
  have hA_9 : ad 8 0 ≠ q_4 := cx_nf hR_2 hq_5
  have hG_10 := up_n (e := some (.inr (2, [.null, .int 0]))) hA_9 hR_2
  have hG_11 : (va_up G q_4 (some (.inr (2, [.null, .int 0])))) q_4 = some (.inr (2, [.null, .int 0])) := up_s
  refine r_heap (G' := (va_up G q_4 (some (.inr (2, [.null, .int 0]))))) rfl ?_
  refine r_dup dX8_letter_36 rfl ?_
  refine r_callIN (st := [.ref q_4, .int (nI (A 15 0)), .ref (ad 8 0)]) [] 18 392 dX8_letter_37 kX2_init nX2_init rfl rfl lRX8_187 (c_X2_init hG_11) rfl rfl (Nat.le_of_ble_eq_true rfl) (by decide) (by decide) (fun _ _ h => h.elim) ?_
  intro r G9 hr
  obtain ⟨rfl, qa, hqa, hbqa, rfl⟩ := hr
  have hA_12 : ad 0 0 ≠ qa := cx_nf hG_8 hqa
  have hG_13 := up_n (e := some (inA 6 (fun _ => 0))) hA_12 hG_8
  have hA_14 : ad 8 0 ≠ qa := cx_nf hG_10 hqa
  have hG_15 := up_n (e := some (inA 6 (fun _ => 0))) hA_14 hG_10
  have hA_16 : q_4 ≠ qa := cx_nf hG_11 hqa
  have hG_17 := up_n (e := some (inA 6 (fun _ => 0))) hA_16 hG_11
  have hG_18 : (va_up (va_up G q_4 (some (.inr (2, [.null, .int 0])))) qa (some (inA 6 (fun _ => 0)))) qa = some (inA 6 (fun _ => 0)) := up_s
  have hG_19 := up_n (e := some (ltC qa 0)) hA_7 hG_13
  have hG_20 := up_n (e := some (ltC qa 0)) hA_9 hG_15
  have hG_21 := up_n (e := some (ltC qa 0)) (Ne.symm hA_16) hG_18
  have hG_22 : (va_up (va_up (va_up G q_4 (some (.inr (2, [.null, .int 0])))) qa (some (inA 6 (fun _ => 0)))) q_4 (some (ltC qa 0))) q_4 = some (ltC qa 0) := up_s
  refine r_aast RX2 dX8_letter_40 hG_20 hG_22 rfl (vp_in_nI hn (by decide)) ?_
  have hG_23 := up_n (e := some (.inl (.object RX2, 6, .inr (.inr (.inr (.inr (va_up (fun j => if j < A 15 0 then some (ad 27 j) else none) (A 15 0) (some q_4)))))))) (hW.ne 0 0 8 0 rfl rfl (Or.inl (by decide))) hG_19
  have hG_24 := up_n (e := some (.inl (.object RX2, 6, .inr (.inr (.inr (.inr (va_up (fun j => if j < A 15 0 then some (ad 27 j) else none) (A 15 0) (some q_4)))))))) (Ne.symm hA_9) hG_22
  have hG_25 := up_n (e := some (.inl (.object RX2, 6, .inr (.inr (.inr (.inr (va_up (fun j => if j < A 15 0 then some (ad 27 j) else none) (A 15 0) (some q_4)))))))) (Ne.symm hA_14) hG_21
  have hG_26 : (va_up (va_up (va_up (va_up G q_4 (some (.inr (2, [.null, .int 0])))) qa (some (inA 6 (fun _ => 0)))) q_4 (some (ltC qa 0))) (ad 8 0) (some (.inl (.object RX2, 6, .inr (.inr (.inr (.inr (va_up (fun j => if j < A 15 0 then some (ad 27 j) else none) (A 15 0) (some q_4))))))))) (ad 8 0) = some (.inl (.object RX2, 6, .inr (.inr (.inr (.inr (va_up (fun j => if j < A 15 0 then some (ad 27 j) else none) (A 15 0) (some q_4))))))) := up_s
  refine r_heap (G' := (va_up (va_up (va_up (va_up G q_4 (some (.inr (2, [.null, .int 0])))) qa (some (inA 6 (fun _ => 0)))) q_4 (some (ltC qa 0))) (ad 8 0) (some (.inl (.object RX2, 6, .inr (.inr (.inr (.inr (va_up (fun j => if j < A 15 0 then some (ad 27 j) else none) (A 15 0) (some q_4)))))))))) (by rw [nI_cl (show A 15 0 < 2147483648 by omega)]) ?_
  refine r_aload_n dX8_letter_41 rfl 0 rfl ?_
  refine r_dup dX8_letter_42 rfl ?_
  refine r_get 9 dX8_letter_43 fRX8_182 hG_23 rfl ?_
  refine r_iconst (v := 1) dX8_letter_46 (by decide) ?_
  refine r_iadd dX8_letter_47 ?_
  refine r_top (nI (A 15 0 + 1)) (nI_1 _) ?_
  refine r_put 9 (.int) dX8_letter_48 gRX8_182 hG_23 (Nat.le_of_ble_eq_true rfl) rfl rfl ?_
  have hG_27 := up_n (e := some (.inr (8, [.ref (ad 1 0), .ref (ad 3 0), .ref (ad 7 0), .ref (ad 8 0), .ref (ad 9 0), .ref (ad 10 0), .ref (ad 11 0), .ref (ad 14 0), .int (nI (A 9 0)), .int (nI (A 15 0 + 1)), .int (nI (A 18 0))]))) (Ne.symm (hW.ne 0 0 8 0 rfl rfl (Or.inl (by decide)))) hG_26
  have hG_28 := up_n (e := some (.inr (8, [.ref (ad 1 0), .ref (ad 3 0), .ref (ad 7 0), .ref (ad 8 0), .ref (ad 9 0), .ref (ad 10 0), .ref (ad 11 0), .ref (ad 14 0), .int (nI (A 9 0)), .int (nI (A 15 0 + 1)), .int (nI (A 18 0))]))) (Ne.symm hA_7) hG_24
  have hG_29 := up_n (e := some (.inr (8, [.ref (ad 1 0), .ref (ad 3 0), .ref (ad 7 0), .ref (ad 8 0), .ref (ad 9 0), .ref (ad 10 0), .ref (ad 11 0), .ref (ad 14 0), .int (nI (A 9 0)), .int (nI (A 15 0 + 1)), .int (nI (A 18 0))]))) (Ne.symm hA_12) hG_25
  have hG_30 : (va_up (va_up (va_up (va_up (va_up G q_4 (some (.inr (2, [.null, .int 0])))) qa (some (inA 6 (fun _ => 0)))) q_4 (some (ltC qa 0))) (ad 8 0) (some (.inl (.object RX2, 6, .inr (.inr (.inr (.inr (va_up (fun j => if j < A 15 0 then some (ad 27 j) else none) (A 15 0) (some q_4))))))))) (ad 0 0) (some (.inr (8, [.ref (ad 1 0), .ref (ad 3 0), .ref (ad 7 0), .ref (ad 8 0), .ref (ad 9 0), .ref (ad 10 0), .ref (ad 11 0), .ref (ad 14 0), .int (nI (A 9 0)), .int (nI (A 15 0 + 1)), .int (nI (A 18 0))])))) (ad 0 0) = some (.inr (8, [.ref (ad 1 0), .ref (ad 3 0), .ref (ad 7 0), .ref (ad 8 0), .ref (ad 9 0), .ref (ad 10 0), .ref (ad 11 0), .ref (ad 14 0), .int (nI (A 9 0)), .int (nI (A 15 0 + 1)), .int (nI (A 18 0))])) := up_s
  refine r_heap (G' := (va_up (va_up (va_up (va_up (va_up G q_4 (some (.inr (2, [.null, .int 0])))) qa (some (inA 6 (fun _ => 0)))) q_4 (some (ltC qa 0))) (ad 8 0) (some (.inl (.object RX2, 6, .inr (.inr (.inr (.inr (va_up (fun j => if j < A 15 0 then some (ad 27 j) else none) (A 15 0) (some q_4))))))))) (ad 0 0) (some (.inr (8, [.ref (ad 1 0), .ref (ad 3 0), .ref (ad 7 0), .ref (ad 8 0), .ref (ad 9 0), .ref (ad 10 0), .ref (ad 11 0), .ref (ad 14 0), .int (nI (A 9 0)), .int (nI (A 15 0 + 1)), .int (nI (A 18 0))]))))) rfl ?_
  refine r_aload_n dX8_letter_51 rfl 0 rfl ?_
  refine r_get 9 dX8_letter_52 fRX8_182 hG_30 rfl ?_
  refine r_iconst (v := 1) dX8_letter_55 (by decide) ?_
  refine r_isub dX8_letter_56 ?_
  refine r_top (nI (A 15 0)) (nI_m1 _) ?_
  refine r_ireti dX8_letter_57 rfl ?_
  have hold : ∀ x c, G x = some c → x ≠ ad 8 0 → x ≠ ad 0 0 → (va_up (va_up (va_up (va_up (va_up G q_4 (some (.inr (2, [.null, .int 0])))) qa (some (inA 6 (fun _ => 0)))) q_4 (some (ltC qa 0))) (ad 8 0) (some (.inl (.object RX2, 6, .inr (.inr (.inr (.inr (va_up (fun j => if j < A 15 0 then some (ad 27 j) else none) (A 15 0) (some q_4))))))))) (ad 0 0) (some (.inr (8, [.ref (ad 1 0), .ref (ad 3 0), .ref (ad 7 0), .ref (ad 8 0), .ref (ad 9 0), .ref (ad 10 0), .ref (ad 11 0), .ref (ad 14 0), .int (nI (A 9 0)), .int (nI (A 15 0 + 1)), .int (nI (A 18 0))])))) x = some c := by
    intro x c y0 n0 n1
    have m_q_4 : x ≠ q_4 := cx_nf y0 hq_5
    have y1 := up_n (e := some (.inr (2, [.null, .int 0]))) m_q_4 y0
    have m_qa : x ≠ qa := cx_nf y1 hqa
    have y2 := up_n (e := some (inA 6 (fun _ => 0))) m_qa y1
    have y3 := up_n (e := some (ltC qa 0)) m_q_4 y2
    have y4 := up_n (e := some (.inl (.object RX2, 6, .inr (.inr (.inr (.inr (va_up (fun j => if j < A 15 0 then some (ad 27 j) else none) (A 15 0) (some q_4)))))))) n0 y3
    have y5 := up_n (e := some (.inr (8, [.ref (ad 1 0), .ref (ad 3 0), .ref (ad 7 0), .ref (ad 8 0), .ref (ad 9 0), .ref (ad 10 0), .ref (ad 11 0), .ref (ad 14 0), .int (nI (A 9 0)), .int (nI (A 15 0 + 1)), .int (nI (A 18 0))]))) n1 y4
    exact y5
  have hf1 : G q_4 = none := by
    cases hx : G q_4 with
    | none => rfl
    | some c =>
      exfalso
      have y0 := hx
      rw [hq_5] at y0; cases y0
  have hf2 : G qa = none := by
    cases hx : G qa with
    | none => rfl
    | some c =>
      exfalso
      have y0 := hx
      have m0 : qa ≠ q_4 := cx_nf y0 hq_5
      have y1 := up_n (e := some (.inr (2, [.null, .int 0]))) m0 y0
      rw [hqa] at y1; cases y1
  have hne : q_4 ≠ qa := hA_16
  refine ⟨rfl, _, _, g_letter  hW hI hf1 hf2 hne hold hG_27 hG_30 hG_28 hG_29, fun k i hk => ?_, hP, fun f hf => rfl⟩
  exact adx_old (fun e => by rw [e.1, e.2] at hk; exact Nat.lt_irrefl _ hk) (fun e => by rw [e.1, e.2] at hk; exact Nat.lt_irrefl _ hk)
set_option maxRecDepth 100000 in
set_option maxHeartbeats 4000000 in
theorem c_letter_1 {d b0 : Nat} {G : GH} {A B : ST} {ad : AD} (hW : World A B ad G) (hI : Inv A) (hn : ¬ A 15 0 < 6) : CT mX8_letter (d + 8) b0 G [.ref (ad 0 0)] 20 400 (fun _ _ => False) (fun E G' => E = "java/lang/IllegalStateException" ∧ G' = G) := by
  have hb0 := hI.b0
  have hb2 := hI.b2
  have hb9 := hI.b9
  have hb15 := hI.b15
  have hb18 := hI.b18
  refine CT.intro (by decide +kernel) rfl (Nat.le_of_ble_eq_true rfl) ?_
  show WP mX8_letter _ _ _ _ _ 20 400 0 [(0, .ref (ad 0 0))] []
  refine r_aload_n dX8_letter_0 rfl 0 rfl ?_
  refine r_get 9 dX8_letter_1 fRX8_182 (hW.g 0 0 rfl) rfl ?_
  refine r_aload_n dX8_letter_4 rfl 0 rfl ?_
  refine r_get 3 dX8_letter_5 fRX8_33 (hW.g 0 0 rfl) rfl ?_
  refine r_alen (v := nI 6) dX8_letter_8 (hW.g 8 0 rfl) rfl ?_
  refine r_callS (st := []) [.int (nI (A 15 0)), .int (nI 6)] 20 400 dX8_letter_9 kX8_isBelow nX8_isBelow lRX8_104 (c_isB (nI (A 15 0)) 6) rfl rfl (Nat.le_of_ble_eq_true rfl) (Nat.le_refl _) (Nat.le_refl _) (fun _ _ h => h.elim) ?_
  refine cx_det (st2 := [.int (b2i (inB (nI (A 15 0)) 6))]) rfl ?_
  refine r_if_ne 25 dX8_letter_12 (by decide) (fun c_1 => absurd (b2i_z (by rw [inB_nI (by omega) (by decide), decide_eq_false hn])) c_1) (fun c_1 => ?_)
  refine r_throw "java/lang/IllegalStateException" "too many letters" dX8_letter_15 dX8_letter_18 dX8_letter_19 dX8_letter_21 dX8_letter_24 rfl (by decide +kernel) t_212 t_31 (by decide +kernel) exS_at exS_ng (by decide +kernel) (by omega) (by decide) (by decide) (Nat.le_of_ble_eq_true rfl) ?_
  exact ⟨rfl, rfl⟩
set_option maxRecDepth 100000 in
set_option maxHeartbeats 4000000 in
theorem c_data_0 {d b0 : Nat} {G : GH} {A B : ST} {ad : AD} (hW : World A B ad G) (hI : Inv A) (hP : Pag A) {w b : Nat} (hw : w < A 2 0) (hb : b < 256) (hn : A 18 0 < 8) : CT mX8_data (d + 8) b0 G [.ref (ad 0 0), .int (nI w), .int (nI b)] 20 400 (OPo (nI (A 18 0)) (setA (setA (fillA A (A 18 0) w) 20 (A 18 0) b) 18 0 (A 18 0 + 1)) B ad A) (fun _ _ => False) := by
  have hb0 := hI.b0
  have hb2 := hI.b2
  have hb9 := hI.b9
  have hb15 := hI.b15
  have hb18 := hI.b18
  refine CT.intro (by decide +kernel) rfl (Nat.le_of_ble_eq_true rfl) ?_
  show WP mX8_data _ _ _ _ _ 20 400 0 [(0, .ref (ad 0 0)), (1, .int (nI w)), (2, .int (nI b))] []
  have hR_1 := hW.g 0 0 rfl
  have hR_2 := hW.g 9 0 rfl
  refine r_aload_n dX8_data_0 rfl 0 rfl ?_
  refine r_iload_n dX8_data_1 rfl 1 rfl ?_
  refine r_callV (st := []) [.int (nI w)] 20 400 dX8_data_2 kX8_isWord nX8_isWord lRX8_96 hR_1 rfl (c_isW hW hI (nI w)) rfl rfl (Nat.le_of_ble_eq_true rfl) (Nat.le_refl _) (Nat.le_refl _) (fun _ _ h => h.elim) ?_
  refine cx_det (st2 := [.int (b2i (inB (nI w) (A 2 0)))]) rfl ?_
  refine r_if_ne 18 dX8_data_5 (by decide) (fun c_3 => ?_) (fun c_3 => absurd c_3 (b2i_no (inB_k hw (by omega))))
  refine r_iload_n dX8_data_18 rfl 2 rfl ?_
  refine r_if_lt 29 dX8_data_19 (by decide) (fun c_4 => absurd c_4 (nI_pos (by omega))) (fun c_4 => ?_)
  refine r_iload_n dX8_data_22 rfl 2 rfl ?_
  refine r_sipush (v := 255) dX8_data_23 (by decide) ?_
  refine r_icmp_le 39 dX8_data_26 (by decide) (fun c_5 => ?_) (fun c_5 => absurd ((nI_leI (by omega) (by decide)).mpr (show b ≤ 255 by omega)) c_5)
  refine r_aload_n dX8_data_39 rfl 0 rfl ?_
  refine r_get 10 dX8_data_40 fRX8_206 hR_1 rfl ?_
  refine r_aload_n dX8_data_43 rfl 0 rfl ?_
  refine r_get 4 dX8_data_44 fRX8_39 hR_1 rfl ?_
  refine r_alen (v := nI 8) dX8_data_47 hR_2 rfl ?_
  refine r_callS (st := []) [.int (nI (A 18 0)), .int (nI 8)] 20 400 dX8_data_48 kX8_isBelow nX8_isBelow lRX8_104 (c_isB (nI (A 18 0)) 8) rfl rfl (Nat.le_of_ble_eq_true rfl) (Nat.le_refl _) (Nat.le_refl _) (fun _ _ h => h.elim) ?_
  refine cx_det (st2 := [.int (b2i (inB (nI (A 18 0)) 8))]) rfl ?_
  refine r_if_ne 64 dX8_data_51 (by decide) (fun c_6 => ?_) (fun c_6 => absurd c_6 (b2i_no (inB_k hn (by decide))))
  refine r_aload_n dX8_data_64 rfl 0 rfl ?_
  refine r_get 4 dX8_data_65 fRX8_39 hR_1 rfl ?_
  refine r_aload_n dX8_data_68 rfl 0 rfl ?_
  refine r_get 10 dX8_data_69 fRX8_206 hR_1 rfl ?_
  refine r_new [.null, .int 0] 19 398 dX8_data_72 wRX8_37 (by decide) (by decide) (fun q_7 hq_8 hb_9 => ?_)
  have hA_10 : ad 0 0 ≠ q_7 := cx_nf hR_1 hq_8
  have hG_11 := up_n (e := some (.inr (1, [.null, .int 0]))) hA_10 hR_1
  have hA_12 : ad 9 0 ≠ q_7 := cx_nf hR_2 hq_8
  have hG_13 := up_n (e := some (.inr (1, [.null, .int 0]))) hA_12 hR_2
  have hG_14 : (va_up G q_7 (some (.inr (1, [.null, .int 0])))) q_7 = some (.inr (1, [.null, .int 0])) := up_s
  refine r_heap (G' := (va_up G q_7 (some (.inr (1, [.null, .int 0]))))) rfl ?_
  refine r_dup dX8_data_75 rfl ?_
  refine r_iload_n dX8_data_76 rfl 1 rfl ?_
  refine r_iload_n dX8_data_77 rfl 2 rfl ?_
  refine r_callI (st := [.ref q_7, .int (nI (A 18 0)), .ref (ad 9 0)]) [.int (nI w), .int (nI b)] 18 393 dX8_data_78 kX1_init nX1_init rfl rfl lRX8_211 (c_X1_init hG_14 (nI w) (nI b)) rfl rfl (Nat.le_of_ble_eq_true rfl) (by decide) (by decide) (fun _ _ h => h.elim) ?_
  intro r G9 hr
  obtain ⟨rfl, qa, hqa, hbqa, rfl⟩ := hr
  have hA_15 : ad 0 0 ≠ qa := cx_nf hG_11 hqa
  have hG_16 := up_n (e := some (inA 5 (cpy (fun _ => nI w) (fun _ => 0) 5))) hA_15 hG_11
  have hA_17 : ad 9 0 ≠ qa := cx_nf hG_13 hqa
  have hG_18 := up_n (e := some (inA 5 (cpy (fun _ => nI w) (fun _ => 0) 5))) hA_17 hG_13
  have hA_19 : q_7 ≠ qa := cx_nf hG_14 hqa
  have hG_20 := up_n (e := some (inA 5 (cpy (fun _ => nI w) (fun _ => 0) 5))) hA_19 hG_14
  have hG_21 : (va_up (va_up G q_7 (some (.inr (1, [.null, .int 0])))) qa (some (inA 5 (cpy (fun _ => nI w) (fun _ => 0) 5)))) qa = some (inA 5 (cpy (fun _ => nI w) (fun _ => 0) 5)) := up_s
  have hG_22 := up_n (e := some (.inr (1, [.ref qa, .int (nI b)]))) hA_10 hG_16
  have hG_23 := up_n (e := some (.inr (1, [.ref qa, .int (nI b)]))) hA_12 hG_18
  have hG_24 := up_n (e := some (.inr (1, [.ref qa, .int (nI b)]))) (Ne.symm hA_19) hG_21
  have hG_25 : (va_up (va_up (va_up G q_7 (some (.inr (1, [.null, .int 0])))) qa (some (inA 5 (cpy (fun _ => nI w) (fun _ => 0) 5)))) q_7 (some (.inr (1, [.ref qa, .int (nI b)])))) q_7 = some (.inr (1, [.ref qa, .int (nI b)])) := up_s
  refine r_aast RX1 dX8_data_81 hG_23 hG_25 rfl (vp_in_nI hn (by decide)) ?_
  have hG_26 := up_n (e := some (.inl (.object RX1, 8, .inr (.inr (.inr (.inr (va_up (fun j => if j < A 18 0 then some (ad 29 j) else none) (A 18 0) (some q_7)))))))) (hW.ne 0 0 9 0 rfl rfl (Or.inl (by decide))) hG_22
  have hG_27 := up_n (e := some (.inl (.object RX1, 8, .inr (.inr (.inr (.inr (va_up (fun j => if j < A 18 0 then some (ad 29 j) else none) (A 18 0) (some q_7)))))))) (Ne.symm hA_12) hG_25
  have hG_28 := up_n (e := some (.inl (.object RX1, 8, .inr (.inr (.inr (.inr (va_up (fun j => if j < A 18 0 then some (ad 29 j) else none) (A 18 0) (some q_7)))))))) (Ne.symm hA_17) hG_24
  have hG_29 : (va_up (va_up (va_up (va_up G q_7 (some (.inr (1, [.null, .int 0])))) qa (some (inA 5 (cpy (fun _ => nI w) (fun _ => 0) 5)))) q_7 (some (.inr (1, [.ref qa, .int (nI b)])))) (ad 9 0) (some (.inl (.object RX1, 8, .inr (.inr (.inr (.inr (va_up (fun j => if j < A 18 0 then some (ad 29 j) else none) (A 18 0) (some q_7))))))))) (ad 9 0) = some (.inl (.object RX1, 8, .inr (.inr (.inr (.inr (va_up (fun j => if j < A 18 0 then some (ad 29 j) else none) (A 18 0) (some q_7))))))) := up_s
  refine r_heap (G' := (va_up (va_up (va_up (va_up G q_7 (some (.inr (1, [.null, .int 0])))) qa (some (inA 5 (cpy (fun _ => nI w) (fun _ => 0) 5)))) q_7 (some (.inr (1, [.ref qa, .int (nI b)])))) (ad 9 0) (some (.inl (.object RX1, 8, .inr (.inr (.inr (.inr (va_up (fun j => if j < A 18 0 then some (ad 29 j) else none) (A 18 0) (some q_7)))))))))) (by rw [nI_cl (show A 18 0 < 2147483648 by omega)]) ?_
  refine r_aload_n dX8_data_82 rfl 0 rfl ?_
  refine r_dup dX8_data_83 rfl ?_
  refine r_get 10 dX8_data_84 fRX8_206 hG_26 rfl ?_
  refine r_iconst (v := 1) dX8_data_87 (by decide) ?_
  refine r_iadd dX8_data_88 ?_
  refine r_top (nI (A 18 0 + 1)) (nI_1 _) ?_
  refine r_put 10 (.int) dX8_data_89 gRX8_206 hG_26 (Nat.le_of_ble_eq_true rfl) rfl rfl ?_
  have hG_30 := up_n (e := some (.inr (8, [.ref (ad 1 0), .ref (ad 3 0), .ref (ad 7 0), .ref (ad 8 0), .ref (ad 9 0), .ref (ad 10 0), .ref (ad 11 0), .ref (ad 14 0), .int (nI (A 9 0)), .int (nI (A 15 0)), .int (nI (A 18 0 + 1))]))) (Ne.symm (hW.ne 0 0 9 0 rfl rfl (Or.inl (by decide)))) hG_29
  have hG_31 := up_n (e := some (.inr (8, [.ref (ad 1 0), .ref (ad 3 0), .ref (ad 7 0), .ref (ad 8 0), .ref (ad 9 0), .ref (ad 10 0), .ref (ad 11 0), .ref (ad 14 0), .int (nI (A 9 0)), .int (nI (A 15 0)), .int (nI (A 18 0 + 1))]))) (Ne.symm hA_10) hG_27
  have hG_32 := up_n (e := some (.inr (8, [.ref (ad 1 0), .ref (ad 3 0), .ref (ad 7 0), .ref (ad 8 0), .ref (ad 9 0), .ref (ad 10 0), .ref (ad 11 0), .ref (ad 14 0), .int (nI (A 9 0)), .int (nI (A 15 0)), .int (nI (A 18 0 + 1))]))) (Ne.symm hA_15) hG_28
  have hG_33 : (va_up (va_up (va_up (va_up (va_up G q_7 (some (.inr (1, [.null, .int 0])))) qa (some (inA 5 (cpy (fun _ => nI w) (fun _ => 0) 5)))) q_7 (some (.inr (1, [.ref qa, .int (nI b)])))) (ad 9 0) (some (.inl (.object RX1, 8, .inr (.inr (.inr (.inr (va_up (fun j => if j < A 18 0 then some (ad 29 j) else none) (A 18 0) (some q_7))))))))) (ad 0 0) (some (.inr (8, [.ref (ad 1 0), .ref (ad 3 0), .ref (ad 7 0), .ref (ad 8 0), .ref (ad 9 0), .ref (ad 10 0), .ref (ad 11 0), .ref (ad 14 0), .int (nI (A 9 0)), .int (nI (A 15 0)), .int (nI (A 18 0 + 1))])))) (ad 0 0) = some (.inr (8, [.ref (ad 1 0), .ref (ad 3 0), .ref (ad 7 0), .ref (ad 8 0), .ref (ad 9 0), .ref (ad 10 0), .ref (ad 11 0), .ref (ad 14 0), .int (nI (A 9 0)), .int (nI (A 15 0)), .int (nI (A 18 0 + 1))])) := up_s
  refine r_heap (G' := (va_up (va_up (va_up (va_up (va_up G q_7 (some (.inr (1, [.null, .int 0])))) qa (some (inA 5 (cpy (fun _ => nI w) (fun _ => 0) 5)))) q_7 (some (.inr (1, [.ref qa, .int (nI b)])))) (ad 9 0) (some (.inl (.object RX1, 8, .inr (.inr (.inr (.inr (va_up (fun j => if j < A 18 0 then some (ad 29 j) else none) (A 18 0) (some q_7))))))))) (ad 0 0) (some (.inr (8, [.ref (ad 1 0), .ref (ad 3 0), .ref (ad 7 0), .ref (ad 8 0), .ref (ad 9 0), .ref (ad 10 0), .ref (ad 11 0), .ref (ad 14 0), .int (nI (A 9 0)), .int (nI (A 15 0)), .int (nI (A 18 0 + 1))]))))) rfl ?_
  refine r_aload_n dX8_data_92 rfl 0 rfl ?_
  refine r_get 10 dX8_data_93 fRX8_206 hG_33 rfl ?_
  refine r_iconst (v := 1) dX8_data_96 (by decide) ?_
  refine r_isub dX8_data_97 ?_
  refine r_top (nI (A 18 0)) (nI_m1 _) ?_
  refine r_ireti dX8_data_98 rfl ?_
  have hold : ∀ x c, G x = some c → x ≠ ad 9 0 → x ≠ ad 0 0 → (va_up (va_up (va_up (va_up (va_up G q_7 (some (.inr (1, [.null, .int 0])))) qa (some (inA 5 (cpy (fun _ => nI w) (fun _ => 0) 5)))) q_7 (some (.inr (1, [.ref qa, .int (nI b)])))) (ad 9 0) (some (.inl (.object RX1, 8, .inr (.inr (.inr (.inr (va_up (fun j => if j < A 18 0 then some (ad 29 j) else none) (A 18 0) (some q_7))))))))) (ad 0 0) (some (.inr (8, [.ref (ad 1 0), .ref (ad 3 0), .ref (ad 7 0), .ref (ad 8 0), .ref (ad 9 0), .ref (ad 10 0), .ref (ad 11 0), .ref (ad 14 0), .int (nI (A 9 0)), .int (nI (A 15 0)), .int (nI (A 18 0 + 1))])))) x = some c := by
    intro x c y0 n0 n1
    have m_q_7 : x ≠ q_7 := cx_nf y0 hq_8
    have y1 := up_n (e := some (.inr (1, [.null, .int 0]))) m_q_7 y0
    have m_qa : x ≠ qa := cx_nf y1 hqa
    have y2 := up_n (e := some (inA 5 (cpy (fun _ => nI w) (fun _ => 0) 5))) m_qa y1
    have y3 := up_n (e := some (.inr (1, [.ref qa, .int (nI b)]))) m_q_7 y2
    have y4 := up_n (e := some (.inl (.object RX1, 8, .inr (.inr (.inr (.inr (va_up (fun j => if j < A 18 0 then some (ad 29 j) else none) (A 18 0) (some q_7)))))))) n0 y3
    have y5 := up_n (e := some (.inr (8, [.ref (ad 1 0), .ref (ad 3 0), .ref (ad 7 0), .ref (ad 8 0), .ref (ad 9 0), .ref (ad 10 0), .ref (ad 11 0), .ref (ad 14 0), .int (nI (A 9 0)), .int (nI (A 15 0)), .int (nI (A 18 0 + 1))]))) n1 y4
    exact y5
  have hf1 : G q_7 = none := by
    cases hx : G q_7 with
    | none => rfl
    | some c =>
      exfalso
      have y0 := hx
      rw [hq_8] at y0; cases y0
  have hf2 : G qa = none := by
    cases hx : G qa with
    | none => rfl
    | some c =>
      exfalso
      have y0 := hx
      have m0 : qa ≠ q_7 := cx_nf y0 hq_8
      have y1 := up_n (e := some (.inr (1, [.null, .int 0]))) m0 y0
      rw [hqa] at y1; cases y1
  have hne : q_7 ≠ qa := hA_19
  refine ⟨rfl, _, _, g_data  (w := w) (b := b) hW hI hf1 hf2 hne hold hG_30 hG_33 hG_31 hG_32, fun k i hk => ?_, hP, fun f hf => rfl⟩
  exact adx_old (fun e => by rw [e.1, e.2] at hk; exact Nat.lt_irrefl _ hk) (fun e => by rw [e.1, e.2] at hk; exact Nat.lt_irrefl _ hk)
set_option maxRecDepth 100000 in
set_option maxHeartbeats 4000000 in
theorem c_data_1 {d b0 : Nat} {G : GH} {A B : ST} {ad : AD} (hW : World A B ad G) (hI : Inv A) {x y : Int32} (hx : inB x (A 2 0) = false) : CT mX8_data (d + 8) b0 G [.ref (ad 0 0), .int x, .int y] 20 400 (fun _ _ => False) (fun E G' => E = "java/lang/IndexOutOfBoundsException" ∧ G' = G) := by
  have hb0 := hI.b0
  have hb2 := hI.b2
  have hb9 := hI.b9
  have hb15 := hI.b15
  have hb18 := hI.b18
  refine CT.intro (by decide +kernel) rfl (Nat.le_of_ble_eq_true rfl) ?_
  show WP mX8_data _ _ _ _ _ 20 400 0 [(0, .ref (ad 0 0)), (1, .int x), (2, .int y)] []
  refine r_aload_n dX8_data_0 rfl 0 rfl ?_
  refine r_iload_n dX8_data_1 rfl 1 rfl ?_
  refine r_callV (st := []) [.int x] 20 400 dX8_data_2 kX8_isWord nX8_isWord lRX8_96 (hW.g 0 0 rfl) rfl (c_isW hW hI x) rfl rfl (Nat.le_of_ble_eq_true rfl) (Nat.le_refl _) (Nat.le_refl _) (fun _ _ h => h.elim) ?_
  refine cx_det (st2 := [.int (b2i (inB x (A 2 0)))]) rfl ?_
  refine r_if_ne 18 dX8_data_5 (by decide) (fun c_1 => absurd (b2i_z hx) c_1) (fun c_1 => ?_)
  refine r_throw "java/lang/IndexOutOfBoundsException" "no such word" dX8_data_8 dX8_data_11 dX8_data_12 dX8_data_14 dX8_data_17 rfl (by decide +kernel) t_321 t_32 (by decide +kernel) exB_at exB_ng (by decide +kernel) (by omega) (by decide) (by decide) (Nat.le_of_ble_eq_true rfl) ?_
  exact ⟨rfl, rfl⟩
set_option maxRecDepth 100000 in
set_option maxHeartbeats 4000000 in
theorem c_data_2a {d b0 : Nat} {G : GH} {A B : ST} {ad : AD} (hW : World A B ad G) (hI : Inv A) {w : Nat} {y : Int32} (hw : w < A 2 0) (hy : y < 0) : CT mX8_data (d + 8) b0 G [.ref (ad 0 0), .int (nI w), .int y] 20 400 (fun _ _ => False) (fun E G' => E = "java/lang/IllegalArgumentException" ∧ G' = G) := by
  have hb0 := hI.b0
  have hb2 := hI.b2
  have hb9 := hI.b9
  have hb15 := hI.b15
  have hb18 := hI.b18
  refine CT.intro (by decide +kernel) rfl (Nat.le_of_ble_eq_true rfl) ?_
  show WP mX8_data _ _ _ _ _ 20 400 0 [(0, .ref (ad 0 0)), (1, .int (nI w)), (2, .int y)] []
  refine r_aload_n dX8_data_0 rfl 0 rfl ?_
  refine r_iload_n dX8_data_1 rfl 1 rfl ?_
  refine r_callV (st := []) [.int (nI w)] 20 400 dX8_data_2 kX8_isWord nX8_isWord lRX8_96 (hW.g 0 0 rfl) rfl (c_isW hW hI (nI w)) rfl rfl (Nat.le_of_ble_eq_true rfl) (Nat.le_refl _) (Nat.le_refl _) (fun _ _ h => h.elim) ?_
  refine cx_det (st2 := [.int (b2i (inB (nI w) (A 2 0)))]) rfl ?_
  refine r_if_ne 18 dX8_data_5 (by decide) (fun c_1 => ?_) (fun c_1 => absurd c_1 (b2i_no (inB_k hw (by omega))))
  refine r_iload_n dX8_data_18 rfl 2 rfl ?_
  refine r_if_lt 29 dX8_data_19 (by decide) (fun c_2 => ?_) (fun c_2 => absurd hy c_2)
  refine r_throw "java/lang/IllegalArgumentException" "bits out of range" dX8_data_29 dX8_data_32 dX8_data_33 dX8_data_35 dX8_data_38 rfl (by decide +kernel) t_337 t_33 (by decide +kernel) exA_at exA_ng (by decide +kernel) (by omega) (by decide) (by decide) (Nat.le_of_ble_eq_true rfl) ?_
  exact ⟨rfl, rfl⟩
set_option maxRecDepth 100000 in
set_option maxHeartbeats 4000000 in
theorem c_data_2b {d b0 : Nat} {G : GH} {A B : ST} {ad : AD} (hW : World A B ad G) (hI : Inv A) {w : Nat} {y : Int32} (hw : w < A 2 0) (hy : ¬ y < 0) (hy2 : ¬ y ≤ 255) : CT mX8_data (d + 8) b0 G [.ref (ad 0 0), .int (nI w), .int y] 20 400 (fun _ _ => False) (fun E G' => E = "java/lang/IllegalArgumentException" ∧ G' = G) := by
  have hb0 := hI.b0
  have hb2 := hI.b2
  have hb9 := hI.b9
  have hb15 := hI.b15
  have hb18 := hI.b18
  refine CT.intro (by decide +kernel) rfl (Nat.le_of_ble_eq_true rfl) ?_
  show WP mX8_data _ _ _ _ _ 20 400 0 [(0, .ref (ad 0 0)), (1, .int (nI w)), (2, .int y)] []
  refine r_aload_n dX8_data_0 rfl 0 rfl ?_
  refine r_iload_n dX8_data_1 rfl 1 rfl ?_
  refine r_callV (st := []) [.int (nI w)] 20 400 dX8_data_2 kX8_isWord nX8_isWord lRX8_96 (hW.g 0 0 rfl) rfl (c_isW hW hI (nI w)) rfl rfl (Nat.le_of_ble_eq_true rfl) (Nat.le_refl _) (Nat.le_refl _) (fun _ _ h => h.elim) ?_
  refine cx_det (st2 := [.int (b2i (inB (nI w) (A 2 0)))]) rfl ?_
  refine r_if_ne 18 dX8_data_5 (by decide) (fun c_1 => ?_) (fun c_1 => absurd c_1 (b2i_no (inB_k hw (by omega))))
  refine r_iload_n dX8_data_18 rfl 2 rfl ?_
  refine r_if_lt 29 dX8_data_19 (by decide) (fun c_2 => absurd c_2 hy) (fun c_2 => ?_)
  refine r_iload_n dX8_data_22 rfl 2 rfl ?_
  refine r_sipush (v := 255) dX8_data_23 (by decide) ?_
  refine r_icmp_le 39 dX8_data_26 (by decide) (fun c_3 => absurd c_3 hy2) (fun c_3 => ?_)
  refine r_throw "java/lang/IllegalArgumentException" "bits out of range" dX8_data_29 dX8_data_32 dX8_data_33 dX8_data_35 dX8_data_38 rfl (by decide +kernel) t_337 t_33 (by decide +kernel) exA_at exA_ng (by decide +kernel) (by omega) (by decide) (by decide) (Nat.le_of_ble_eq_true rfl) ?_
  exact ⟨rfl, rfl⟩
set_option maxRecDepth 100000 in
set_option maxHeartbeats 4000000 in
theorem c_data_3 {d b0 : Nat} {G : GH} {A B : ST} {ad : AD} (hW : World A B ad G) (hI : Inv A) {w b : Nat} (hw : w < A 2 0) (hb : b < 256) (hn : ¬ A 18 0 < 8) : CT mX8_data (d + 8) b0 G [.ref (ad 0 0), .int (nI w), .int (nI b)] 20 400 (fun _ _ => False) (fun E G' => E = "java/lang/IllegalStateException" ∧ G' = G) := by
  have hb0 := hI.b0
  have hb2 := hI.b2
  have hb9 := hI.b9
  have hb15 := hI.b15
  have hb18 := hI.b18
  refine CT.intro (by decide +kernel) rfl (Nat.le_of_ble_eq_true rfl) ?_
  show WP mX8_data _ _ _ _ _ 20 400 0 [(0, .ref (ad 0 0)), (1, .int (nI w)), (2, .int (nI b))] []
  refine r_aload_n dX8_data_0 rfl 0 rfl ?_
  refine r_iload_n dX8_data_1 rfl 1 rfl ?_
  refine r_callV (st := []) [.int (nI w)] 20 400 dX8_data_2 kX8_isWord nX8_isWord lRX8_96 (hW.g 0 0 rfl) rfl (c_isW hW hI (nI w)) rfl rfl (Nat.le_of_ble_eq_true rfl) (Nat.le_refl _) (Nat.le_refl _) (fun _ _ h => h.elim) ?_
  refine cx_det (st2 := [.int (b2i (inB (nI w) (A 2 0)))]) rfl ?_
  refine r_if_ne 18 dX8_data_5 (by decide) (fun c_1 => ?_) (fun c_1 => absurd c_1 (b2i_no (inB_k hw (by omega))))
  refine r_iload_n dX8_data_18 rfl 2 rfl ?_
  refine r_if_lt 29 dX8_data_19 (by decide) (fun c_2 => absurd c_2 (nI_pos (by omega))) (fun c_2 => ?_)
  refine r_iload_n dX8_data_22 rfl 2 rfl ?_
  refine r_sipush (v := 255) dX8_data_23 (by decide) ?_
  refine r_icmp_le 39 dX8_data_26 (by decide) (fun c_3 => ?_) (fun c_3 => absurd ((nI_leI (by omega) (by decide)).mpr (show b ≤ 255 by omega)) c_3)
  refine r_aload_n dX8_data_39 rfl 0 rfl ?_
  refine r_get 10 dX8_data_40 fRX8_206 (hW.g 0 0 rfl) rfl ?_
  refine r_aload_n dX8_data_43 rfl 0 rfl ?_
  refine r_get 4 dX8_data_44 fRX8_39 (hW.g 0 0 rfl) rfl ?_
  refine r_alen (v := nI 8) dX8_data_47 (hW.g 9 0 rfl) rfl ?_
  refine r_callS (st := []) [.int (nI (A 18 0)), .int (nI 8)] 20 400 dX8_data_48 kX8_isBelow nX8_isBelow lRX8_104 (c_isB (nI (A 18 0)) 8) rfl rfl (Nat.le_of_ble_eq_true rfl) (Nat.le_refl _) (Nat.le_refl _) (fun _ _ h => h.elim) ?_
  refine cx_det (st2 := [.int (b2i (inB (nI (A 18 0)) 8))]) rfl ?_
  refine r_if_ne 64 dX8_data_51 (by decide) (fun c_4 => absurd (b2i_z (by rw [inB_nI (by omega) (by decide), decide_eq_false hn])) c_4) (fun c_4 => ?_)
  refine r_throw "java/lang/IllegalStateException" "too many data" dX8_data_54 dX8_data_57 dX8_data_58 dX8_data_60 dX8_data_63 rfl (by decide +kernel) t_212 t_31 (by decide +kernel) exS_at exS_ng (by decide +kernel) (by omega) (by decide) (by decide) (Nat.le_of_ble_eq_true rfl) ?_
  exact ⟨rfl, rfl⟩
