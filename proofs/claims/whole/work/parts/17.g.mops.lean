set_option maxRecDepth 100000 in
set_option maxHeartbeats 4000000 in
theorem m_word_0 {d b0 : Nat} {G : GH} {A B : ST} {ad : AD} (hW : World A B ad G) (hI : Inv B) (hl : ltB B 1 10 = true) (hn : B 2 0 < 12) : CT mX9_word (d + 4) b0 G [.ref (ad 31 0)] 0 0 (MPo (nI (B 2 0)) 0 (setA (setA (setA (cpyA B 3 (10 * B 2 0) (B 0 0)) 0 0 0) 4 (B 2 0) (B 0 0)) 2 0 (B 2 0 + 1)) A ad) (fun _ _ => False) := by
  have hb0 := hI.b0
  have hb2 := hI.b2
  have hb9 := hI.b9
  have hb15 := hI.b15
  have hb18 := hI.b18
  have hl2 := ltB_len hl
  refine CT.intro (by decide +kernel) rfl (Nat.le_of_ble_eq_true rfl) ?_
  show WP mX9_word _ _ _ _ _ 0 0 0 [(0, .ref (ad 31 0))] []
  refine r_aload_n dX9_word_0 rfl 0 rfl ?_
  refine r_aload_n dX9_word_1 rfl 0 rfl ?_
  refine r_iconst (v := 1) dX9_word_2 (by decide) ?_
  refine r_bipush (v := 10) dX9_word_3 (by decide) ?_
  refine r_callV (st := [.ref (ad 31 0)]) [.int 1, .int 10] 0 0 dX9_word_5 kX9_isAll nX9_isAll lRX9_100 (hW.g 31 0 rfl) rfl (c_isAll hW hI (lo := 1) (hi := 10) (by decide) (by decide)) rfl rfl (Nat.le_of_ble_eq_true rfl) (Nat.le_refl _) (Nat.le_refl _) (fun _ _ h => h.elim) ?_
  refine cx_det (st2 := [.int (b2i (ltB B 1 10)), .ref (ad 31 0)]) rfl ?_
  refine r_if_eq 24 dX9_word_8 (by decide) (fun c_1 => absurd c_1 (b2i_no hl)) (fun c_1 => ?_)
  refine r_aload_n dX9_word_11 rfl 0 rfl ?_
  refine r_get 2 dX9_word_12 fRX9_77 (hW.g 31 0 rfl) rfl ?_
  refine r_bipush (v := 12) dX9_word_15 (by decide) ?_
  refine r_icmp_ge 24 dX9_word_17 (by decide) (fun c_2 => absurd c_2 (fun q => Nat.not_le.mpr hn (ni_le (a := 12) (by decide) (by omega) q))) (fun c_2 => ?_)
  refine r_iconst (v := 0) dX9_word_20 (by decide) ?_
  refine r_goto 25 dX9_word_21 (by decide) ?_
  refine r_callV (st := []) [.int 0] 0 0 dX9_word_25 kX9_goes nX9_goes lRX9_92 (hW.g 31 0 rfl) rfl (c_goes hW 0) rfl rfl (Nat.le_of_ble_eq_true rfl) (Nat.le_refl _) (Nat.le_refl _) (fun _ _ h => h.elim) ?_
  refine cx_det (st2 := [.int 1]) rfl ?_
  have hW_3 : World A (setA B 26 0 0) ad (va_up G (ad 31 0) (some (.inr (9, (mF B ad).set 26 (.int (nI 0)))))) := m_s26 hW 0
  refine r_heap (G' := va_up G (ad 31 0) (some (.inr (9, (mF B ad).set 26 (.int (nI 0)))))) rfl ?_
  refine r_if_ne 33 dX9_word_28 (by decide) (fun c_4 => ?_) (fun c_4 => absurd c_4 (by decide))
  refine r_aload_n dX9_word_33 rfl 0 rfl ?_
  refine r_get 4 dX9_word_34 fRX9_16 (hW_3.g 31 0 rfl) rfl ?_
  refine r_aload_n dX9_word_37 rfl 0 rfl ?_
  refine r_get 2 dX9_word_38 fRX9_77 (hW_3.g 31 0 rfl) rfl ?_
  refine r_top (nI (B 2 0)) rfl ?_
  refine r_aload_n dX9_word_41 rfl 0 rfl ?_
  refine r_aload_n dX9_word_42 rfl 0 rfl ?_
  refine r_get 3 dX9_word_43 fRX9_13 (hW_3.g 31 0 rfl) rfl ?_
  refine r_bipush (v := 10) dX9_word_46 (by decide) ?_
  refine r_aload_n dX9_word_48 rfl 0 rfl ?_
  refine r_get 2 dX9_word_49 fRX9_77 (hW_3.g 31 0 rfl) rfl ?_
  refine r_top (nI (B 2 0)) rfl ?_
  refine r_imul dX9_word_52 ?_
  refine r_top (nI (10 * B 2 0)) (pk_mul 10 _) ?_
  refine r_callV (st := [.int (nI (B 2 0)), .ref (ad 32 4)]) [.ref (ad 32 3), .int (nI (10 * B 2 0))] 0 0 dX9_word_53 kX9_takes nX9_takes lRX9_104 (hW_3.g 31 0 rfl) rfl (c_takes3 hW_3 hb0 hI.ch.1 (by show 10 * B 2 0 + B 0 0 ≤ 120; omega)) rfl rfl (Nat.le_of_ble_eq_true rfl) (Nat.le_refl _) (Nat.le_refl _) (fun _ _ h => h.elim) ?_
  refine cx_val (st2 := [.int (nI (B 0 0)), .int (nI (B 2 0)), .ref (ad 32 4)]) rfl ?_
  intro G_5 hW_6
  have hW_7 : World A (setA (cpyA (setA B 26 0 0) 3 (10 * B 2 0) (B 0 0)) 0 0 0) ad G_5 := hW_6
  refine r_iast dX9_word_56 (hW_7.g 32 4 rfl) (vp_in_nI (by omega) (by decide)) ?_
  have hW_8 : World A (setA (setA (cpyA (setA B 26 0 0) 3 (10 * B 2 0) (B 0 0)) 0 0 0) 4 (B 2 0) (B 0 0)) ad (va_up G_5 (ad 32 4) (some (.inl (.int, 12, .inl (upd (rg (setA (cpyA (setA B 26 0 0) 3 (10 * B 2 0) (B 0 0)) 0 0 0) 4 0 12) (B 2 0) (nI (B 0 0))))))) := m_a4 hW_7 (by omega)
  refine r_heap (G' := va_up G_5 (ad 32 4) (some (.inl (.int, 12, .inl (upd (rg (setA (cpyA (setA B 26 0 0) 3 (10 * B 2 0) (B 0 0)) 0 0 0) 4 0 12) (B 2 0) (nI (B 0 0))))))) (by rw [nI_cl (by omega)] <;> rfl) ?_
  refine r_aload_n dX9_word_57 rfl 0 rfl ?_
  refine r_dup dX9_word_58 rfl ?_
  refine r_get 2 dX9_word_59 fRX9_77 (hW_8.g 31 0 rfl) rfl ?_
  refine r_top (nI (B 2 0)) rfl ?_
  refine r_iconst (v := 1) dX9_word_62 (by decide) ?_
  refine r_iadd dX9_word_63 ?_
  refine r_top (nI (B 2 0 + 1)) (nI_1 _) ?_
  refine r_put 2 (.int) dX9_word_64 gRX9_77 (hW_8.g 31 0 rfl) (Nat.le_of_ble_eq_true rfl) rfl rfl ?_
  have hW_9 : World A (setA (setA (setA (cpyA (setA B 26 0 0) 3 (10 * B 2 0) (B 0 0)) 0 0 0) 4 (B 2 0) (B 0 0)) 2 0 (B 2 0 + 1)) ad (va_up (va_up G_5 (ad 32 4) (some (.inl (.int, 12, .inl (upd (rg (setA (cpyA (setA B 26 0 0) 3 (10 * B 2 0) (B 0 0)) 0 0 0) 4 0 12) (B 2 0) (nI (B 0 0))))))) (ad 31 0) (some (.inr (9, (mF (setA (setA (cpyA (setA B 26 0 0) 3 (10 * B 2 0) (B 0 0)) 0 0 0) 4 (B 2 0) (B 0 0)) ad).set 2 (.int (nI (B 2 0 + 1))))))) := m_s2 hW_8 (B 2 0 + 1)
  refine r_heap (G' := va_up (va_up G_5 (ad 32 4) (some (.inl (.int, 12, .inl (upd (rg (setA (cpyA (setA B 26 0 0) 3 (10 * B 2 0) (B 0 0)) 0 0 0) 4 0 12) (B 2 0) (nI (B 0 0))))))) (ad 31 0) (some (.inr (9, (mF (setA (setA (cpyA (setA B 26 0 0) 3 (10 * B 2 0) (B 0 0)) 0 0 0) 4 (B 2 0) (B 0 0)) ad).set 2 (.int (nI (B 2 0 + 1))))))) rfl ?_
  refine r_aload_n dX9_word_67 rfl 0 rfl ?_
  refine r_get 2 dX9_word_68 fRX9_77 (hW_9.g 31 0 rfl) rfl ?_
  refine r_top (nI (B 2 0 + 1)) rfl ?_
  refine r_iconst (v := 1) dX9_word_71 (by decide) ?_
  refine r_isub dX9_word_72 ?_
  refine r_top (nI (B 2 0)) (nI_m1 _) ?_
  refine r_ireti dX9_word_73 rfl ?_
  exact ⟨rfl, (setA (setA (setA (cpyA (setA B 26 0 0) 3 (10 * B 2 0) (B 0 0)) 0 0 0) 4 (B 2 0) (B 0 0)) 2 0 (B 2 0 + 1)), hW_9, rfl, (scg (scg (scg (ccg (s26 (fun f _ => rfl))))))⟩
set_option maxRecDepth 100000 in
set_option maxHeartbeats 4000000 in
theorem m_word_1a {d b0 : Nat} {G : GH} {A B : ST} {ad : AD} (hW : World A B ad G) (hI : Inv B) (hl : ltB B 1 10 = false) : CT mX9_word (d + 4) b0 G [.ref (ad 31 0)] 0 0 (MPo 0 1 B A ad) (fun _ _ => False) := by
  have hb0 := hI.b0
  have hb2 := hI.b2
  have hb9 := hI.b9
  have hb15 := hI.b15
  have hb18 := hI.b18
  refine CT.intro (by decide +kernel) rfl (Nat.le_of_ble_eq_true rfl) ?_
  show WP mX9_word _ _ _ _ _ 0 0 0 [(0, .ref (ad 31 0))] []
  refine r_aload_n dX9_word_0 rfl 0 rfl ?_
  refine r_aload_n dX9_word_1 rfl 0 rfl ?_
  refine r_iconst (v := 1) dX9_word_2 (by decide) ?_
  refine r_bipush (v := 10) dX9_word_3 (by decide) ?_
  refine r_callV (st := [.ref (ad 31 0)]) [.int 1, .int 10] 0 0 dX9_word_5 kX9_isAll nX9_isAll lRX9_100 (hW.g 31 0 rfl) rfl (c_isAll hW hI (lo := 1) (hi := 10) (by decide) (by decide)) rfl rfl (Nat.le_of_ble_eq_true rfl) (Nat.le_refl _) (Nat.le_refl _) (fun _ _ h => h.elim) ?_
  refine cx_det (st2 := [.int (b2i (ltB B 1 10)), .ref (ad 31 0)]) rfl ?_
  refine r_if_eq 24 dX9_word_8 (by decide) (fun c_1 => ?_) (fun c_1 => absurd (b2i_z hl) c_1)
  refine r_iconst (v := 1) dX9_word_24 (by decide) ?_
  refine r_callV (st := []) [.int 1] 0 0 dX9_word_25 kX9_goes nX9_goes lRX9_92 (hW.g 31 0 rfl) rfl (c_goes hW 1) rfl rfl (Nat.le_of_ble_eq_true rfl) (Nat.le_refl _) (Nat.le_refl _) (fun _ _ h => h.elim) ?_
  refine cx_det (st2 := [.int 0]) rfl ?_
  have hW_2 : World A (setA B 26 0 1) ad (va_up G (ad 31 0) (some (.inr (9, (mF B ad).set 26 (.int (nI 1)))))) := m_s26 hW 1
  refine r_heap (G' := va_up G (ad 31 0) (some (.inr (9, (mF B ad).set 26 (.int (nI 1)))))) rfl ?_
  refine r_if_ne 33 dX9_word_28 (by decide) (fun c_3 => absurd (by decide) c_3) (fun c_3 => ?_)
  refine r_iconst (v := 0) dX9_word_31 (by decide) ?_
  refine r_ireti dX9_word_32 rfl ?_
  exact ⟨rfl, (setA B 26 0 1), hW_2, rfl, (s26 (fun f _ => rfl))⟩
set_option maxRecDepth 100000 in
set_option maxHeartbeats 4000000 in
theorem m_word_1b {d b0 : Nat} {G : GH} {A B : ST} {ad : AD} (hW : World A B ad G) (hI : Inv B) (hl : ltB B 1 10 = true) (hn : ¬ B 2 0 < 12) : CT mX9_word (d + 4) b0 G [.ref (ad 31 0)] 0 0 (MPo 0 1 B A ad) (fun _ _ => False) := by
  have hb0 := hI.b0
  have hb2 := hI.b2
  have hb9 := hI.b9
  have hb15 := hI.b15
  have hb18 := hI.b18
  refine CT.intro (by decide +kernel) rfl (Nat.le_of_ble_eq_true rfl) ?_
  show WP mX9_word _ _ _ _ _ 0 0 0 [(0, .ref (ad 31 0))] []
  refine r_aload_n dX9_word_0 rfl 0 rfl ?_
  refine r_aload_n dX9_word_1 rfl 0 rfl ?_
  refine r_iconst (v := 1) dX9_word_2 (by decide) ?_
  refine r_bipush (v := 10) dX9_word_3 (by decide) ?_
  refine r_callV (st := [.ref (ad 31 0)]) [.int 1, .int 10] 0 0 dX9_word_5 kX9_isAll nX9_isAll lRX9_100 (hW.g 31 0 rfl) rfl (c_isAll hW hI (lo := 1) (hi := 10) (by decide) (by decide)) rfl rfl (Nat.le_of_ble_eq_true rfl) (Nat.le_refl _) (Nat.le_refl _) (fun _ _ h => h.elim) ?_
  refine cx_det (st2 := [.int (b2i (ltB B 1 10)), .ref (ad 31 0)]) rfl ?_
  refine r_if_eq 24 dX9_word_8 (by decide) (fun c_1 => absurd c_1 (b2i_no hl)) (fun c_1 => ?_)
  refine r_aload_n dX9_word_11 rfl 0 rfl ?_
  refine r_get 2 dX9_word_12 fRX9_77 (hW.g 31 0 rfl) rfl ?_
  refine r_bipush (v := 12) dX9_word_15 (by decide) ?_
  refine r_icmp_ge 24 dX9_word_17 (by decide) (fun c_2 => ?_) (fun c_2 => absurd (show (12 : Int32) ≤ nI (B 2 0) by rw [show B 2 0 = 12 by omega]; decide) c_2)
  refine r_iconst (v := 1) dX9_word_24 (by decide) ?_
  refine r_callV (st := []) [.int 1] 0 0 dX9_word_25 kX9_goes nX9_goes lRX9_92 (hW.g 31 0 rfl) rfl (c_goes hW 1) rfl rfl (Nat.le_of_ble_eq_true rfl) (Nat.le_refl _) (Nat.le_refl _) (fun _ _ h => h.elim) ?_
  refine cx_det (st2 := [.int 0]) rfl ?_
  have hW_3 : World A (setA B 26 0 1) ad (va_up G (ad 31 0) (some (.inr (9, (mF B ad).set 26 (.int (nI 1)))))) := m_s26 hW 1
  refine r_heap (G' := va_up G (ad 31 0) (some (.inr (9, (mF B ad).set 26 (.int (nI 1)))))) rfl ?_
  refine r_if_ne 33 dX9_word_28 (by decide) (fun c_4 => absurd (by decide) c_4) (fun c_4 => ?_)
  refine r_iconst (v := 0) dX9_word_31 (by decide) ?_
  refine r_ireti dX9_word_32 rfl ?_
  exact ⟨rfl, (setA B 26 0 1), hW_3, rfl, (s26 (fun f _ => rfl))⟩
set_option maxRecDepth 100000 in
set_option maxHeartbeats 4000000 in
theorem m_form_0a {d b0 : Nat} {G : GH} {A B : ST} {ad : AD} (hW : World A B ad G) (hI : Inv B) {l g : Nat} (hl : l < 3) (hg : g < 8) (hb : ltB B 0 4 = true) : CT mX9_form (d + 4) b0 G [.ref (ad 31 0), .int (nI l), .int (-1), .int (nI g)] 0 0 (MPo (nI (B 0 0)) 0 (setA (setA (cpyA B 5 (4 * (l * 8 + g)) (B 0 0)) 0 0 0) 6 (l * 8 + g) (B 0 0)) A ad) (fun _ _ => False) := by
  have hb0 := hI.b0
  have hb2 := hI.b2
  have hb9 := hI.b9
  have hb15 := hI.b15
  have hb18 := hI.b18
  have hl2 := ltB_len hb
  refine CT.intro (by decide +kernel) rfl (Nat.le_of_ble_eq_true rfl) ?_
  show WP mX9_form _ _ _ _ _ 0 0 0 [(0, .ref (ad 31 0)), (1, .int (nI l)), (2, .int (-1)), (3, .int (nI g))] []
  refine r_iload_n dX9_form_0 rfl 1 rfl ?_
  refine r_callS (st := []) [.int (nI l)] 0 0 dX9_form_1 kX9_isLanguage nX9_isLanguage lRX9_108 (c_mLang (nI l)) rfl rfl (Nat.le_of_ble_eq_true rfl) (Nat.le_refl _) (Nat.le_refl _) (fun _ _ h => h.elim) ?_
  refine cx_det (st2 := [.int (b2i (inB (nI l) 3))]) rfl ?_
  refine r_if_eq 24 dX9_form_4 (by decide) (fun c_1 => absurd c_1 (b2i_no (inB_k hl (by decide)))) (fun c_1 => ?_)
  refine r_iload_n dX9_form_7 rfl 2 rfl ?_
  refine r_iconst (v := (-1)) dX9_form_8 (by decide) ?_
  refine r_icmp_eq 20 dX9_form_9 (by decide) (fun c_2 => ?_) (fun c_2 => absurd (by decide) c_2)
  refine r_iconst (v := 1) dX9_form_20 (by decide) ?_
  refine r_goto 25 dX9_form_21 (by decide) ?_
  refine r_istore [(4, .int 1), (0, .ref (ad 31 0)), (1, .int (nI l)), (2, .int (-1)), (3, .int (nI g))] dX9_form_25 (by decide) rfl ?_
  refine r_iload_n dX9_form_27 rfl 3 rfl ?_
  refine r_iconst (v := (-1)) dX9_form_28 (by decide) ?_
  refine r_icmp_ne 41 dX9_form_29 (by decide) (fun c_3 => absurd (by decide) c_3) (fun c_3 => ?_)
  refine r_aload_n dX9_form_32 rfl 1 rfl ?_
  refine r_iconst (v := 0) dX9_form_33 (by decide) ?_
  refine r_iconst (v := 4) dX9_form_34 (by decide) ?_
  refine r_callV (st := []) [.int 0, .int 4] 0 0 dX9_form_35 kX9_isAll nX9_isAll lRX9_100 (hW.g 31 0 rfl) rfl (c_isAll hW hI (lo := 0) (hi := 4) (by decide) (by decide)) rfl rfl (Nat.le_of_ble_eq_true rfl) (Nat.le_refl _) (Nat.le_refl _) (fun _ _ h => h.elim) ?_
  refine cx_det (st2 := [.int (b2i (ltB B 0 4))]) rfl ?_
  refine r_goto 48 dX9_form_38 (by decide) ?_
  refine r_istore [(5, .int (b2i (ltB B 0 4))), (4, .int 1), (0, .ref (ad 31 0)), (1, .int (nI l)), (2, .int (-1)), (3, .int (nI g))] dX9_form_48 (by decide) rfl ?_
  refine r_aload_n dX9_form_50 rfl 2 rfl ?_
  refine r_iload dX9_form_51 1 rfl ?_
  refine r_if_ne 60 dX9_form_53 (by decide) (fun c_5 => ?_) (fun c_5 => absurd c_5 (by decide))
  refine r_iload_n dX9_form_60 rfl 5 rfl ?_
  refine r_iconst (v := 0) dX9_form_61 (by decide) ?_
  refine r_bipush (v := 7) dX9_form_62 (by decide) ?_
  refine r_callS (st := [.ref (ad 31 0)]) [.int (nI g), .int 0, .int 7] 0 0 dX9_form_64 kX9_isIn nX9_isIn lRX9_73 (c_in (n := 8) (nI g) (by decide) (by decide)) rfl rfl (Nat.le_of_ble_eq_true rfl) (Nat.le_refl _) (Nat.le_refl _) (fun _ _ h => h.elim) ?_
  refine cx_det (st2 := [.int (b2i (inB (nI g) 8)), .ref (ad 31 0)]) rfl ?_
  refine r_if_ne 74 dX9_form_67 (by decide) (fun c_6 => ?_) (fun c_6 => absurd c_6 (b2i_no (inB_k hg (by decide))))
  refine r_iload dX9_form_74 0 rfl ?_
  refine r_if_eq 83 dX9_form_76 (by decide) (fun c_7 => absurd c_7 (b2i_no hb)) (fun c_7 => ?_)
  refine r_iconst (v := 0) dX9_form_79 (by decide) ?_
  refine r_goto 84 dX9_form_80 (by decide) ?_
  refine r_callV (st := []) [.int 0] 0 0 dX9_form_84 kX9_goes nX9_goes lRX9_92 (hW.g 31 0 rfl) rfl (c_goes hW 0) rfl rfl (Nat.le_of_ble_eq_true rfl) (Nat.le_refl _) (Nat.le_refl _) (fun _ _ h => h.elim) ?_
  refine cx_det (st2 := [.int 1]) rfl ?_
  have hW_8 : World A (setA B 26 0 0) ad (va_up G (ad 31 0) (some (.inr (9, (mF B ad).set 26 (.int (nI 0)))))) := m_s26 hW 0
  refine r_heap (G' := va_up G (ad 31 0) (some (.inr (9, (mF B ad).set 26 (.int (nI 0)))))) rfl ?_
  refine r_if_ne 92 dX9_form_87 (by decide) (fun c_9 => ?_) (fun c_9 => absurd c_9 (by decide))
  refine r_bipush (v := 8) dX9_form_92 (by decide) ?_
  refine r_iload_n dX9_form_94 rfl 3 rfl ?_
  refine r_imul dX9_form_95 ?_
  refine r_top (nI (l * 8)) (by rw [show l * 8 = 8 * l by omega]; exact pk_mul 8 l) ?_
  refine r_iload_n dX9_form_96 rfl 5 rfl ?_
  refine r_iadd dX9_form_97 ?_
  refine r_top (nI (l * 8 + g)) (nI_add _ _) ?_
  refine r_istore [(6, .int (nI (l * 8 + g))), (5, .int (b2i (ltB B 0 4))), (4, .int 1), (0, .ref (ad 31 0)), (1, .int (nI l)), (2, .int (-1)), (3, .int (nI g))] dX9_form_98 (by decide) rfl ?_
  refine r_iload_n dX9_form_100 rfl 5 rfl ?_
  refine r_iconst (v := (-1)) dX9_form_101 (by decide) ?_
  refine r_icmp_ne 132 dX9_form_102 (by decide) (fun c_11 => absurd (by decide) c_11) (fun c_11 => ?_)
  refine r_aload_n dX9_form_105 rfl 3 rfl ?_
  refine r_get 6 dX9_form_106 fRX9_23 (hW_8.g 31 0 rfl) rfl ?_
  refine r_iload dX9_form_109 0 rfl ?_
  refine r_aload_n dX9_form_111 rfl 3 rfl ?_
  refine r_aload_n dX9_form_112 rfl 3 rfl ?_
  refine r_get 5 dX9_form_113 fRX9_20 (hW_8.g 31 0 rfl) rfl ?_
  refine r_iconst (v := 4) dX9_form_116 (by decide) ?_
  refine r_iload dX9_form_117 0 rfl ?_
  refine r_imul dX9_form_119 ?_
  refine r_top (nI (4 * (l * 8 + g))) (pk_mul 4 _) ?_
  refine r_callV (st := [.int (nI (l * 8 + g)), .ref (ad 32 6)]) [.ref (ad 32 5), .int (nI (4 * (l * 8 + g)))] 0 0 dX9_form_120 kX9_takes nX9_takes lRX9_104 (hW_8.g 31 0 rfl) rfl (c_takes5 hW_8 hb0 hI.ch.1 (by show 4 * (l * 8 + g) + B 0 0 ≤ 96; omega)) rfl rfl (Nat.le_of_ble_eq_true rfl) (Nat.le_refl _) (Nat.le_refl _) (fun _ _ h => h.elim) ?_
  refine cx_val (st2 := [.int (nI (B 0 0)), .int (nI (l * 8 + g)), .ref (ad 32 6)]) rfl ?_
  intro G_12 hW_13
  have hW_14 : World A (setA (cpyA (setA B 26 0 0) 5 (4 * (l * 8 + g)) (B 0 0)) 0 0 0) ad G_12 := hW_13
  refine r_iast dX9_form_123 (hW_14.g 32 6 rfl) (vp_in_nI (by omega) (by decide)) ?_
  have hW_15 : World A (setA (setA (cpyA (setA B 26 0 0) 5 (4 * (l * 8 + g)) (B 0 0)) 0 0 0) 6 (l * 8 + g) (B 0 0)) ad (va_up G_12 (ad 32 6) (some (.inl (.int, 24, .inl (upd (rg (setA (cpyA (setA B 26 0 0) 5 (4 * (l * 8 + g)) (B 0 0)) 0 0 0) 6 0 24) (l * 8 + g) (nI (B 0 0))))))) := m_a6 hW_14 (by omega)
  refine r_heap (G' := va_up G_12 (ad 32 6) (some (.inl (.int, 24, .inl (upd (rg (setA (cpyA (setA B 26 0 0) 5 (4 * (l * 8 + g)) (B 0 0)) 0 0 0) 6 0 24) (l * 8 + g) (nI (B 0 0))))))) (by rw [nI_cl (by omega)] <;> rfl) ?_
  refine r_aload_n dX9_form_124 rfl 3 rfl ?_
  refine r_get 6 dX9_form_125 fRX9_23 (hW_15.g 31 0 rfl) rfl ?_
  refine r_iload dX9_form_128 0 rfl ?_
  refine r_iald dX9_form_130 (hW_15.g 32 6 rfl) (vp_in_nI (by omega) (by decide)) ?_
  refine r_top (nI (B 0 0)) (by rw [nI_cl (by omega)]; exact (rgm (by omega)).trans (congrArg nI setA_s)) ?_
  refine r_ireti dX9_form_131 rfl ?_
  exact ⟨rfl, (setA (setA (cpyA (setA B 26 0 0) 5 (4 * (l * 8 + g)) (B 0 0)) 0 0 0) 6 (l * 8 + g) (B 0 0)), hW_15, rfl, (scg (scg (ccg (s26 (fun f _ => rfl)))))⟩
set_option maxRecDepth 100000 in
set_option maxHeartbeats 4000000 in
theorem m_form_0b {d b0 : Nat} {G : GH} {A B : ST} {ad : AD} (hW : World A B ad G) (hI : Inv B) {l w g : Nat} (hl : l < 3) (hw : w < B 2 0) (hg : g < 8) (hb : ltB B 1 10 = true) : CT mX9_form (d + 4) b0 G [.ref (ad 31 0), .int (nI l), .int (nI w), .int (nI g)] 0 0 (MPo (nI (B 0 0)) 0 (setA (setA (cpyA B 7 (10 * oix l w g) (B 0 0)) 0 0 0) 8 (oix l w g) (B 0 0)) A ad) (fun _ _ => False) := by
  have hb0 := hI.b0
  have hb2 := hI.b2
  have hb9 := hI.b9
  have hb15 := hI.b15
  have hb18 := hI.b18
  have hl2 := ltB_len hb
  have hox : oix l w g < 288 := by show (w * 3 + l) * 8 + g < 288; omega
  refine CT.intro (by decide +kernel) rfl (Nat.le_of_ble_eq_true rfl) ?_
  show WP mX9_form _ _ _ _ _ 0 0 0 [(0, .ref (ad 31 0)), (1, .int (nI l)), (2, .int (nI w)), (3, .int (nI g))] []
  refine r_iload_n dX9_form_0 rfl 1 rfl ?_
  refine r_callS (st := []) [.int (nI l)] 0 0 dX9_form_1 kX9_isLanguage nX9_isLanguage lRX9_108 (c_mLang (nI l)) rfl rfl (Nat.le_of_ble_eq_true rfl) (Nat.le_refl _) (Nat.le_refl _) (fun _ _ h => h.elim) ?_
  refine cx_det (st2 := [.int (b2i (inB (nI l) 3))]) rfl ?_
  refine r_if_eq 24 dX9_form_4 (by decide) (fun c_1 => absurd c_1 (b2i_no (inB_k hl (by decide)))) (fun c_1 => ?_)
  refine r_iload_n dX9_form_7 rfl 2 rfl ?_
  refine r_iconst (v := (-1)) dX9_form_8 (by decide) ?_
  refine r_icmp_eq 20 dX9_form_9 (by decide) (fun c_2 => absurd c_2 (nI_nm1 (by omega))) (fun c_2 => ?_)
  refine r_aload_n dX9_form_12 rfl 0 rfl ?_
  refine r_iload_n dX9_form_13 rfl 2 rfl ?_
  refine r_callV (st := []) [.int (nI w)] 0 0 dX9_form_14 kX9_isWord nX9_isWord lRX9_111 (hW.g 31 0 rfl) rfl (c_X9_isWord hW hb2 (nI w)) rfl rfl (Nat.le_of_ble_eq_true rfl) (Nat.le_refl _) (Nat.le_refl _) (fun _ _ h => h.elim) ?_
  refine cx_det (st2 := [.int (b2i (inB (nI w) (B 2 0)))]) rfl ?_
  refine r_if_eq 24 dX9_form_17 (by decide) (fun c_3 => absurd c_3 (b2i_no (inB_k hw (by omega)))) (fun c_3 => ?_)
  refine r_iconst (v := 1) dX9_form_20 (by decide) ?_
  refine r_goto 25 dX9_form_21 (by decide) ?_
  refine r_istore [(4, .int 1), (0, .ref (ad 31 0)), (1, .int (nI l)), (2, .int (nI w)), (3, .int (nI g))] dX9_form_25 (by decide) rfl ?_
  refine r_iload_n dX9_form_27 rfl 3 rfl ?_
  refine r_iconst (v := (-1)) dX9_form_28 (by decide) ?_
  refine r_icmp_ne 41 dX9_form_29 (by decide) (fun c_4 => ?_) (fun c_4 => absurd c_4 (nI_nm1 (by omega)))
  refine r_aload_n dX9_form_41 rfl 1 rfl ?_
  refine r_iconst (v := 1) dX9_form_42 (by decide) ?_
  refine r_bipush (v := 10) dX9_form_43 (by decide) ?_
  refine r_callV (st := []) [.int 1, .int 10] 0 0 dX9_form_45 kX9_isAll nX9_isAll lRX9_100 (hW.g 31 0 rfl) rfl (c_isAll hW hI (lo := 1) (hi := 10) (by decide) (by decide)) rfl rfl (Nat.le_of_ble_eq_true rfl) (Nat.le_refl _) (Nat.le_refl _) (fun _ _ h => h.elim) ?_
  refine cx_det (st2 := [.int (b2i (ltB B 1 10))]) rfl ?_
  refine r_istore [(5, .int (b2i (ltB B 1 10))), (4, .int 1), (0, .ref (ad 31 0)), (1, .int (nI l)), (2, .int (nI w)), (3, .int (nI g))] dX9_form_48 (by decide) rfl ?_
  refine r_aload_n dX9_form_50 rfl 2 rfl ?_
  refine r_iload dX9_form_51 1 rfl ?_
  refine r_if_ne 60 dX9_form_53 (by decide) (fun c_6 => ?_) (fun c_6 => absurd c_6 (by decide))
  refine r_iload_n dX9_form_60 rfl 5 rfl ?_
  refine r_iconst (v := 0) dX9_form_61 (by decide) ?_
  refine r_bipush (v := 7) dX9_form_62 (by decide) ?_
  refine r_callS (st := [.ref (ad 31 0)]) [.int (nI g), .int 0, .int 7] 0 0 dX9_form_64 kX9_isIn nX9_isIn lRX9_73 (c_in (n := 8) (nI g) (by decide) (by decide)) rfl rfl (Nat.le_of_ble_eq_true rfl) (Nat.le_refl _) (Nat.le_refl _) (fun _ _ h => h.elim) ?_
  refine cx_det (st2 := [.int (b2i (inB (nI g) 8)), .ref (ad 31 0)]) rfl ?_
  refine r_if_ne 74 dX9_form_67 (by decide) (fun c_7 => ?_) (fun c_7 => absurd c_7 (b2i_no (inB_k hg (by decide))))
  refine r_iload dX9_form_74 0 rfl ?_
  refine r_if_eq 83 dX9_form_76 (by decide) (fun c_8 => absurd c_8 (b2i_no hb)) (fun c_8 => ?_)
  refine r_iconst (v := 0) dX9_form_79 (by decide) ?_
  refine r_goto 84 dX9_form_80 (by decide) ?_
  refine r_callV (st := []) [.int 0] 0 0 dX9_form_84 kX9_goes nX9_goes lRX9_92 (hW.g 31 0 rfl) rfl (c_goes hW 0) rfl rfl (Nat.le_of_ble_eq_true rfl) (Nat.le_refl _) (Nat.le_refl _) (fun _ _ h => h.elim) ?_
  refine cx_det (st2 := [.int 1]) rfl ?_
  have hW_9 : World A (setA B 26 0 0) ad (va_up G (ad 31 0) (some (.inr (9, (mF B ad).set 26 (.int (nI 0)))))) := m_s26 hW 0
  refine r_heap (G' := va_up G (ad 31 0) (some (.inr (9, (mF B ad).set 26 (.int (nI 0)))))) rfl ?_
  refine r_if_ne 92 dX9_form_87 (by decide) (fun c_10 => ?_) (fun c_10 => absurd c_10 (by decide))
  refine r_bipush (v := 8) dX9_form_92 (by decide) ?_
  refine r_iload_n dX9_form_94 rfl 3 rfl ?_
  refine r_imul dX9_form_95 ?_
  refine r_top (nI (l * 8)) (by rw [show l * 8 = 8 * l by omega]; exact pk_mul 8 l) ?_
  refine r_iload_n dX9_form_96 rfl 5 rfl ?_
  refine r_iadd dX9_form_97 ?_
  refine r_top (nI (l * 8 + g)) (nI_add _ _) ?_
  refine r_istore [(6, .int (nI (l * 8 + g))), (5, .int (b2i (ltB B 1 10))), (4, .int 1), (0, .ref (ad 31 0)), (1, .int (nI l)), (2, .int (nI w)), (3, .int (nI g))] dX9_form_98 (by decide) rfl ?_
  refine r_iload_n dX9_form_100 rfl 5 rfl ?_
  refine r_iconst (v := (-1)) dX9_form_101 (by decide) ?_
  refine r_icmp_ne 132 dX9_form_102 (by decide) (fun c_12 => ?_) (fun c_12 => absurd c_12 (nI_nm1 (by omega)))
  refine r_bipush (v := 24) dX9_form_132 (by decide) ?_
  refine r_iload_n dX9_form_134 rfl 5 rfl ?_
  refine r_imul dX9_form_135 ?_
  refine r_top (nI (24 * w)) (pk_mul 24 w) ?_
  refine r_iload dX9_form_136 0 rfl ?_
  refine r_iadd dX9_form_138 ?_
  refine r_top (nI (oix l w g)) (by rw [nI_add]; exact congrArg nI (by show 24 * w + (l * 8 + g) = (w * 3 + l) * 8 + g; omega)) ?_
  refine r_istore [(7, .int (nI (oix l w g))), (6, .int (nI (l * 8 + g))), (5, .int (b2i (ltB B 1 10))), (4, .int 1), (0, .ref (ad 31 0)), (1, .int (nI l)), (2, .int (nI w)), (3, .int (nI g))] dX9_form_139 (by decide) rfl ?_
  refine r_aload_n dX9_form_141 rfl 4 rfl ?_
  refine r_get 8 dX9_form_142 fRX9_29 (hW_9.g 31 0 rfl) rfl ?_
  refine r_iload dX9_form_145 0 rfl ?_
  refine r_aload_n dX9_form_147 rfl 4 rfl ?_
  refine r_aload_n dX9_form_148 rfl 4 rfl ?_
  refine r_get 7 dX9_form_149 fRX9_26 (hW_9.g 31 0 rfl) rfl ?_
  refine r_bipush (v := 10) dX9_form_152 (by decide) ?_
  refine r_iload dX9_form_154 0 rfl ?_
  refine r_imul dX9_form_156 ?_
  refine r_top (nI (10 * oix l w g)) (pk_mul 10 _) ?_
  refine r_callV (st := [.int (nI (oix l w g)), .ref (ad 32 8)]) [.ref (ad 32 7), .int (nI (10 * oix l w g))] 0 0 dX9_form_157 kX9_takes nX9_takes lRX9_104 (hW_9.g 31 0 rfl) rfl (c_takes7 hW_9 hb0 hI.ch.1 (by show 10 * oix l w g + B 0 0 ≤ 2880; omega)) rfl rfl (Nat.le_of_ble_eq_true rfl) (Nat.le_refl _) (Nat.le_refl _) (fun _ _ h => h.elim) ?_
  refine cx_val (st2 := [.int (nI (B 0 0)), .int (nI (oix l w g)), .ref (ad 32 8)]) rfl ?_
  intro G_14 hW_15
  have hW_16 : World A (setA (cpyA (setA B 26 0 0) 7 (10 * oix l w g) (B 0 0)) 0 0 0) ad G_14 := hW_15
  refine r_iast dX9_form_160 (hW_16.g 32 8 rfl) (vp_in_nI hox (by decide)) ?_
  have hW_17 : World A (setA (setA (cpyA (setA B 26 0 0) 7 (10 * oix l w g) (B 0 0)) 0 0 0) 8 (oix l w g) (B 0 0)) ad (va_up G_14 (ad 32 8) (some (.inl (.int, 288, .inl (upd (rg (setA (cpyA (setA B 26 0 0) 7 (10 * oix l w g) (B 0 0)) 0 0 0) 8 0 288) (oix l w g) (nI (B 0 0))))))) := m_a8 hW_16 hox
  refine r_heap (G' := va_up G_14 (ad 32 8) (some (.inl (.int, 288, .inl (upd (rg (setA (cpyA (setA B 26 0 0) 7 (10 * oix l w g) (B 0 0)) 0 0 0) 8 0 288) (oix l w g) (nI (B 0 0))))))) (by rw [nI_cl (by omega)] <;> rfl) ?_
  refine r_aload_n dX9_form_161 rfl 4 rfl ?_
  refine r_get 8 dX9_form_162 fRX9_29 (hW_17.g 31 0 rfl) rfl ?_
  refine r_iload dX9_form_165 0 rfl ?_
  refine r_iald dX9_form_167 (hW_17.g 32 8 rfl) (vp_in_nI hox (by decide)) ?_
  refine r_top (nI (B 0 0)) (by rw [nI_cl (by omega)]; exact (rgm hox).trans (congrArg nI setA_s)) ?_
  refine r_ireti dX9_form_168 rfl ?_
  exact ⟨rfl, (setA (setA (cpyA (setA B 26 0 0) 7 (10 * oix l w g) (B 0 0)) 0 0 0) 8 (oix l w g) (B 0 0)), hW_17, rfl, (scg (scg (ccg (s26 (fun f _ => rfl)))))⟩
set_option maxRecDepth 100000 in
set_option maxHeartbeats 4000000 in
theorem m_form_1a {d b0 : Nat} {G : GH} {A B : ST} {ad : AD} (hW : World A B ad G) (hI : Inv B) {x y z : Int32} (hx : inB x 3 = false) : CT mX9_form (d + 4) b0 G [.ref (ad 31 0), .int x, .int y, .int z] 0 0 (MPo 0 1 B A ad) (fun _ _ => False) := by
  have hb0 := hI.b0
  have hb2 := hI.b2
  have hb9 := hI.b9
  have hb15 := hI.b15
  have hb18 := hI.b18
  refine CT.intro (by decide +kernel) rfl (Nat.le_of_ble_eq_true rfl) ?_
  show WP mX9_form _ _ _ _ _ 0 0 0 [(0, .ref (ad 31 0)), (1, .int x), (2, .int y), (3, .int z)] []
  refine r_iload_n dX9_form_0 rfl 1 rfl ?_
  refine r_callS (st := []) [.int x] 0 0 dX9_form_1 kX9_isLanguage nX9_isLanguage lRX9_108 (c_mLang x) rfl rfl (Nat.le_of_ble_eq_true rfl) (Nat.le_refl _) (Nat.le_refl _) (fun _ _ h => h.elim) ?_
  refine cx_det (st2 := [.int (b2i (inB x 3))]) rfl ?_
  refine r_if_eq 24 dX9_form_4 (by decide) (fun c_1 => ?_) (fun c_1 => absurd (b2i_z hx) c_1)
  refine r_iconst (v := 0) dX9_form_24 (by decide) ?_
  refine r_istore [(4, .int 0), (0, .ref (ad 31 0)), (1, .int x), (2, .int y), (3, .int z)] dX9_form_25 (by decide) rfl ?_
  refine r_iload_n dX9_form_27 rfl 3 rfl ?_
  refine r_iconst (v := (-1)) dX9_form_28 (by decide) ?_
  refine r_icmp_ne 41 dX9_form_29 (by decide) (fun c_2 => ?_) (fun c_2 => ?_)
  · refine r_aload_n dX9_form_41 rfl 1 rfl ?_
    refine r_iconst (v := 1) dX9_form_42 (by decide) ?_
    refine r_bipush (v := 10) dX9_form_43 (by decide) ?_
    refine r_callV (st := []) [.int 1, .int 10] 0 0 dX9_form_45 kX9_isAll nX9_isAll lRX9_100 (hW.g 31 0 rfl) rfl (c_isAll hW hI (lo := 1) (hi := 10) (by decide) (by decide)) rfl rfl (Nat.le_of_ble_eq_true rfl) (Nat.le_refl _) (Nat.le_refl _) (fun _ _ h => h.elim) ?_
    refine cx_det (st2 := [.int (b2i (ltB B 1 10))]) rfl ?_
    refine r_istore [(5, .int (b2i (ltB B 1 10))), (4, .int 0), (0, .ref (ad 31 0)), (1, .int x), (2, .int y), (3, .int z)] dX9_form_48 (by decide) rfl ?_
    refine r_aload_n dX9_form_50 rfl 2 rfl ?_
    refine r_iload dX9_form_51 1 rfl ?_
    refine r_if_ne 60 dX9_form_53 (by decide) (fun c_4 => absurd (by decide) c_4) (fun c_4 => ?_)
    refine r_iconst (v := 1) dX9_form_56 (by decide) ?_
    refine r_goto 84 dX9_form_57 (by decide) ?_
    refine r_callV (st := []) [.int 1] 0 0 dX9_form_84 kX9_goes nX9_goes lRX9_92 (hW.g 31 0 rfl) rfl (c_goes hW 1) rfl rfl (Nat.le_of_ble_eq_true rfl) (Nat.le_refl _) (Nat.le_refl _) (fun _ _ h => h.elim) ?_
    refine cx_det (st2 := [.int 0]) rfl ?_
    have hW_5 : World A (setA B 26 0 1) ad (va_up G (ad 31 0) (some (.inr (9, (mF B ad).set 26 (.int (nI 1)))))) := m_s26 hW 1
    refine r_heap (G' := va_up G (ad 31 0) (some (.inr (9, (mF B ad).set 26 (.int (nI 1)))))) rfl ?_
    refine r_if_ne 92 dX9_form_87 (by decide) (fun c_6 => absurd (by decide) c_6) (fun c_6 => ?_)
    refine r_iconst (v := 0) dX9_form_90 (by decide) ?_
    refine r_ireti dX9_form_91 rfl ?_
    exact ⟨rfl, (setA B 26 0 1), hW_5, rfl, (s26 (fun f _ => rfl))⟩
  · refine r_aload_n dX9_form_32 rfl 1 rfl ?_
    refine r_iconst (v := 0) dX9_form_33 (by decide) ?_
    refine r_iconst (v := 4) dX9_form_34 (by decide) ?_
    refine r_callV (st := []) [.int 0, .int 4] 0 0 dX9_form_35 kX9_isAll nX9_isAll lRX9_100 (hW.g 31 0 rfl) rfl (c_isAll hW hI (lo := 0) (hi := 4) (by decide) (by decide)) rfl rfl (Nat.le_of_ble_eq_true rfl) (Nat.le_refl _) (Nat.le_refl _) (fun _ _ h => h.elim) ?_
    refine cx_det (st2 := [.int (b2i (ltB B 0 4))]) rfl ?_
    refine r_goto 48 dX9_form_38 (by decide) ?_
    refine r_istore [(5, .int (b2i (ltB B 0 4))), (4, .int 0), (0, .ref (ad 31 0)), (1, .int x), (2, .int y), (3, .int z)] dX9_form_48 (by decide) rfl ?_
    refine r_aload_n dX9_form_50 rfl 2 rfl ?_
    refine r_iload dX9_form_51 1 rfl ?_
    refine r_if_ne 60 dX9_form_53 (by decide) (fun c_8 => absurd (by decide) c_8) (fun c_8 => ?_)
    refine r_iconst (v := 1) dX9_form_56 (by decide) ?_
    refine r_goto 84 dX9_form_57 (by decide) ?_
    refine r_callV (st := []) [.int 1] 0 0 dX9_form_84 kX9_goes nX9_goes lRX9_92 (hW.g 31 0 rfl) rfl (c_goes hW 1) rfl rfl (Nat.le_of_ble_eq_true rfl) (Nat.le_refl _) (Nat.le_refl _) (fun _ _ h => h.elim) ?_
    refine cx_det (st2 := [.int 0]) rfl ?_
    have hW_9 : World A (setA B 26 0 1) ad (va_up G (ad 31 0) (some (.inr (9, (mF B ad).set 26 (.int (nI 1)))))) := m_s26 hW 1
    refine r_heap (G' := va_up G (ad 31 0) (some (.inr (9, (mF B ad).set 26 (.int (nI 1)))))) rfl ?_
    refine r_if_ne 92 dX9_form_87 (by decide) (fun c_10 => absurd (by decide) c_10) (fun c_10 => ?_)
    refine r_iconst (v := 0) dX9_form_90 (by decide) ?_
    refine r_ireti dX9_form_91 rfl ?_
    exact ⟨rfl, (setA B 26 0 1), hW_9, rfl, (s26 (fun f _ => rfl))⟩
set_option maxRecDepth 100000 in
set_option maxHeartbeats 4000000 in
theorem m_form_1b {d b0 : Nat} {G : GH} {A B : ST} {ad : AD} (hW : World A B ad G) (hI : Inv B) {l : Nat} {y z : Int32} (hl : l < 3) (hy1 : ¬ y = -1) (hy : inB y (B 2 0) = false) : CT mX9_form (d + 4) b0 G [.ref (ad 31 0), .int (nI l), .int y, .int z] 0 0 (MPo 0 1 B A ad) (fun _ _ => False) := by
  have hb0 := hI.b0
  have hb2 := hI.b2
  have hb9 := hI.b9
  have hb15 := hI.b15
  have hb18 := hI.b18
  refine CT.intro (by decide +kernel) rfl (Nat.le_of_ble_eq_true rfl) ?_
  show WP mX9_form _ _ _ _ _ 0 0 0 [(0, .ref (ad 31 0)), (1, .int (nI l)), (2, .int y), (3, .int z)] []
  refine r_iload_n dX9_form_0 rfl 1 rfl ?_
  refine r_callS (st := []) [.int (nI l)] 0 0 dX9_form_1 kX9_isLanguage nX9_isLanguage lRX9_108 (c_mLang (nI l)) rfl rfl (Nat.le_of_ble_eq_true rfl) (Nat.le_refl _) (Nat.le_refl _) (fun _ _ h => h.elim) ?_
  refine cx_det (st2 := [.int (b2i (inB (nI l) 3))]) rfl ?_
  refine r_if_eq 24 dX9_form_4 (by decide) (fun c_1 => absurd c_1 (b2i_no (inB_k hl (by decide)))) (fun c_1 => ?_)
  refine r_iload_n dX9_form_7 rfl 2 rfl ?_
  refine r_iconst (v := (-1)) dX9_form_8 (by decide) ?_
  refine r_icmp_eq 20 dX9_form_9 (by decide) (fun c_2 => absurd c_2 hy1) (fun c_2 => ?_)
  refine r_aload_n dX9_form_12 rfl 0 rfl ?_
  refine r_iload_n dX9_form_13 rfl 2 rfl ?_
  refine r_callV (st := []) [.int y] 0 0 dX9_form_14 kX9_isWord nX9_isWord lRX9_111 (hW.g 31 0 rfl) rfl (c_X9_isWord hW hb2 y) rfl rfl (Nat.le_of_ble_eq_true rfl) (Nat.le_refl _) (Nat.le_refl _) (fun _ _ h => h.elim) ?_
  refine cx_det (st2 := [.int (b2i (inB y (B 2 0)))]) rfl ?_
  refine r_if_eq 24 dX9_form_17 (by decide) (fun c_3 => ?_) (fun c_3 => absurd (b2i_z hy) c_3)
  refine r_iconst (v := 0) dX9_form_24 (by decide) ?_
  refine r_istore [(4, .int 0), (0, .ref (ad 31 0)), (1, .int (nI l)), (2, .int y), (3, .int z)] dX9_form_25 (by decide) rfl ?_
  refine r_iload_n dX9_form_27 rfl 3 rfl ?_
  refine r_iconst (v := (-1)) dX9_form_28 (by decide) ?_
  refine r_icmp_ne 41 dX9_form_29 (by decide) (fun c_4 => ?_) (fun c_4 => absurd c_4 hy1)
  refine r_aload_n dX9_form_41 rfl 1 rfl ?_
  refine r_iconst (v := 1) dX9_form_42 (by decide) ?_
  refine r_bipush (v := 10) dX9_form_43 (by decide) ?_
  refine r_callV (st := []) [.int 1, .int 10] 0 0 dX9_form_45 kX9_isAll nX9_isAll lRX9_100 (hW.g 31 0 rfl) rfl (c_isAll hW hI (lo := 1) (hi := 10) (by decide) (by decide)) rfl rfl (Nat.le_of_ble_eq_true rfl) (Nat.le_refl _) (Nat.le_refl _) (fun _ _ h => h.elim) ?_
  refine cx_det (st2 := [.int (b2i (ltB B 1 10))]) rfl ?_
  refine r_istore [(5, .int (b2i (ltB B 1 10))), (4, .int 0), (0, .ref (ad 31 0)), (1, .int (nI l)), (2, .int y), (3, .int z)] dX9_form_48 (by decide) rfl ?_
  refine r_aload_n dX9_form_50 rfl 2 rfl ?_
  refine r_iload dX9_form_51 1 rfl ?_
  refine r_if_ne 60 dX9_form_53 (by decide) (fun c_6 => absurd (by decide) c_6) (fun c_6 => ?_)
  refine r_iconst (v := 1) dX9_form_56 (by decide) ?_
  refine r_goto 84 dX9_form_57 (by decide) ?_
  refine r_callV (st := []) [.int 1] 0 0 dX9_form_84 kX9_goes nX9_goes lRX9_92 (hW.g 31 0 rfl) rfl (c_goes hW 1) rfl rfl (Nat.le_of_ble_eq_true rfl) (Nat.le_refl _) (Nat.le_refl _) (fun _ _ h => h.elim) ?_
  refine cx_det (st2 := [.int 0]) rfl ?_
  have hW_7 : World A (setA B 26 0 1) ad (va_up G (ad 31 0) (some (.inr (9, (mF B ad).set 26 (.int (nI 1)))))) := m_s26 hW 1
  refine r_heap (G' := va_up G (ad 31 0) (some (.inr (9, (mF B ad).set 26 (.int (nI 1)))))) rfl ?_
  refine r_if_ne 92 dX9_form_87 (by decide) (fun c_8 => absurd (by decide) c_8) (fun c_8 => ?_)
  refine r_iconst (v := 0) dX9_form_90 (by decide) ?_
  refine r_ireti dX9_form_91 rfl ?_
  exact ⟨rfl, (setA B 26 0 1), hW_7, rfl, (s26 (fun f _ => rfl))⟩
set_option maxRecDepth 100000 in
set_option maxHeartbeats 4000000 in
theorem m_form_2a {d b0 : Nat} {G : GH} {A B : ST} {ad : AD} (hW : World A B ad G) (hI : Inv B) {l : Nat} {z : Int32} (hl : l < 3) (hz : inB z 8 = false) : CT mX9_form (d + 4) b0 G [.ref (ad 31 0), .int (nI l), .int (-1), .int z] 0 0 (MPo 0 2 B A ad) (fun _ _ => False) := by
  have hb0 := hI.b0
  have hb2 := hI.b2
  have hb9 := hI.b9
  have hb15 := hI.b15
  have hb18 := hI.b18
  refine CT.intro (by decide +kernel) rfl (Nat.le_of_ble_eq_true rfl) ?_
  show WP mX9_form _ _ _ _ _ 0 0 0 [(0, .ref (ad 31 0)), (1, .int (nI l)), (2, .int (-1)), (3, .int z)] []
  refine r_iload_n dX9_form_0 rfl 1 rfl ?_
  refine r_callS (st := []) [.int (nI l)] 0 0 dX9_form_1 kX9_isLanguage nX9_isLanguage lRX9_108 (c_mLang (nI l)) rfl rfl (Nat.le_of_ble_eq_true rfl) (Nat.le_refl _) (Nat.le_refl _) (fun _ _ h => h.elim) ?_
  refine cx_det (st2 := [.int (b2i (inB (nI l) 3))]) rfl ?_
  refine r_if_eq 24 dX9_form_4 (by decide) (fun c_1 => absurd c_1 (b2i_no (inB_k hl (by decide)))) (fun c_1 => ?_)
  refine r_iload_n dX9_form_7 rfl 2 rfl ?_
  refine r_iconst (v := (-1)) dX9_form_8 (by decide) ?_
  refine r_icmp_eq 20 dX9_form_9 (by decide) (fun c_2 => ?_) (fun c_2 => absurd (by decide) c_2)
  refine r_iconst (v := 1) dX9_form_20 (by decide) ?_
  refine r_goto 25 dX9_form_21 (by decide) ?_
  refine r_istore [(4, .int 1), (0, .ref (ad 31 0)), (1, .int (nI l)), (2, .int (-1)), (3, .int z)] dX9_form_25 (by decide) rfl ?_
  refine r_iload_n dX9_form_27 rfl 3 rfl ?_
  refine r_iconst (v := (-1)) dX9_form_28 (by decide) ?_
  refine r_icmp_ne 41 dX9_form_29 (by decide) (fun c_3 => absurd (by decide) c_3) (fun c_3 => ?_)
  refine r_aload_n dX9_form_32 rfl 1 rfl ?_
  refine r_iconst (v := 0) dX9_form_33 (by decide) ?_
  refine r_iconst (v := 4) dX9_form_34 (by decide) ?_
  refine r_callV (st := []) [.int 0, .int 4] 0 0 dX9_form_35 kX9_isAll nX9_isAll lRX9_100 (hW.g 31 0 rfl) rfl (c_isAll hW hI (lo := 0) (hi := 4) (by decide) (by decide)) rfl rfl (Nat.le_of_ble_eq_true rfl) (Nat.le_refl _) (Nat.le_refl _) (fun _ _ h => h.elim) ?_
  refine cx_det (st2 := [.int (b2i (ltB B 0 4))]) rfl ?_
  refine r_goto 48 dX9_form_38 (by decide) ?_
  refine r_istore [(5, .int (b2i (ltB B 0 4))), (4, .int 1), (0, .ref (ad 31 0)), (1, .int (nI l)), (2, .int (-1)), (3, .int z)] dX9_form_48 (by decide) rfl ?_
  refine r_aload_n dX9_form_50 rfl 2 rfl ?_
  refine r_iload dX9_form_51 1 rfl ?_
  refine r_if_ne 60 dX9_form_53 (by decide) (fun c_5 => ?_) (fun c_5 => absurd c_5 (by decide))
  refine r_iload_n dX9_form_60 rfl 5 rfl ?_
  refine r_iconst (v := 0) dX9_form_61 (by decide) ?_
  refine r_bipush (v := 7) dX9_form_62 (by decide) ?_
  refine r_callS (st := [.ref (ad 31 0)]) [.int z, .int 0, .int 7] 0 0 dX9_form_64 kX9_isIn nX9_isIn lRX9_73 (c_in (n := 8) z (by decide) (by decide)) rfl rfl (Nat.le_of_ble_eq_true rfl) (Nat.le_refl _) (Nat.le_refl _) (fun _ _ h => h.elim) ?_
  refine cx_det (st2 := [.int (b2i (inB z 8)), .ref (ad 31 0)]) rfl ?_
  refine r_if_ne 74 dX9_form_67 (by decide) (fun c_6 => absurd (b2i_z hz) c_6) (fun c_6 => ?_)
  refine r_iconst (v := 2) dX9_form_70 (by decide) ?_
  refine r_goto 84 dX9_form_71 (by decide) ?_
  refine r_callV (st := []) [.int 2] 0 0 dX9_form_84 kX9_goes nX9_goes lRX9_92 (hW.g 31 0 rfl) rfl (c_goes hW 2) rfl rfl (Nat.le_of_ble_eq_true rfl) (Nat.le_refl _) (Nat.le_refl _) (fun _ _ h => h.elim) ?_
  refine cx_det (st2 := [.int 0]) rfl ?_
  have hW_7 : World A (setA B 26 0 2) ad (va_up G (ad 31 0) (some (.inr (9, (mF B ad).set 26 (.int (nI 2)))))) := m_s26 hW 2
  refine r_heap (G' := va_up G (ad 31 0) (some (.inr (9, (mF B ad).set 26 (.int (nI 2)))))) rfl ?_
  refine r_if_ne 92 dX9_form_87 (by decide) (fun c_8 => absurd (by decide) c_8) (fun c_8 => ?_)
  refine r_iconst (v := 0) dX9_form_90 (by decide) ?_
  refine r_ireti dX9_form_91 rfl ?_
  exact ⟨rfl, (setA B 26 0 2), hW_7, rfl, (s26 (fun f _ => rfl))⟩
set_option maxRecDepth 100000 in
set_option maxHeartbeats 4000000 in
theorem m_form_2b {d b0 : Nat} {G : GH} {A B : ST} {ad : AD} (hW : World A B ad G) (hI : Inv B) {l w : Nat} {z : Int32} (hl : l < 3) (hw : w < B 2 0) (hz : inB z 8 = false) : CT mX9_form (d + 4) b0 G [.ref (ad 31 0), .int (nI l), .int (nI w), .int z] 0 0 (MPo 0 2 B A ad) (fun _ _ => False) := by
  have hb0 := hI.b0
  have hb2 := hI.b2
  have hb9 := hI.b9
  have hb15 := hI.b15
  have hb18 := hI.b18
  refine CT.intro (by decide +kernel) rfl (Nat.le_of_ble_eq_true rfl) ?_
  show WP mX9_form _ _ _ _ _ 0 0 0 [(0, .ref (ad 31 0)), (1, .int (nI l)), (2, .int (nI w)), (3, .int z)] []
  refine r_iload_n dX9_form_0 rfl 1 rfl ?_
  refine r_callS (st := []) [.int (nI l)] 0 0 dX9_form_1 kX9_isLanguage nX9_isLanguage lRX9_108 (c_mLang (nI l)) rfl rfl (Nat.le_of_ble_eq_true rfl) (Nat.le_refl _) (Nat.le_refl _) (fun _ _ h => h.elim) ?_
  refine cx_det (st2 := [.int (b2i (inB (nI l) 3))]) rfl ?_
  refine r_if_eq 24 dX9_form_4 (by decide) (fun c_1 => absurd c_1 (b2i_no (inB_k hl (by decide)))) (fun c_1 => ?_)
  refine r_iload_n dX9_form_7 rfl 2 rfl ?_
  refine r_iconst (v := (-1)) dX9_form_8 (by decide) ?_
  refine r_icmp_eq 20 dX9_form_9 (by decide) (fun c_2 => absurd c_2 (nI_nm1 (by omega))) (fun c_2 => ?_)
  refine r_aload_n dX9_form_12 rfl 0 rfl ?_
  refine r_iload_n dX9_form_13 rfl 2 rfl ?_
  refine r_callV (st := []) [.int (nI w)] 0 0 dX9_form_14 kX9_isWord nX9_isWord lRX9_111 (hW.g 31 0 rfl) rfl (c_X9_isWord hW hb2 (nI w)) rfl rfl (Nat.le_of_ble_eq_true rfl) (Nat.le_refl _) (Nat.le_refl _) (fun _ _ h => h.elim) ?_
  refine cx_det (st2 := [.int (b2i (inB (nI w) (B 2 0)))]) rfl ?_
  refine r_if_eq 24 dX9_form_17 (by decide) (fun c_3 => absurd c_3 (b2i_no (inB_k hw (by omega)))) (fun c_3 => ?_)
  refine r_iconst (v := 1) dX9_form_20 (by decide) ?_
  refine r_goto 25 dX9_form_21 (by decide) ?_
  refine r_istore [(4, .int 1), (0, .ref (ad 31 0)), (1, .int (nI l)), (2, .int (nI w)), (3, .int z)] dX9_form_25 (by decide) rfl ?_
  refine r_iload_n dX9_form_27 rfl 3 rfl ?_
  refine r_iconst (v := (-1)) dX9_form_28 (by decide) ?_
  refine r_icmp_ne 41 dX9_form_29 (by decide) (fun c_4 => ?_) (fun c_4 => absurd c_4 (nI_nm1 (by omega)))
  refine r_aload_n dX9_form_41 rfl 1 rfl ?_
  refine r_iconst (v := 1) dX9_form_42 (by decide) ?_
  refine r_bipush (v := 10) dX9_form_43 (by decide) ?_
  refine r_callV (st := []) [.int 1, .int 10] 0 0 dX9_form_45 kX9_isAll nX9_isAll lRX9_100 (hW.g 31 0 rfl) rfl (c_isAll hW hI (lo := 1) (hi := 10) (by decide) (by decide)) rfl rfl (Nat.le_of_ble_eq_true rfl) (Nat.le_refl _) (Nat.le_refl _) (fun _ _ h => h.elim) ?_
  refine cx_det (st2 := [.int (b2i (ltB B 1 10))]) rfl ?_
  refine r_istore [(5, .int (b2i (ltB B 1 10))), (4, .int 1), (0, .ref (ad 31 0)), (1, .int (nI l)), (2, .int (nI w)), (3, .int z)] dX9_form_48 (by decide) rfl ?_
  refine r_aload_n dX9_form_50 rfl 2 rfl ?_
  refine r_iload dX9_form_51 1 rfl ?_
  refine r_if_ne 60 dX9_form_53 (by decide) (fun c_6 => ?_) (fun c_6 => absurd c_6 (by decide))
  refine r_iload_n dX9_form_60 rfl 5 rfl ?_
  refine r_iconst (v := 0) dX9_form_61 (by decide) ?_
  refine r_bipush (v := 7) dX9_form_62 (by decide) ?_
  refine r_callS (st := [.ref (ad 31 0)]) [.int z, .int 0, .int 7] 0 0 dX9_form_64 kX9_isIn nX9_isIn lRX9_73 (c_in (n := 8) z (by decide) (by decide)) rfl rfl (Nat.le_of_ble_eq_true rfl) (Nat.le_refl _) (Nat.le_refl _) (fun _ _ h => h.elim) ?_
  refine cx_det (st2 := [.int (b2i (inB z 8)), .ref (ad 31 0)]) rfl ?_
  refine r_if_ne 74 dX9_form_67 (by decide) (fun c_7 => absurd (b2i_z hz) c_7) (fun c_7 => ?_)
  refine r_iconst (v := 2) dX9_form_70 (by decide) ?_
  refine r_goto 84 dX9_form_71 (by decide) ?_
  refine r_callV (st := []) [.int 2] 0 0 dX9_form_84 kX9_goes nX9_goes lRX9_92 (hW.g 31 0 rfl) rfl (c_goes hW 2) rfl rfl (Nat.le_of_ble_eq_true rfl) (Nat.le_refl _) (Nat.le_refl _) (fun _ _ h => h.elim) ?_
  refine cx_det (st2 := [.int 0]) rfl ?_
  have hW_8 : World A (setA B 26 0 2) ad (va_up G (ad 31 0) (some (.inr (9, (mF B ad).set 26 (.int (nI 2)))))) := m_s26 hW 2
  refine r_heap (G' := va_up G (ad 31 0) (some (.inr (9, (mF B ad).set 26 (.int (nI 2)))))) rfl ?_
  refine r_if_ne 92 dX9_form_87 (by decide) (fun c_9 => absurd (by decide) c_9) (fun c_9 => ?_)
  refine r_iconst (v := 0) dX9_form_90 (by decide) ?_
  refine r_ireti dX9_form_91 rfl ?_
  exact ⟨rfl, (setA B 26 0 2), hW_8, rfl, (s26 (fun f _ => rfl))⟩
set_option maxRecDepth 100000 in
set_option maxHeartbeats 4000000 in
theorem m_form_3a {d b0 : Nat} {G : GH} {A B : ST} {ad : AD} (hW : World A B ad G) (hI : Inv B) {l g : Nat} (hl : l < 3) (hg : g < 8) (hb : ltB B 0 4 = false) : CT mX9_form (d + 4) b0 G [.ref (ad 31 0), .int (nI l), .int (-1), .int (nI g)] 0 0 (MPo 0 3 B A ad) (fun _ _ => False) := by
  have hb0 := hI.b0
  have hb2 := hI.b2
  have hb9 := hI.b9
  have hb15 := hI.b15
  have hb18 := hI.b18
  refine CT.intro (by decide +kernel) rfl (Nat.le_of_ble_eq_true rfl) ?_
  show WP mX9_form _ _ _ _ _ 0 0 0 [(0, .ref (ad 31 0)), (1, .int (nI l)), (2, .int (-1)), (3, .int (nI g))] []
  refine r_iload_n dX9_form_0 rfl 1 rfl ?_
  refine r_callS (st := []) [.int (nI l)] 0 0 dX9_form_1 kX9_isLanguage nX9_isLanguage lRX9_108 (c_mLang (nI l)) rfl rfl (Nat.le_of_ble_eq_true rfl) (Nat.le_refl _) (Nat.le_refl _) (fun _ _ h => h.elim) ?_
  refine cx_det (st2 := [.int (b2i (inB (nI l) 3))]) rfl ?_
  refine r_if_eq 24 dX9_form_4 (by decide) (fun c_1 => absurd c_1 (b2i_no (inB_k hl (by decide)))) (fun c_1 => ?_)
  refine r_iload_n dX9_form_7 rfl 2 rfl ?_
  refine r_iconst (v := (-1)) dX9_form_8 (by decide) ?_
  refine r_icmp_eq 20 dX9_form_9 (by decide) (fun c_2 => ?_) (fun c_2 => absurd (by decide) c_2)
  refine r_iconst (v := 1) dX9_form_20 (by decide) ?_
  refine r_goto 25 dX9_form_21 (by decide) ?_
  refine r_istore [(4, .int 1), (0, .ref (ad 31 0)), (1, .int (nI l)), (2, .int (-1)), (3, .int (nI g))] dX9_form_25 (by decide) rfl ?_
  refine r_iload_n dX9_form_27 rfl 3 rfl ?_
  refine r_iconst (v := (-1)) dX9_form_28 (by decide) ?_
  refine r_icmp_ne 41 dX9_form_29 (by decide) (fun c_3 => absurd (by decide) c_3) (fun c_3 => ?_)
  refine r_aload_n dX9_form_32 rfl 1 rfl ?_
  refine r_iconst (v := 0) dX9_form_33 (by decide) ?_
  refine r_iconst (v := 4) dX9_form_34 (by decide) ?_
  refine r_callV (st := []) [.int 0, .int 4] 0 0 dX9_form_35 kX9_isAll nX9_isAll lRX9_100 (hW.g 31 0 rfl) rfl (c_isAll hW hI (lo := 0) (hi := 4) (by decide) (by decide)) rfl rfl (Nat.le_of_ble_eq_true rfl) (Nat.le_refl _) (Nat.le_refl _) (fun _ _ h => h.elim) ?_
  refine cx_det (st2 := [.int (b2i (ltB B 0 4))]) rfl ?_
  refine r_goto 48 dX9_form_38 (by decide) ?_
  refine r_istore [(5, .int (b2i (ltB B 0 4))), (4, .int 1), (0, .ref (ad 31 0)), (1, .int (nI l)), (2, .int (-1)), (3, .int (nI g))] dX9_form_48 (by decide) rfl ?_
  refine r_aload_n dX9_form_50 rfl 2 rfl ?_
  refine r_iload dX9_form_51 1 rfl ?_
  refine r_if_ne 60 dX9_form_53 (by decide) (fun c_5 => ?_) (fun c_5 => absurd c_5 (by decide))
  refine r_iload_n dX9_form_60 rfl 5 rfl ?_
  refine r_iconst (v := 0) dX9_form_61 (by decide) ?_
  refine r_bipush (v := 7) dX9_form_62 (by decide) ?_
  refine r_callS (st := [.ref (ad 31 0)]) [.int (nI g), .int 0, .int 7] 0 0 dX9_form_64 kX9_isIn nX9_isIn lRX9_73 (c_in (n := 8) (nI g) (by decide) (by decide)) rfl rfl (Nat.le_of_ble_eq_true rfl) (Nat.le_refl _) (Nat.le_refl _) (fun _ _ h => h.elim) ?_
  refine cx_det (st2 := [.int (b2i (inB (nI g) 8)), .ref (ad 31 0)]) rfl ?_
  refine r_if_ne 74 dX9_form_67 (by decide) (fun c_6 => ?_) (fun c_6 => absurd c_6 (b2i_no (inB_k hg (by decide))))
  refine r_iload dX9_form_74 0 rfl ?_
  refine r_if_eq 83 dX9_form_76 (by decide) (fun c_7 => ?_) (fun c_7 => absurd (b2i_z hb) c_7)
  refine r_iconst (v := 3) dX9_form_83 (by decide) ?_
  refine r_callV (st := []) [.int 3] 0 0 dX9_form_84 kX9_goes nX9_goes lRX9_92 (hW.g 31 0 rfl) rfl (c_goes hW 3) rfl rfl (Nat.le_of_ble_eq_true rfl) (Nat.le_refl _) (Nat.le_refl _) (fun _ _ h => h.elim) ?_
  refine cx_det (st2 := [.int 0]) rfl ?_
  have hW_8 : World A (setA B 26 0 3) ad (va_up G (ad 31 0) (some (.inr (9, (mF B ad).set 26 (.int (nI 3)))))) := m_s26 hW 3
  refine r_heap (G' := va_up G (ad 31 0) (some (.inr (9, (mF B ad).set 26 (.int (nI 3)))))) rfl ?_
  refine r_if_ne 92 dX9_form_87 (by decide) (fun c_9 => absurd (by decide) c_9) (fun c_9 => ?_)
  refine r_iconst (v := 0) dX9_form_90 (by decide) ?_
  refine r_ireti dX9_form_91 rfl ?_
  exact ⟨rfl, (setA B 26 0 3), hW_8, rfl, (s26 (fun f _ => rfl))⟩
set_option maxRecDepth 100000 in
set_option maxHeartbeats 4000000 in
theorem m_form_3b {d b0 : Nat} {G : GH} {A B : ST} {ad : AD} (hW : World A B ad G) (hI : Inv B) {l w g : Nat} (hl : l < 3) (hw : w < B 2 0) (hg : g < 8) (hb : ltB B 1 10 = false) : CT mX9_form (d + 4) b0 G [.ref (ad 31 0), .int (nI l), .int (nI w), .int (nI g)] 0 0 (MPo 0 3 B A ad) (fun _ _ => False) := by
  have hb0 := hI.b0
  have hb2 := hI.b2
  have hb9 := hI.b9
  have hb15 := hI.b15
  have hb18 := hI.b18
  refine CT.intro (by decide +kernel) rfl (Nat.le_of_ble_eq_true rfl) ?_
  show WP mX9_form _ _ _ _ _ 0 0 0 [(0, .ref (ad 31 0)), (1, .int (nI l)), (2, .int (nI w)), (3, .int (nI g))] []
  refine r_iload_n dX9_form_0 rfl 1 rfl ?_
  refine r_callS (st := []) [.int (nI l)] 0 0 dX9_form_1 kX9_isLanguage nX9_isLanguage lRX9_108 (c_mLang (nI l)) rfl rfl (Nat.le_of_ble_eq_true rfl) (Nat.le_refl _) (Nat.le_refl _) (fun _ _ h => h.elim) ?_
  refine cx_det (st2 := [.int (b2i (inB (nI l) 3))]) rfl ?_
  refine r_if_eq 24 dX9_form_4 (by decide) (fun c_1 => absurd c_1 (b2i_no (inB_k hl (by decide)))) (fun c_1 => ?_)
  refine r_iload_n dX9_form_7 rfl 2 rfl ?_
  refine r_iconst (v := (-1)) dX9_form_8 (by decide) ?_
  refine r_icmp_eq 20 dX9_form_9 (by decide) (fun c_2 => absurd c_2 (nI_nm1 (by omega))) (fun c_2 => ?_)
  refine r_aload_n dX9_form_12 rfl 0 rfl ?_
  refine r_iload_n dX9_form_13 rfl 2 rfl ?_
  refine r_callV (st := []) [.int (nI w)] 0 0 dX9_form_14 kX9_isWord nX9_isWord lRX9_111 (hW.g 31 0 rfl) rfl (c_X9_isWord hW hb2 (nI w)) rfl rfl (Nat.le_of_ble_eq_true rfl) (Nat.le_refl _) (Nat.le_refl _) (fun _ _ h => h.elim) ?_
  refine cx_det (st2 := [.int (b2i (inB (nI w) (B 2 0)))]) rfl ?_
  refine r_if_eq 24 dX9_form_17 (by decide) (fun c_3 => absurd c_3 (b2i_no (inB_k hw (by omega)))) (fun c_3 => ?_)
  refine r_iconst (v := 1) dX9_form_20 (by decide) ?_
  refine r_goto 25 dX9_form_21 (by decide) ?_
  refine r_istore [(4, .int 1), (0, .ref (ad 31 0)), (1, .int (nI l)), (2, .int (nI w)), (3, .int (nI g))] dX9_form_25 (by decide) rfl ?_
  refine r_iload_n dX9_form_27 rfl 3 rfl ?_
  refine r_iconst (v := (-1)) dX9_form_28 (by decide) ?_
  refine r_icmp_ne 41 dX9_form_29 (by decide) (fun c_4 => ?_) (fun c_4 => absurd c_4 (nI_nm1 (by omega)))
  refine r_aload_n dX9_form_41 rfl 1 rfl ?_
  refine r_iconst (v := 1) dX9_form_42 (by decide) ?_
  refine r_bipush (v := 10) dX9_form_43 (by decide) ?_
  refine r_callV (st := []) [.int 1, .int 10] 0 0 dX9_form_45 kX9_isAll nX9_isAll lRX9_100 (hW.g 31 0 rfl) rfl (c_isAll hW hI (lo := 1) (hi := 10) (by decide) (by decide)) rfl rfl (Nat.le_of_ble_eq_true rfl) (Nat.le_refl _) (Nat.le_refl _) (fun _ _ h => h.elim) ?_
  refine cx_det (st2 := [.int (b2i (ltB B 1 10))]) rfl ?_
  refine r_istore [(5, .int (b2i (ltB B 1 10))), (4, .int 1), (0, .ref (ad 31 0)), (1, .int (nI l)), (2, .int (nI w)), (3, .int (nI g))] dX9_form_48 (by decide) rfl ?_
  refine r_aload_n dX9_form_50 rfl 2 rfl ?_
  refine r_iload dX9_form_51 1 rfl ?_
  refine r_if_ne 60 dX9_form_53 (by decide) (fun c_6 => ?_) (fun c_6 => absurd c_6 (by decide))
  refine r_iload_n dX9_form_60 rfl 5 rfl ?_
  refine r_iconst (v := 0) dX9_form_61 (by decide) ?_
  refine r_bipush (v := 7) dX9_form_62 (by decide) ?_
  refine r_callS (st := [.ref (ad 31 0)]) [.int (nI g), .int 0, .int 7] 0 0 dX9_form_64 kX9_isIn nX9_isIn lRX9_73 (c_in (n := 8) (nI g) (by decide) (by decide)) rfl rfl (Nat.le_of_ble_eq_true rfl) (Nat.le_refl _) (Nat.le_refl _) (fun _ _ h => h.elim) ?_
  refine cx_det (st2 := [.int (b2i (inB (nI g) 8)), .ref (ad 31 0)]) rfl ?_
  refine r_if_ne 74 dX9_form_67 (by decide) (fun c_7 => ?_) (fun c_7 => absurd c_7 (b2i_no (inB_k hg (by decide))))
  refine r_iload dX9_form_74 0 rfl ?_
  refine r_if_eq 83 dX9_form_76 (by decide) (fun c_8 => ?_) (fun c_8 => absurd (b2i_z hb) c_8)
  refine r_iconst (v := 3) dX9_form_83 (by decide) ?_
  refine r_callV (st := []) [.int 3] 0 0 dX9_form_84 kX9_goes nX9_goes lRX9_92 (hW.g 31 0 rfl) rfl (c_goes hW 3) rfl rfl (Nat.le_of_ble_eq_true rfl) (Nat.le_refl _) (Nat.le_refl _) (fun _ _ h => h.elim) ?_
  refine cx_det (st2 := [.int 0]) rfl ?_
  have hW_9 : World A (setA B 26 0 3) ad (va_up G (ad 31 0) (some (.inr (9, (mF B ad).set 26 (.int (nI 3)))))) := m_s26 hW 3
  refine r_heap (G' := va_up G (ad 31 0) (some (.inr (9, (mF B ad).set 26 (.int (nI 3)))))) rfl ?_
  refine r_if_ne 92 dX9_form_87 (by decide) (fun c_10 => absurd (by decide) c_10) (fun c_10 => ?_)
  refine r_iconst (v := 0) dX9_form_90 (by decide) ?_
  refine r_ireti dX9_form_91 rfl ?_
  exact ⟨rfl, (setA B 26 0 3), hW_9, rfl, (s26 (fun f _ => rfl))⟩
set_option maxRecDepth 100000 in
set_option maxHeartbeats 4000000 in
theorem m_fault_0 {d b0 : Nat} {G : GH} {A B : ST} {ad : AD} (hW : World A B ad G) (hI : Inv B)  : CT mX9_fault (d + 4) b0 G [.ref (ad 31 0)] 0 0 (MPo (ffS (rg B 1 0 60) (B 0 0)) 0 B A ad) (fun _ _ => False) := by
  have hb0 := hI.b0
  have hb2 := hI.b2
  have hb9 := hI.b9
  have hb15 := hI.b15
  have hb18 := hI.b18
  refine CT.intro (by decide +kernel) rfl (Nat.le_of_ble_eq_true rfl) ?_
  show WP mX9_fault _ _ _ _ _ 0 0 0 [(0, .ref (ad 31 0))] []
  refine r_aload_n dX9_fault_0 rfl 0 rfl ?_
  refine r_iconst (v := 0) dX9_fault_1 (by decide) ?_
  refine r_put 26 (.int) dX9_fault_2 gRX9_69 (hW.g 31 0 rfl) (Nat.le_of_ble_eq_true rfl) rfl rfl ?_
  have hW_1 : World A (setA B 26 0 0) ad (va_up G (ad 31 0) (some (.inr (9, (mF B ad).set 26 (.int (nI 0)))))) := m_s26 hW 0
  refine r_heap (G' := va_up G (ad 31 0) (some (.inr (9, (mF B ad).set 26 (.int (nI 0)))))) rfl ?_
  refine r_aload_n dX9_fault_5 rfl 0 rfl ?_
  refine r_callV (st := []) [] 0 0 dX9_fault_6 kX9_faultOfBuffer nX9_faultOfBuffer lRX9_121 (hW_1.g 31 0 rfl) rfl (c_faultB hW_1 (Inv.congr (fun f hf => fld26 (by omega)) hI)) rfl rfl (Nat.le_of_ble_eq_true rfl) (Nat.le_refl _) (Nat.le_refl _) (fun _ _ h => h.elim) ?_
  refine cx_det (st2 := [.int (ffS (rg B 1 0 60) (B 0 0))]) rfl ?_
  refine r_ireti dX9_fault_9 rfl ?_
  exact ⟨rfl, (setA B 26 0 0), hW_1, rfl, (s26 (fun f _ => rfl))⟩
set_option maxRecDepth 100000 in
set_option maxHeartbeats 4000000 in
theorem lp_X9_text {d b0 : Nat} {G : GH} {A B : ST} {ad : AD} (hW : World A (setA B 26 0 0) ad G) (hI : Inv B) {c l : Nat} (hc : c < B 9 0) (hl : l < 3) : ∀ (fu : Nat) (k : Nat), k ≤ B 0 0 → B 0 0 - k < fu → WP mX9_text (d + 4) b0 (MPo (nI (cntB (slB (rg B 1 0 60) (B 0 0)) (B 0 0))) 0 (setA (setA (setA (cpyA B 11 (60 * (3 * c + l)) (B 0 0)) 0 0 0) 12 (3 * c + l) (B 0 0)) 13 (3 * c + l) 0) A ad) (fun _ _ => False) G 0 0 57 [(5, .int (nI k)), (4, .int (nI (cntB (slB (rg B 1 0 60) (B 0 0)) k))), (3, .int 1), (0, .ref (ad 31 0)), (1, .int (nI c)), (2, .int (nI l))] [] := by
  intro fu
  induction fu with
  | zero => intro k hinv hn; exact absurd hn (Nat.not_lt_zero _)
  | succ fu ih =>
    intro k hinv hn
    have hb0 := hI.b0
    have hb9 := hI.b9
    have ht : 3 * c + l < 30 := by omega
    refine r_iload dX9_text_57 0 rfl ?_
    refine r_aload_n dX9_text_59 rfl 3 rfl ?_
    refine r_get 0 dX9_text_60 fRX9_89 (hW.g 31 0 rfl) rfl ?_
    refine r_top (nI (B 0 0)) rfl ?_
    refine r_icmp_ge 94 dX9_text_63 (by decide) (fun c_1 => ?_) (fun c_1 => ?_)
    · have hk : k = B 0 0 := by have := ni_le (by omega) (by omega) c_1; omega
      refine r_iload_n dX9_text_94 rfl 4 rfl ?_
      refine r_iload_n dX9_text_95 rfl 5 rfl ?_
      refine r_callS (st := []) [.int (nI c), .int (nI l)] 0 0 dX9_text_96 kX9_at nX9_at lRX9_128 (c_mat c l) rfl rfl (Nat.le_of_ble_eq_true rfl) (Nat.le_refl _) (Nat.le_refl _) (fun _ _ h => h.elim) ?_
      refine cx_det (st2 := [.int (nI (3 * c + l))]) rfl ?_
      refine r_istore [(5, .int (nI (3 * c + l))), (4, .int (nI (cntB (slB (rg B 1 0 60) (B 0 0)) k))), (3, .int 1), (0, .ref (ad 31 0)), (1, .int (nI c)), (2, .int (nI l))] dX9_text_99 (by decide) rfl ?_
      refine r_aload_n dX9_text_101 rfl 3 rfl ?_
      refine r_get 12 dX9_text_102 fRX9_38 (hW.g 31 0 rfl) rfl ?_
      refine r_iload dX9_text_105 0 rfl ?_
      refine r_aload_n dX9_text_107 rfl 3 rfl ?_
      refine r_aload_n dX9_text_108 rfl 3 rfl ?_
      refine r_get 11 dX9_text_109 fRX9_35 (hW.g 31 0 rfl) rfl ?_
      refine r_bipush (v := 60) dX9_text_112 (by decide) ?_
      refine r_iload dX9_text_114 0 rfl ?_
      refine r_imul dX9_text_116 ?_
      refine r_top (nI (60 * (3 * c + l))) (pk_mul 60 _) ?_
      refine r_callV (st := [.int (nI (3 * c + l)), .ref (ad 32 12)]) [.ref (ad 32 11), .int (nI (60 * (3 * c + l)))] 0 0 dX9_text_117 kX9_takes nX9_takes lRX9_104 (hW.g 31 0 rfl) rfl (c_takes11 hW hb0 hI.ch.1 (by show 60 * (3 * c + l) + B 0 0 ≤ 1800; omega)) rfl rfl (Nat.le_of_ble_eq_true rfl) (Nat.le_refl _) (Nat.le_refl _) (fun _ _ h => h.elim) ?_
      refine cx_val (st2 := [.int (nI (B 0 0)), .int (nI (3 * c + l)), .ref (ad 32 12)]) rfl ?_
      intro G_3 hW_4
      have hW_5 : World A (setA (cpyA (setA B 26 0 0) 11 (60 * (3 * c + l)) (B 0 0)) 0 0 0) ad G_3 := hW_4
      refine r_iast dX9_text_120 (hW_5.g 32 12 rfl) (vp_in_nI (by omega) (by decide)) ?_
      have hW_6 : World A (setA (setA (cpyA (setA B 26 0 0) 11 (60 * (3 * c + l)) (B 0 0)) 0 0 0) 12 (3 * c + l) (B 0 0)) ad (va_up G_3 (ad 32 12) (some (.inl (.int, 30, .inl (upd (rg (setA (cpyA (setA B 26 0 0) 11 (60 * (3 * c + l)) (B 0 0)) 0 0 0) 12 0 30) (3 * c + l) (nI (B 0 0))))))) := m_a12 hW_5 (by omega)
      refine r_heap (G' := va_up G_3 (ad 32 12) (some (.inl (.int, 30, .inl (upd (rg (setA (cpyA (setA B 26 0 0) 11 (60 * (3 * c + l)) (B 0 0)) 0 0 0) 12 0 30) (3 * c + l) (nI (B 0 0))))))) (by rw [nI_cl (by omega)] <;> rfl) ?_
      refine r_aload_n dX9_text_121 rfl 3 rfl ?_
      refine r_get 13 dX9_text_122 fRX9_41 (hW_6.g 31 0 rfl) rfl ?_
      refine r_iload dX9_text_125 0 rfl ?_
      refine r_iconst (v := 0) dX9_text_127 (by decide) ?_
      refine r_zast dX9_text_128 (hW_6.g 32 13 rfl) (vp_in_nI (by omega) (by decide)) rfl ?_
      have hW_7 : World A (setA (setA (setA (cpyA (setA B 26 0 0) 11 (60 * (3 * c + l)) (B 0 0)) 0 0 0) 12 (3 * c + l) (B 0 0)) 13 (3 * c + l) 0) ad (va_up (va_up G_3 (ad 32 12) (some (.inl (.int, 30, .inl (upd (rg (setA (cpyA (setA B 26 0 0) 11 (60 * (3 * c + l)) (B 0 0)) 0 0 0) 12 0 30) (3 * c + l) (nI (B 0 0))))))) (ad 32 13) (some (.inl (.boolean, 30, .inl (upd (rg (setA (setA (cpyA (setA B 26 0 0) 11 (60 * (3 * c + l)) (B 0 0)) 0 0 0) 12 (3 * c + l) (B 0 0)) 13 0 30) (3 * c + l) (nI 0)))))) := m_a13 hW_6 (by omega)
      refine r_heap (G' := va_up (va_up G_3 (ad 32 12) (some (.inl (.int, 30, .inl (upd (rg (setA (cpyA (setA B 26 0 0) 11 (60 * (3 * c + l)) (B 0 0)) 0 0 0) 12 0 30) (3 * c + l) (nI (B 0 0))))))) (ad 32 13) (some (.inl (.boolean, 30, .inl (upd (rg (setA (setA (cpyA (setA B 26 0 0) 11 (60 * (3 * c + l)) (B 0 0)) 0 0 0) 12 (3 * c + l) (B 0 0)) 13 0 30) (3 * c + l) (nI 0)))))) (by rw [nI_cl (by omega)] <;> rfl) ?_
      refine r_iload dX9_text_129 1 rfl ?_
      refine r_ireti dX9_text_131 rfl ?_
      exact ⟨by rw [hk], (setA (setA (setA (cpyA (setA B 26 0 0) 11 (60 * (3 * c + l)) (B 0 0)) 0 0 0) 12 (3 * c + l) (B 0 0)) 13 (3 * c + l) 0), hW_7, rfl, (scg (scg (scg (ccg (s26 (fun f _ => rfl))))))⟩
    · have hk0 : k < B 0 0 := ni_nle (by omega) (by omega) c_1
      have hk : k < 60 := by omega
      refine r_iload dX9_text_66 1 rfl ?_
      refine r_aload_n dX9_text_68 rfl 3 rfl ?_
      refine r_get 1 dX9_text_69 fRX9_7 (hW.g 31 0 rfl) rfl ?_
      refine r_iload dX9_text_72 0 rfl ?_
      refine r_cald dX9_text_74 (hW.g 32 1 rfl) (vp_in_nI hk (by decide)) ?_
      refine r_top (nI (B 1 k)) (by rw [nI_cl (by omega)]; exact rgm hk) ?_
      refine r_bipush (v := 91) dX9_text_75 (by decide) ?_
      refine r_icmp_ne 84 dX9_text_77 (by decide) (fun c_8 => ?_) (fun c_8 => ?_)
      · refine r_iconst (v := 0) dX9_text_84 (by decide) ?_
        have hp : slB (rg B 1 0 60) (B 0 0) k = false := by unfold slB chr; rw [if_pos hk0, rgm hk]; exact decide_eq_false c_8
        refine r_iadd dX9_text_85 ?_
        refine r_top (nI (cntB (slB (rg B 1 0 60) (B 0 0)) (k + 1))) (by show nI _ + 0 = nI (cntB (slB (rg B 1 0 60) (B 0 0)) k + (if slB (rg B 1 0 60) (B 0 0) k then 1 else 0)); rw [hp, if_neg (by decide)]; exact nI_add _ 0) ?_
        refine r_istore [(4, .int (nI (cntB (slB (rg B 1 0 60) (B 0 0)) (k + 1)))), (5, .int (nI k)), (3, .int 1), (0, .ref (ad 31 0)), (1, .int (nI c)), (2, .int (nI l))] dX9_text_86 (by decide) rfl ?_
        refine r_iinc (nI (k + 1)) [(5, .int (nI (k + 1))), (4, .int (nI (cntB (slB (rg B 1 0 60) (B 0 0)) (k + 1)))), (3, .int 1), (0, .ref (ad 31 0)), (1, .int (nI c)), (2, .int (nI l))] dX9_text_88 1 rfl (nI_1 k) (by decide) rfl ?_
        refine r_goto 57 dX9_text_91 (by decide) ?_
        exact WP.loc [0, 1, 2, 3, 4, 5] rfl (ih (k + 1) (by omega) (by omega))
      · refine r_iconst (v := 1) dX9_text_80 (by decide) ?_
        refine r_goto 85 dX9_text_81 (by decide) ?_
        have hp : slB (rg B 1 0 60) (B 0 0) k = true := by unfold slB chr; rw [if_pos hk0, rgm hk]; exact decide_eq_true c_8
        refine r_iadd dX9_text_85 ?_
        refine r_top (nI (cntB (slB (rg B 1 0 60) (B 0 0)) (k + 1))) (by show nI _ + 1 = nI (cntB (slB (rg B 1 0 60) (B 0 0)) k + (if slB (rg B 1 0 60) (B 0 0) k then 1 else 0)); rw [hp, if_pos rfl]; exact nI_1 _) ?_
        refine r_istore [(4, .int (nI (cntB (slB (rg B 1 0 60) (B 0 0)) (k + 1)))), (5, .int (nI k)), (3, .int 1), (0, .ref (ad 31 0)), (1, .int (nI c)), (2, .int (nI l))] dX9_text_86 (by decide) rfl ?_
        refine r_iinc (nI (k + 1)) [(5, .int (nI (k + 1))), (4, .int (nI (cntB (slB (rg B 1 0 60) (B 0 0)) (k + 1)))), (3, .int 1), (0, .ref (ad 31 0)), (1, .int (nI c)), (2, .int (nI l))] dX9_text_88 1 rfl (nI_1 k) (by decide) rfl ?_
        refine r_goto 57 dX9_text_91 (by decide) ?_
        exact WP.loc [0, 1, 2, 3, 4, 5] rfl (ih (k + 1) (by omega) (by omega))
set_option maxRecDepth 100000 in
set_option maxHeartbeats 4000000 in
theorem m_text_0 {d b0 : Nat} {G : GH} {A B : ST} {ad : AD} (hW : World A B ad G) (hI : Inv B) {c l : Nat} (hc : c < B 9 0) (hl : l < 3) (hff : (ffS (rg B 1 0 60) (B 0 0)) = -1) : CT mX9_text (d + 4) b0 G [.ref (ad 31 0), .int (nI c), .int (nI l)] 0 0 (MPo (nI (cntB (slB (rg B 1 0 60) (B 0 0)) (B 0 0))) 0 (setA (setA (setA (cpyA B 11 (60 * (3 * c + l)) (B 0 0)) 0 0 0) 12 (3 * c + l) (B 0 0)) 13 (3 * c + l) 0) A ad) (fun _ _ => False) := by
  have hb0 := hI.b0
  have hb2 := hI.b2
  have hb9 := hI.b9
  have hb15 := hI.b15
  have hb18 := hI.b18
  refine CT.intro (by decide +kernel) rfl (Nat.le_of_ble_eq_true rfl) ?_
  show WP mX9_text _ _ _ _ _ 0 0 0 [(0, .ref (ad 31 0)), (1, .int (nI c)), (2, .int (nI l))] []
  refine r_aload_n dX9_text_0 rfl 0 rfl ?_
  refine r_iload_n dX9_text_1 rfl 1 rfl ?_
  refine r_callV (st := []) [.int (nI c)] 0 0 dX9_text_2 kX9_isClause nX9_isClause lRX9_125 (hW.g 31 0 rfl) rfl (c_X9_isClause hW (Nat.le_trans hb9 (by decide)) (nI c)) rfl rfl (Nat.le_of_ble_eq_true rfl) (Nat.le_refl _) (Nat.le_refl _) (fun _ _ h => h.elim) ?_
  refine cx_det (st2 := [.int (b2i (inB (nI c) (B 9 0)))]) rfl ?_
  refine r_if_eq 19 dX9_text_5 (by decide) (fun c_1 => absurd c_1 (b2i_no (inB_k hc (by omega)))) (fun c_1 => ?_)
  refine r_iload_n dX9_text_8 rfl 2 rfl ?_
  refine r_callS (st := []) [.int (nI l)] 0 0 dX9_text_9 kX9_isLanguage nX9_isLanguage lRX9_108 (c_mLang (nI l)) rfl rfl (Nat.le_of_ble_eq_true rfl) (Nat.le_refl _) (Nat.le_refl _) (fun _ _ h => h.elim) ?_
  refine cx_det (st2 := [.int (b2i (inB (nI l) 3))]) rfl ?_
  refine r_if_eq 19 dX9_text_12 (by decide) (fun c_2 => absurd c_2 (b2i_no (inB_k hl (by decide)))) (fun c_2 => ?_)
  refine r_iconst (v := 1) dX9_text_15 (by decide) ?_
  refine r_goto 20 dX9_text_16 (by decide) ?_
  refine r_istore_n [(3, .int 1), (0, .ref (ad 31 0)), (1, .int (nI c)), (2, .int (nI l))] dX9_text_20 rfl (by decide) rfl ?_
  refine r_aload_n dX9_text_21 rfl 1 rfl ?_
  refine r_iload_n dX9_text_22 rfl 0 rfl ?_
  refine r_if_ne 30 dX9_text_23 (by decide) (fun c_3 => ?_) (fun c_3 => absurd c_3 (by decide))
  refine r_aload_n dX9_text_30 rfl 1 rfl ?_
  refine r_callV (st := [.ref (ad 31 0)]) [] 0 0 dX9_text_31 kX9_faultOfBuffer nX9_faultOfBuffer lRX9_121 (hW.g 31 0 rfl) rfl (c_faultB hW hI) rfl rfl (Nat.le_of_ble_eq_true rfl) (Nat.le_refl _) (Nat.le_refl _) (fun _ _ h => h.elim) ?_
  refine cx_det (st2 := [.int (ffS (rg B 1 0 60) (B 0 0)), .ref (ad 31 0)]) rfl ?_
  refine r_iconst (v := (-1)) dX9_text_34 (by decide) ?_
  refine r_icmp_eq 42 dX9_text_35 (by decide) (fun c_4 => ?_) (fun c_4 => absurd hff c_4)
  refine r_iconst (v := 0) dX9_text_42 (by decide) ?_
  refine r_callV (st := []) [.int 0] 0 0 dX9_text_43 kX9_goes nX9_goes lRX9_92 (hW.g 31 0 rfl) rfl (c_goes hW 0) rfl rfl (Nat.le_of_ble_eq_true rfl) (Nat.le_refl _) (Nat.le_refl _) (fun _ _ h => h.elim) ?_
  refine cx_det (st2 := [.int 1]) rfl ?_
  have hW_5 : World A (setA B 26 0 0) ad (va_up G (ad 31 0) (some (.inr (9, (mF B ad).set 26 (.int (nI 0)))))) := m_s26 hW 0
  refine r_heap (G' := va_up G (ad 31 0) (some (.inr (9, (mF B ad).set 26 (.int (nI 0)))))) rfl ?_
  refine r_if_ne 51 dX9_text_46 (by decide) (fun c_6 => ?_) (fun c_6 => absurd c_6 (by decide))
  refine r_iconst (v := nI (cntB (slB (rg B 1 0 60) (B 0 0)) 0)) dX9_text_51 rfl ?_
  refine r_istore [(4, .int (nI (cntB (slB (rg B 1 0 60) (B 0 0)) 0))), (3, .int 1), (0, .ref (ad 31 0)), (1, .int (nI c)), (2, .int (nI l))] dX9_text_52 (by decide) rfl ?_
  refine r_iconst (v := nI 0) dX9_text_54 (by decide) ?_
  refine r_istore [(5, .int (nI 0)), (4, .int (nI (cntB (slB (rg B 1 0 60) (B 0 0)) 0))), (3, .int 1), (0, .ref (ad 31 0)), (1, .int (nI c)), (2, .int (nI l))] dX9_text_55 (by decide) rfl ?_
  exact lp_X9_text hW_5 hI hc hl _ 0 (Nat.zero_le _) (Nat.lt_succ_self _)
set_option maxRecDepth 100000 in
set_option maxHeartbeats 4000000 in
theorem m_text_1a {d b0 : Nat} {G : GH} {A B : ST} {ad : AD} (hW : World A B ad G) (hI : Inv B) {x y : Int32} (hx : inB x (B 9 0) = false) : CT mX9_text (d + 4) b0 G [.ref (ad 31 0), .int x, .int y] 0 0 (MPo 0 1 B A ad) (fun _ _ => False) := by
  have hb0 := hI.b0
  have hb2 := hI.b2
  have hb9 := hI.b9
  have hb15 := hI.b15
  have hb18 := hI.b18
  refine CT.intro (by decide +kernel) rfl (Nat.le_of_ble_eq_true rfl) ?_
  show WP mX9_text _ _ _ _ _ 0 0 0 [(0, .ref (ad 31 0)), (1, .int x), (2, .int y)] []
  refine r_aload_n dX9_text_0 rfl 0 rfl ?_
  refine r_iload_n dX9_text_1 rfl 1 rfl ?_
  refine r_callV (st := []) [.int x] 0 0 dX9_text_2 kX9_isClause nX9_isClause lRX9_125 (hW.g 31 0 rfl) rfl (c_X9_isClause hW (Nat.le_trans hb9 (by decide)) x) rfl rfl (Nat.le_of_ble_eq_true rfl) (Nat.le_refl _) (Nat.le_refl _) (fun _ _ h => h.elim) ?_
  refine cx_det (st2 := [.int (b2i (inB x (B 9 0)))]) rfl ?_
  refine r_if_eq 19 dX9_text_5 (by decide) (fun c_1 => ?_) (fun c_1 => absurd (b2i_z hx) c_1)
  refine r_iconst (v := 0) dX9_text_19 (by decide) ?_
  refine r_istore_n [(3, .int 0), (0, .ref (ad 31 0)), (1, .int x), (2, .int y)] dX9_text_20 rfl (by decide) rfl ?_
  refine r_aload_n dX9_text_21 rfl 1 rfl ?_
  refine r_iload_n dX9_text_22 rfl 0 rfl ?_
  refine r_if_ne 30 dX9_text_23 (by decide) (fun c_2 => absurd (by decide) c_2) (fun c_2 => ?_)
  refine r_iconst (v := 1) dX9_text_26 (by decide) ?_
  refine r_goto 43 dX9_text_27 (by decide) ?_
  refine r_callV (st := []) [.int 1] 0 0 dX9_text_43 kX9_goes nX9_goes lRX9_92 (hW.g 31 0 rfl) rfl (c_goes hW 1) rfl rfl (Nat.le_of_ble_eq_true rfl) (Nat.le_refl _) (Nat.le_refl _) (fun _ _ h => h.elim) ?_
  refine cx_det (st2 := [.int 0]) rfl ?_
  have hW_3 : World A (setA B 26 0 1) ad (va_up G (ad 31 0) (some (.inr (9, (mF B ad).set 26 (.int (nI 1)))))) := m_s26 hW 1
  refine r_heap (G' := va_up G (ad 31 0) (some (.inr (9, (mF B ad).set 26 (.int (nI 1)))))) rfl ?_
  refine r_if_ne 51 dX9_text_46 (by decide) (fun c_4 => absurd (by decide) c_4) (fun c_4 => ?_)
  refine r_iconst (v := 0) dX9_text_49 (by decide) ?_
  refine r_ireti dX9_text_50 rfl ?_
  exact ⟨rfl, (setA B 26 0 1), hW_3, rfl, (s26 (fun f _ => rfl))⟩
set_option maxRecDepth 100000 in
set_option maxHeartbeats 4000000 in
theorem m_text_1b {d b0 : Nat} {G : GH} {A B : ST} {ad : AD} (hW : World A B ad G) (hI : Inv B) {c : Nat} {y : Int32} (hc : c < B 9 0) (hy : inB y 3 = false) : CT mX9_text (d + 4) b0 G [.ref (ad 31 0), .int (nI c), .int y] 0 0 (MPo 0 1 B A ad) (fun _ _ => False) := by
  have hb0 := hI.b0
  have hb2 := hI.b2
  have hb9 := hI.b9
  have hb15 := hI.b15
  have hb18 := hI.b18
  refine CT.intro (by decide +kernel) rfl (Nat.le_of_ble_eq_true rfl) ?_
  show WP mX9_text _ _ _ _ _ 0 0 0 [(0, .ref (ad 31 0)), (1, .int (nI c)), (2, .int y)] []
  refine r_aload_n dX9_text_0 rfl 0 rfl ?_
  refine r_iload_n dX9_text_1 rfl 1 rfl ?_
  refine r_callV (st := []) [.int (nI c)] 0 0 dX9_text_2 kX9_isClause nX9_isClause lRX9_125 (hW.g 31 0 rfl) rfl (c_X9_isClause hW (Nat.le_trans hb9 (by decide)) (nI c)) rfl rfl (Nat.le_of_ble_eq_true rfl) (Nat.le_refl _) (Nat.le_refl _) (fun _ _ h => h.elim) ?_
  refine cx_det (st2 := [.int (b2i (inB (nI c) (B 9 0)))]) rfl ?_
  refine r_if_eq 19 dX9_text_5 (by decide) (fun c_1 => absurd c_1 (b2i_no (inB_k hc (by omega)))) (fun c_1 => ?_)
  refine r_iload_n dX9_text_8 rfl 2 rfl ?_
  refine r_callS (st := []) [.int y] 0 0 dX9_text_9 kX9_isLanguage nX9_isLanguage lRX9_108 (c_mLang y) rfl rfl (Nat.le_of_ble_eq_true rfl) (Nat.le_refl _) (Nat.le_refl _) (fun _ _ h => h.elim) ?_
  refine cx_det (st2 := [.int (b2i (inB y 3))]) rfl ?_
  refine r_if_eq 19 dX9_text_12 (by decide) (fun c_2 => ?_) (fun c_2 => absurd (b2i_z hy) c_2)
  refine r_iconst (v := 0) dX9_text_19 (by decide) ?_
  refine r_istore_n [(3, .int 0), (0, .ref (ad 31 0)), (1, .int (nI c)), (2, .int y)] dX9_text_20 rfl (by decide) rfl ?_
  refine r_aload_n dX9_text_21 rfl 1 rfl ?_
  refine r_iload_n dX9_text_22 rfl 0 rfl ?_
  refine r_if_ne 30 dX9_text_23 (by decide) (fun c_3 => absurd (by decide) c_3) (fun c_3 => ?_)
  refine r_iconst (v := 1) dX9_text_26 (by decide) ?_
  refine r_goto 43 dX9_text_27 (by decide) ?_
  refine r_callV (st := []) [.int 1] 0 0 dX9_text_43 kX9_goes nX9_goes lRX9_92 (hW.g 31 0 rfl) rfl (c_goes hW 1) rfl rfl (Nat.le_of_ble_eq_true rfl) (Nat.le_refl _) (Nat.le_refl _) (fun _ _ h => h.elim) ?_
  refine cx_det (st2 := [.int 0]) rfl ?_
  have hW_4 : World A (setA B 26 0 1) ad (va_up G (ad 31 0) (some (.inr (9, (mF B ad).set 26 (.int (nI 1)))))) := m_s26 hW 1
  refine r_heap (G' := va_up G (ad 31 0) (some (.inr (9, (mF B ad).set 26 (.int (nI 1)))))) rfl ?_
  refine r_if_ne 51 dX9_text_46 (by decide) (fun c_5 => absurd (by decide) c_5) (fun c_5 => ?_)
  refine r_iconst (v := 0) dX9_text_49 (by decide) ?_
  refine r_ireti dX9_text_50 rfl ?_
  exact ⟨rfl, (setA B 26 0 1), hW_4, rfl, (s26 (fun f _ => rfl))⟩
set_option maxRecDepth 100000 in
set_option maxHeartbeats 4000000 in
theorem m_text_2 {d b0 : Nat} {G : GH} {A B : ST} {ad : AD} (hW : World A B ad G) (hI : Inv B) {c l : Nat} (hc : c < B 9 0) (hl : l < 3) (hff : ¬ (ffS (rg B 1 0 60) (B 0 0)) = -1) : CT mX9_text (d + 4) b0 G [.ref (ad 31 0), .int (nI c), .int (nI l)] 0 0 (MPo 0 2 B A ad) (fun _ _ => False) := by
  have hb0 := hI.b0
  have hb2 := hI.b2
  have hb9 := hI.b9
  have hb15 := hI.b15
  have hb18 := hI.b18
  refine CT.intro (by decide +kernel) rfl (Nat.le_of_ble_eq_true rfl) ?_
  show WP mX9_text _ _ _ _ _ 0 0 0 [(0, .ref (ad 31 0)), (1, .int (nI c)), (2, .int (nI l))] []
  refine r_aload_n dX9_text_0 rfl 0 rfl ?_
  refine r_iload_n dX9_text_1 rfl 1 rfl ?_
  refine r_callV (st := []) [.int (nI c)] 0 0 dX9_text_2 kX9_isClause nX9_isClause lRX9_125 (hW.g 31 0 rfl) rfl (c_X9_isClause hW (Nat.le_trans hb9 (by decide)) (nI c)) rfl rfl (Nat.le_of_ble_eq_true rfl) (Nat.le_refl _) (Nat.le_refl _) (fun _ _ h => h.elim) ?_
  refine cx_det (st2 := [.int (b2i (inB (nI c) (B 9 0)))]) rfl ?_
  refine r_if_eq 19 dX9_text_5 (by decide) (fun c_1 => absurd c_1 (b2i_no (inB_k hc (by omega)))) (fun c_1 => ?_)
  refine r_iload_n dX9_text_8 rfl 2 rfl ?_
  refine r_callS (st := []) [.int (nI l)] 0 0 dX9_text_9 kX9_isLanguage nX9_isLanguage lRX9_108 (c_mLang (nI l)) rfl rfl (Nat.le_of_ble_eq_true rfl) (Nat.le_refl _) (Nat.le_refl _) (fun _ _ h => h.elim) ?_
  refine cx_det (st2 := [.int (b2i (inB (nI l) 3))]) rfl ?_
  refine r_if_eq 19 dX9_text_12 (by decide) (fun c_2 => absurd c_2 (b2i_no (inB_k hl (by decide)))) (fun c_2 => ?_)
  refine r_iconst (v := 1) dX9_text_15 (by decide) ?_
  refine r_goto 20 dX9_text_16 (by decide) ?_
  refine r_istore_n [(3, .int 1), (0, .ref (ad 31 0)), (1, .int (nI c)), (2, .int (nI l))] dX9_text_20 rfl (by decide) rfl ?_
  refine r_aload_n dX9_text_21 rfl 1 rfl ?_
  refine r_iload_n dX9_text_22 rfl 0 rfl ?_
  refine r_if_ne 30 dX9_text_23 (by decide) (fun c_3 => ?_) (fun c_3 => absurd c_3 (by decide))
  refine r_aload_n dX9_text_30 rfl 1 rfl ?_
  refine r_callV (st := [.ref (ad 31 0)]) [] 0 0 dX9_text_31 kX9_faultOfBuffer nX9_faultOfBuffer lRX9_121 (hW.g 31 0 rfl) rfl (c_faultB hW hI) rfl rfl (Nat.le_of_ble_eq_true rfl) (Nat.le_refl _) (Nat.le_refl _) (fun _ _ h => h.elim) ?_
  refine cx_det (st2 := [.int (ffS (rg B 1 0 60) (B 0 0)), .ref (ad 31 0)]) rfl ?_
  refine r_iconst (v := (-1)) dX9_text_34 (by decide) ?_
  refine r_icmp_eq 42 dX9_text_35 (by decide) (fun c_4 => absurd c_4 hff) (fun c_4 => ?_)
  refine r_iconst (v := 2) dX9_text_38 (by decide) ?_
  refine r_goto 43 dX9_text_39 (by decide) ?_
  refine r_callV (st := []) [.int 2] 0 0 dX9_text_43 kX9_goes nX9_goes lRX9_92 (hW.g 31 0 rfl) rfl (c_goes hW 2) rfl rfl (Nat.le_of_ble_eq_true rfl) (Nat.le_refl _) (Nat.le_refl _) (fun _ _ h => h.elim) ?_
  refine cx_det (st2 := [.int 0]) rfl ?_
  have hW_5 : World A (setA B 26 0 2) ad (va_up G (ad 31 0) (some (.inr (9, (mF B ad).set 26 (.int (nI 2)))))) := m_s26 hW 2
  refine r_heap (G' := va_up G (ad 31 0) (some (.inr (9, (mF B ad).set 26 (.int (nI 2)))))) rfl ?_
  refine r_if_ne 51 dX9_text_46 (by decide) (fun c_6 => absurd (by decide) c_6) (fun c_6 => ?_)
  refine r_iconst (v := 0) dX9_text_49 (by decide) ?_
  refine r_ireti dX9_text_50 rfl ?_
  exact ⟨rfl, (setA B 26 0 2), hW_5, rfl, (s26 (fun f _ => rfl))⟩
theorem hsB_s {f : Nat → Int32} {k : Nat} {c : Int32} : hsB f (k + 1) c = (hsB f k c || decide (f k = c)) := by
  unfold hsB
  show (!(allB _ k && !(decide (f k = c)))) = _
  cases allB (fun k => !(decide (f k = c))) k <;> cases decide (f k = c) <;> rfl
theorem rgb {B : ST} {f b n k : Nat} (h : k < n) : rg B f b n k = nI (B f (b + k)) := by
  dsimp only [rg]
  rw [if_pos h]
set_option maxRecDepth 100000 in
set_option maxHeartbeats 4000000 in
theorem lp_X9_has {d b0 : Nat} {G : GH} {A B : ST} {ad : AD} (hW : World A B ad G) (hI : Inv B) {l c : Nat} (hl : l < 6) : ∀ (fu : Nat) (k : Nat), k ≤ B 17 l → B 17 l - k < fu → WP mX9_has d b0 (fun r G' => r = some (.int (b2i (hlB B l c))) ∧ G' = G) (fun _ _ => False) G 0 0 5 [(4, .int (nI k)), (3, .int (b2i (hsB (rg B 16 (6 * l) 6) k (nI c)))), (0, .ref (ad 31 0)), (1, .int (nI l)), (2, .int (nI c))] [] := by
  intro fu
  induction fu with
  | zero => intro k hinv hn; exact absurd hn (Nat.not_lt_zero _)
  | succ fu ih =>
    intro k hinv hn
    have h17 := (hI.ro l hl).1
    refine r_iload dX9_has_5 0 rfl ?_
    refine r_aload_n dX9_has_7 rfl 2 rfl ?_
    refine r_get 17 dX9_has_8 fRX9_51 (hW.g 31 0 rfl) rfl ?_
    refine r_iload_n dX9_has_11 rfl 3 rfl ?_
    refine r_iald dX9_has_12 (hW.g 32 17 rfl) (vp_in_nI (by omega) (by decide)) ?_
    refine r_top (nI (B 17 l)) (by rw [nI_cl (by omega)]; exact rgm (by omega)) ?_
    refine r_icmp_ge 48 dX9_has_13 (by decide) (fun c_1 => ?_) (fun c_1 => ?_)
    · refine r_iload_n dX9_has_48 rfl 1 rfl ?_
      refine r_ret .boolean dX9_has_49 rfl b2i_Z ?_
      have hk : k = B 17 l := by have := ni_le (by omega) (by omega) c_1; omega
      exact ⟨by rw [hk]; rfl, rfl⟩
    · have hk0 : k < B 17 l := ni_nle (by omega) (by omega) c_1
      have hk6 : k < 6 := by omega
      refine r_iload_n dX9_has_16 rfl 1 rfl ?_
      refine r_if_ne 36 dX9_has_17 (by decide) (fun c_2 => ?_) (fun c_2 => ?_)
      · refine r_iconst (v := b2i (hsB (rg B 16 (6 * l) 6) (k + 1) (nI c))) dX9_has_36 (by rw [hsB_s, b2i_n0 c_2, Bool.true_or] <;> rfl) ?_
        refine r_goto 41 dX9_has_37 (by decide) ?_
        refine r_istore_n [(3, .int (b2i (hsB (rg B 16 (6 * l) 6) (k + 1) (nI c)))), (4, .int (nI k)), (0, .ref (ad 31 0)), (1, .int (nI l)), (2, .int (nI c))] dX9_has_41 rfl (by decide) rfl ?_
        refine r_iinc (nI (k + 1)) [(4, .int (nI (k + 1))), (3, .int (b2i (hsB (rg B 16 (6 * l) 6) (k + 1) (nI c)))), (0, .ref (ad 31 0)), (1, .int (nI l)), (2, .int (nI c))] dX9_has_42 1 rfl (nI_1 k) (by decide) rfl ?_
        refine r_goto 5 dX9_has_45 (by decide) ?_
        exact WP.loc [0, 1, 2, 3, 4] rfl (ih (k + 1) (by omega) (by omega))
      · refine r_aload_n dX9_has_20 rfl 2 rfl ?_
        refine r_get 16 dX9_has_21 fRX9_48 (hW.g 31 0 rfl) rfl ?_
        refine r_bipush (v := 6) dX9_has_24 (by decide) ?_
        refine r_iload_n dX9_has_26 rfl 3 rfl ?_
        refine r_imul dX9_has_27 ?_
        refine r_top (nI (6 * l)) (pk_mul 6 l) ?_
        refine r_iload dX9_has_28 0 rfl ?_
        refine r_iadd dX9_has_30 ?_
        refine r_top (nI (6 * l + k)) (nI_add _ _) ?_
        refine r_iald dX9_has_31 (hW.g 32 16 rfl) (vp_in_nI (by omega) (by decide)) ?_
        refine r_top (nI (B 16 (6 * l + k))) (by rw [nI_cl (by omega)]; exact rgm (by omega)) ?_
        refine r_iload_n dX9_has_32 rfl 4 rfl ?_
        refine r_icmp_ne 40 dX9_has_33 (by decide) (fun c_4 => ?_) (fun c_4 => ?_)
        · refine r_iconst (v := b2i (hsB (rg B 16 (6 * l) 6) (k + 1) (nI c))) dX9_has_40 (by rw [hsB_s, rgb hk6, decide_eq_false c_4, b2i_0 c_2] <;> rfl) ?_
          refine r_istore_n [(3, .int (b2i (hsB (rg B 16 (6 * l) 6) (k + 1) (nI c)))), (4, .int (nI k)), (0, .ref (ad 31 0)), (1, .int (nI l)), (2, .int (nI c))] dX9_has_41 rfl (by decide) rfl ?_
          refine r_iinc (nI (k + 1)) [(4, .int (nI (k + 1))), (3, .int (b2i (hsB (rg B 16 (6 * l) 6) (k + 1) (nI c)))), (0, .ref (ad 31 0)), (1, .int (nI l)), (2, .int (nI c))] dX9_has_42 1 rfl (nI_1 k) (by decide) rfl ?_
          refine r_goto 5 dX9_has_45 (by decide) ?_
          exact WP.loc [0, 1, 2, 3, 4] rfl (ih (k + 1) (by omega) (by omega))
        · refine r_iconst (v := b2i (hsB (rg B 16 (6 * l) 6) (k + 1) (nI c))) dX9_has_36 (by rw [hsB_s, rgb hk6, decide_eq_true c_4, Bool.or_true] <;> rfl) ?_
          refine r_goto 41 dX9_has_37 (by decide) ?_
          refine r_istore_n [(3, .int (b2i (hsB (rg B 16 (6 * l) 6) (k + 1) (nI c)))), (4, .int (nI k)), (0, .ref (ad 31 0)), (1, .int (nI l)), (2, .int (nI c))] dX9_has_41 rfl (by decide) rfl ?_
          refine r_iinc (nI (k + 1)) [(4, .int (nI (k + 1))), (3, .int (b2i (hsB (rg B 16 (6 * l) 6) (k + 1) (nI c)))), (0, .ref (ad 31 0)), (1, .int (nI l)), (2, .int (nI c))] dX9_has_42 1 rfl (nI_1 k) (by decide) rfl ?_
          refine r_goto 5 dX9_has_45 (by decide) ?_
          exact WP.loc [0, 1, 2, 3, 4] rfl (ih (k + 1) (by omega) (by omega))
set_option maxRecDepth 100000 in
set_option maxHeartbeats 4000000 in
theorem c_has {d b0 : Nat} {G : GH} {A B : ST} {ad : AD} (hW : World A B ad G) (hI : Inv B) {l c : Nat} (hl : l < 6) : CTd mX9_has d b0 G [.ref (ad 31 0), .int (nI l), .int (nI c)] 0 0 (some (.int (b2i (hlB B l c)))) G := by
  refine CT.intro (by decide +kernel) rfl (Nat.le_of_ble_eq_true rfl) ?_
  show WP mX9_has _ _ _ _ _ 0 0 0 [(0, .ref (ad 31 0)), (1, .int (nI l)), (2, .int (nI c))] []
  refine r_iconst (v := b2i (hsB (rg B 16 (6 * l) 6) 0 (nI c))) dX9_has_0 rfl ?_
  refine r_istore_n [(3, .int (b2i (hsB (rg B 16 (6 * l) 6) 0 (nI c)))), (0, .ref (ad 31 0)), (1, .int (nI l)), (2, .int (nI c))] dX9_has_1 rfl (by decide) rfl ?_
  refine r_iconst (v := nI 0) dX9_has_2 (by decide) ?_
  refine r_istore [(4, .int (nI 0)), (3, .int (b2i (hsB (rg B 16 (6 * l) 6) 0 (nI c)))), (0, .ref (ad 31 0)), (1, .int (nI l)), (2, .int (nI c))] dX9_has_3 (by decide) rfl ?_
  exact lp_X9_has hW hI hl _ 0 (Nat.zero_le _) (Nat.lt_succ_self _)
set_option maxRecDepth 100000 in
set_option maxHeartbeats 4000000 in
theorem m_put_0 {d b0 : Nat} {G : GH} {A B : ST} {ad : AD} (hW : World A B ad G) (hI : Inv B) {l c : Nat} (hl : l < B 15 0) (hc : c < B 9 0) (hh : hlB B l c = false) (hrm : B 17 l < 6) : CT mX9_put (d + 4) b0 G [.ref (ad 31 0), .int (nI l), .int (nI c)] 0 0 (MPo (nI (B 17 l + 1)) 0 (setA (setA B 16 (6 * l + B 17 l) c) 17 l (B 17 l + 1)) A ad) (fun _ _ => False) := by
  have hb0 := hI.b0
  have hb2 := hI.b2
  have hb9 := hI.b9
  have hb15 := hI.b15
  have hb18 := hI.b18
  have h17 := (hI.ro l (by omega)).1
  refine CT.intro (by decide +kernel) rfl (Nat.le_of_ble_eq_true rfl) ?_
  show WP mX9_put _ _ _ _ _ 0 0 0 [(0, .ref (ad 31 0)), (1, .int (nI l)), (2, .int (nI c))] []
  refine r_aload_n dX9_put_0 rfl 0 rfl ?_
  refine r_iload_n dX9_put_1 rfl 1 rfl ?_
  refine r_callV (st := []) [.int (nI l)] 0 0 dX9_put_2 kX9_isLetter nX9_isLetter lRX9_135 (hW.g 31 0 rfl) rfl (c_X9_isLetter hW (Nat.le_trans hb15 (by decide)) (nI l)) rfl rfl (Nat.le_of_ble_eq_true rfl) (Nat.le_refl _) (Nat.le_refl _) (fun _ _ h => h.elim) ?_
  refine cx_det (st2 := [.int (b2i (inB (nI l) (B 15 0)))]) rfl ?_
  refine r_if_eq 20 dX9_put_5 (by decide) (fun c_1 => absurd c_1 (b2i_no (inB_k hl (by omega)))) (fun c_1 => ?_)
  refine r_aload_n dX9_put_8 rfl 0 rfl ?_
  refine r_iload_n dX9_put_9 rfl 2 rfl ?_
  refine r_callV (st := []) [.int (nI c)] 0 0 dX9_put_10 kX9_isClause nX9_isClause lRX9_125 (hW.g 31 0 rfl) rfl (c_X9_isClause hW (Nat.le_trans hb9 (by decide)) (nI c)) rfl rfl (Nat.le_of_ble_eq_true rfl) (Nat.le_refl _) (Nat.le_refl _) (fun _ _ h => h.elim) ?_
  refine cx_det (st2 := [.int (b2i (inB (nI c) (B 9 0)))]) rfl ?_
  refine r_if_eq 20 dX9_put_13 (by decide) (fun c_2 => absurd c_2 (b2i_no (inB_k hc (by omega)))) (fun c_2 => ?_)
  refine r_iconst (v := 1) dX9_put_16 (by decide) ?_
  refine r_goto 21 dX9_put_17 (by decide) ?_
  refine r_istore_n [(3, .int 1), (0, .ref (ad 31 0)), (1, .int (nI l)), (2, .int (nI c))] dX9_put_21 rfl (by decide) rfl ?_
  refine r_aload_n dX9_put_22 rfl 1 rfl ?_
  refine r_iload_n dX9_put_23 rfl 0 rfl ?_
  refine r_if_ne 31 dX9_put_24 (by decide) (fun c_3 => ?_) (fun c_3 => absurd c_3 (by decide))
  refine r_aload_n dX9_put_31 rfl 1 rfl ?_
  refine r_iload_n dX9_put_32 rfl 2 rfl ?_
  refine r_iload_n dX9_put_33 rfl 3 rfl ?_
  refine r_callV (st := [.ref (ad 31 0)]) [.int (nI l), .int (nI c)] 0 0 dX9_put_34 kX9_has nX9_has lRX9_138 (hW.g 31 0 rfl) rfl (c_has hW hI (show l < 6 by omega)) rfl rfl (Nat.le_of_ble_eq_true rfl) (Nat.le_refl _) (Nat.le_refl _) (fun _ _ h => h.elim) ?_
  refine cx_det (st2 := [.int (b2i (hlB B l c)), .ref (ad 31 0)]) rfl ?_
  refine r_if_ne 51 dX9_put_37 (by decide) (fun c_4 => absurd (b2i_z hh) c_4) (fun c_4 => ?_)
  refine r_aload_n dX9_put_40 rfl 1 rfl ?_
  refine r_get 17 dX9_put_41 fRX9_51 (hW.g 31 0 rfl) rfl ?_
  refine r_iload_n dX9_put_44 rfl 2 rfl ?_
  refine r_iald dX9_put_45 (hW.g 32 17 rfl) (vp_in_nI (by omega) (by decide)) ?_
  refine r_top (nI (B 17 l)) (by rw [nI_cl (by omega)]; exact rgm (by omega)) ?_
  refine r_bipush (v := 6) dX9_put_46 (by decide) ?_
  refine r_icmp_ne 55 dX9_put_48 (by decide) (fun c_5 => ?_) (fun c_5 => absurd c_5 (fun q => Nat.ne_of_lt hrm (ni_eq (b := 6) (by omega) (by decide) q)))
  refine r_iconst (v := 0) dX9_put_55 (by decide) ?_
  refine r_callV (st := []) [.int 0] 0 0 dX9_put_56 kX9_goes nX9_goes lRX9_92 (hW.g 31 0 rfl) rfl (c_goes hW 0) rfl rfl (Nat.le_of_ble_eq_true rfl) (Nat.le_refl _) (Nat.le_refl _) (fun _ _ h => h.elim) ?_
  refine cx_det (st2 := [.int 1]) rfl ?_
  have hW_6 : World A (setA B 26 0 0) ad (va_up G (ad 31 0) (some (.inr (9, (mF B ad).set 26 (.int (nI 0)))))) := m_s26 hW 0
  refine r_heap (G' := va_up G (ad 31 0) (some (.inr (9, (mF B ad).set 26 (.int (nI 0)))))) rfl ?_
  refine r_if_ne 64 dX9_put_59 (by decide) (fun c_7 => ?_) (fun c_7 => absurd c_7 (by decide))
  refine r_aload_n dX9_put_64 rfl 1 rfl ?_
  refine r_get 16 dX9_put_65 fRX9_48 (hW_6.g 31 0 rfl) rfl ?_
  refine r_bipush (v := 6) dX9_put_68 (by decide) ?_
  refine r_iload_n dX9_put_70 rfl 2 rfl ?_
  refine r_imul dX9_put_71 ?_
  refine r_top (nI (6 * l)) (pk_mul 6 l) ?_
  refine r_aload_n dX9_put_72 rfl 1 rfl ?_
  refine r_get 17 dX9_put_73 fRX9_51 (hW_6.g 31 0 rfl) rfl ?_
  refine r_iload_n dX9_put_76 rfl 2 rfl ?_
  refine r_iald dX9_put_77 (hW_6.g 32 17 rfl) (vp_in_nI (by omega) (by decide)) ?_
  refine r_top (nI (B 17 l)) (by rw [nI_cl (by omega)]; exact rgm (by omega)) ?_
  refine r_iadd dX9_put_78 ?_
  refine r_top (nI (6 * l + B 17 l)) (nI_add _ _) ?_
  refine r_iload_n dX9_put_79 rfl 3 rfl ?_
  refine r_iast dX9_put_80 (hW_6.g 32 16 rfl) (vp_in_nI (by omega) (by decide)) ?_
  have hW_8 : World A (setA (setA B 26 0 0) 16 (6 * l + B 17 l) c) ad (va_up (va_up G (ad 31 0) (some (.inr (9, (mF B ad).set 26 (.int (nI 0)))))) (ad 32 16) (some (.inl (.int, 36, .inl (upd (rg (setA B 26 0 0) 16 0 36) (6 * l + B 17 l) (nI c)))))) := m_a16 hW_6 (by omega)
  refine r_heap (G' := va_up (va_up G (ad 31 0) (some (.inr (9, (mF B ad).set 26 (.int (nI 0)))))) (ad 32 16) (some (.inl (.int, 36, .inl (upd (rg (setA B 26 0 0) 16 0 36) (6 * l + B 17 l) (nI c)))))) (by rw [nI_cl (by omega)] <;> rfl) ?_
  refine r_aload_n dX9_put_81 rfl 1 rfl ?_
  refine r_get 17 dX9_put_82 fRX9_51 (hW_8.g 31 0 rfl) rfl ?_
  refine r_iload_n dX9_put_85 rfl 2 rfl ?_
  refine r_dup2 dX9_put_86 rfl rfl ?_
  refine r_iald dX9_put_87 (hW_8.g 32 17 rfl) (vp_in_nI (by omega) (by decide)) ?_
  refine r_top (nI (B 17 l)) (by rw [nI_cl (by omega)]; exact rgm (by omega)) ?_
  refine r_iconst (v := 1) dX9_put_88 (by decide) ?_
  refine r_iadd dX9_put_89 ?_
  refine r_top (nI (B 17 l + 1)) (nI_1 _) ?_
  refine r_iast dX9_put_90 (hW_8.g 32 17 rfl) (vp_in_nI (by omega) (by decide)) ?_
  have hW_9 : World A (setA (setA (setA B 26 0 0) 16 (6 * l + B 17 l) c) 17 l (B 17 l + 1)) ad (va_up (va_up (va_up G (ad 31 0) (some (.inr (9, (mF B ad).set 26 (.int (nI 0)))))) (ad 32 16) (some (.inl (.int, 36, .inl (upd (rg (setA B 26 0 0) 16 0 36) (6 * l + B 17 l) (nI c)))))) (ad 32 17) (some (.inl (.int, 6, .inl (upd (rg (setA (setA B 26 0 0) 16 (6 * l + B 17 l) c) 17 0 6) l (nI (B 17 l + 1))))))) := m_a17 hW_8 (by omega)
  refine r_heap (G' := va_up (va_up (va_up G (ad 31 0) (some (.inr (9, (mF B ad).set 26 (.int (nI 0)))))) (ad 32 16) (some (.inl (.int, 36, .inl (upd (rg (setA B 26 0 0) 16 0 36) (6 * l + B 17 l) (nI c)))))) (ad 32 17) (some (.inl (.int, 6, .inl (upd (rg (setA (setA B 26 0 0) 16 (6 * l + B 17 l) c) 17 0 6) l (nI (B 17 l + 1))))))) (by rw [nI_cl (by omega)] <;> rfl) ?_
  refine r_aload_n dX9_put_91 rfl 1 rfl ?_
  refine r_get 17 dX9_put_92 fRX9_51 (hW_9.g 31 0 rfl) rfl ?_
  refine r_iload_n dX9_put_95 rfl 2 rfl ?_
  refine r_iald dX9_put_96 (hW_9.g 32 17 rfl) (vp_in_nI (by omega) (by decide)) ?_
  refine r_top (nI (B 17 l + 1)) (by rw [nI_cl (by omega)]; exact (rgm (by omega)).trans (congrArg nI setA_s)) ?_
  refine r_ireti dX9_put_97 rfl ?_
  exact ⟨rfl, (setA (setA (setA B 26 0 0) 16 (6 * l + B 17 l) c) 17 l (B 17 l + 1)), hW_9, rfl, (scg (scg (s26 (fun f _ => rfl))))⟩
set_option maxRecDepth 100000 in
set_option maxHeartbeats 4000000 in
theorem m_put_1a {d b0 : Nat} {G : GH} {A B : ST} {ad : AD} (hW : World A B ad G) (hI : Inv B) {x y : Int32} (hx : inB x (B 15 0) = false) : CT mX9_put (d + 4) b0 G [.ref (ad 31 0), .int x, .int y] 0 0 (MPo 0 1 B A ad) (fun _ _ => False) := by
  have hb0 := hI.b0
  have hb2 := hI.b2
  have hb9 := hI.b9
  have hb15 := hI.b15
  have hb18 := hI.b18
  refine CT.intro (by decide +kernel) rfl (Nat.le_of_ble_eq_true rfl) ?_
  show WP mX9_put _ _ _ _ _ 0 0 0 [(0, .ref (ad 31 0)), (1, .int x), (2, .int y)] []
  refine r_aload_n dX9_put_0 rfl 0 rfl ?_
  refine r_iload_n dX9_put_1 rfl 1 rfl ?_
  refine r_callV (st := []) [.int x] 0 0 dX9_put_2 kX9_isLetter nX9_isLetter lRX9_135 (hW.g 31 0 rfl) rfl (c_X9_isLetter hW (Nat.le_trans hb15 (by decide)) x) rfl rfl (Nat.le_of_ble_eq_true rfl) (Nat.le_refl _) (Nat.le_refl _) (fun _ _ h => h.elim) ?_
  refine cx_det (st2 := [.int (b2i (inB x (B 15 0)))]) rfl ?_
  refine r_if_eq 20 dX9_put_5 (by decide) (fun c_1 => ?_) (fun c_1 => absurd (b2i_z hx) c_1)
  refine r_iconst (v := 0) dX9_put_20 (by decide) ?_
  refine r_istore_n [(3, .int 0), (0, .ref (ad 31 0)), (1, .int x), (2, .int y)] dX9_put_21 rfl (by decide) rfl ?_
  refine r_aload_n dX9_put_22 rfl 1 rfl ?_
  refine r_iload_n dX9_put_23 rfl 0 rfl ?_
  refine r_if_ne 31 dX9_put_24 (by decide) (fun c_2 => absurd (by decide) c_2) (fun c_2 => ?_)
  refine r_iconst (v := 1) dX9_put_27 (by decide) ?_
  refine r_goto 56 dX9_put_28 (by decide) ?_
  refine r_callV (st := []) [.int 1] 0 0 dX9_put_56 kX9_goes nX9_goes lRX9_92 (hW.g 31 0 rfl) rfl (c_goes hW 1) rfl rfl (Nat.le_of_ble_eq_true rfl) (Nat.le_refl _) (Nat.le_refl _) (fun _ _ h => h.elim) ?_
  refine cx_det (st2 := [.int 0]) rfl ?_
  have hW_3 : World A (setA B 26 0 1) ad (va_up G (ad 31 0) (some (.inr (9, (mF B ad).set 26 (.int (nI 1)))))) := m_s26 hW 1
  refine r_heap (G' := va_up G (ad 31 0) (some (.inr (9, (mF B ad).set 26 (.int (nI 1)))))) rfl ?_
  refine r_if_ne 64 dX9_put_59 (by decide) (fun c_4 => absurd (by decide) c_4) (fun c_4 => ?_)
  refine r_iconst (v := 0) dX9_put_62 (by decide) ?_
  refine r_ireti dX9_put_63 rfl ?_
  exact ⟨rfl, (setA B 26 0 1), hW_3, rfl, (s26 (fun f _ => rfl))⟩
set_option maxRecDepth 100000 in
set_option maxHeartbeats 4000000 in
theorem m_put_1b {d b0 : Nat} {G : GH} {A B : ST} {ad : AD} (hW : World A B ad G) (hI : Inv B) {l : Nat} {y : Int32} (hl : l < B 15 0) (hy : inB y (B 9 0) = false) : CT mX9_put (d + 4) b0 G [.ref (ad 31 0), .int (nI l), .int y] 0 0 (MPo 0 1 B A ad) (fun _ _ => False) := by
  have hb0 := hI.b0
  have hb2 := hI.b2
  have hb9 := hI.b9
  have hb15 := hI.b15
  have hb18 := hI.b18
  refine CT.intro (by decide +kernel) rfl (Nat.le_of_ble_eq_true rfl) ?_
  show WP mX9_put _ _ _ _ _ 0 0 0 [(0, .ref (ad 31 0)), (1, .int (nI l)), (2, .int y)] []
  refine r_aload_n dX9_put_0 rfl 0 rfl ?_
  refine r_iload_n dX9_put_1 rfl 1 rfl ?_
  refine r_callV (st := []) [.int (nI l)] 0 0 dX9_put_2 kX9_isLetter nX9_isLetter lRX9_135 (hW.g 31 0 rfl) rfl (c_X9_isLetter hW (Nat.le_trans hb15 (by decide)) (nI l)) rfl rfl (Nat.le_of_ble_eq_true rfl) (Nat.le_refl _) (Nat.le_refl _) (fun _ _ h => h.elim) ?_
  refine cx_det (st2 := [.int (b2i (inB (nI l) (B 15 0)))]) rfl ?_
  refine r_if_eq 20 dX9_put_5 (by decide) (fun c_1 => absurd c_1 (b2i_no (inB_k hl (by omega)))) (fun c_1 => ?_)
  refine r_aload_n dX9_put_8 rfl 0 rfl ?_
  refine r_iload_n dX9_put_9 rfl 2 rfl ?_
  refine r_callV (st := []) [.int y] 0 0 dX9_put_10 kX9_isClause nX9_isClause lRX9_125 (hW.g 31 0 rfl) rfl (c_X9_isClause hW (Nat.le_trans hb9 (by decide)) y) rfl rfl (Nat.le_of_ble_eq_true rfl) (Nat.le_refl _) (Nat.le_refl _) (fun _ _ h => h.elim) ?_
  refine cx_det (st2 := [.int (b2i (inB y (B 9 0)))]) rfl ?_
  refine r_if_eq 20 dX9_put_13 (by decide) (fun c_2 => ?_) (fun c_2 => absurd (b2i_z hy) c_2)
  refine r_iconst (v := 0) dX9_put_20 (by decide) ?_
  refine r_istore_n [(3, .int 0), (0, .ref (ad 31 0)), (1, .int (nI l)), (2, .int y)] dX9_put_21 rfl (by decide) rfl ?_
  refine r_aload_n dX9_put_22 rfl 1 rfl ?_
  refine r_iload_n dX9_put_23 rfl 0 rfl ?_
  refine r_if_ne 31 dX9_put_24 (by decide) (fun c_3 => absurd (by decide) c_3) (fun c_3 => ?_)
  refine r_iconst (v := 1) dX9_put_27 (by decide) ?_
  refine r_goto 56 dX9_put_28 (by decide) ?_
  refine r_callV (st := []) [.int 1] 0 0 dX9_put_56 kX9_goes nX9_goes lRX9_92 (hW.g 31 0 rfl) rfl (c_goes hW 1) rfl rfl (Nat.le_of_ble_eq_true rfl) (Nat.le_refl _) (Nat.le_refl _) (fun _ _ h => h.elim) ?_
  refine cx_det (st2 := [.int 0]) rfl ?_
  have hW_4 : World A (setA B 26 0 1) ad (va_up G (ad 31 0) (some (.inr (9, (mF B ad).set 26 (.int (nI 1)))))) := m_s26 hW 1
  refine r_heap (G' := va_up G (ad 31 0) (some (.inr (9, (mF B ad).set 26 (.int (nI 1)))))) rfl ?_
  refine r_if_ne 64 dX9_put_59 (by decide) (fun c_5 => absurd (by decide) c_5) (fun c_5 => ?_)
  refine r_iconst (v := 0) dX9_put_62 (by decide) ?_
  refine r_ireti dX9_put_63 rfl ?_
  exact ⟨rfl, (setA B 26 0 1), hW_4, rfl, (s26 (fun f _ => rfl))⟩
set_option maxRecDepth 100000 in
set_option maxHeartbeats 4000000 in
theorem m_put_2a {d b0 : Nat} {G : GH} {A B : ST} {ad : AD} (hW : World A B ad G) (hI : Inv B) {l c : Nat} (hl : l < B 15 0) (hc : c < B 9 0) (hh : hlB B l c = true) : CT mX9_put (d + 4) b0 G [.ref (ad 31 0), .int (nI l), .int (nI c)] 0 0 (MPo 0 2 B A ad) (fun _ _ => False) := by
  have hb0 := hI.b0
  have hb2 := hI.b2
  have hb9 := hI.b9
  have hb15 := hI.b15
  have hb18 := hI.b18
  have h17 := (hI.ro l (by omega)).1
  refine CT.intro (by decide +kernel) rfl (Nat.le_of_ble_eq_true rfl) ?_
  show WP mX9_put _ _ _ _ _ 0 0 0 [(0, .ref (ad 31 0)), (1, .int (nI l)), (2, .int (nI c))] []
  refine r_aload_n dX9_put_0 rfl 0 rfl ?_
  refine r_iload_n dX9_put_1 rfl 1 rfl ?_
  refine r_callV (st := []) [.int (nI l)] 0 0 dX9_put_2 kX9_isLetter nX9_isLetter lRX9_135 (hW.g 31 0 rfl) rfl (c_X9_isLetter hW (Nat.le_trans hb15 (by decide)) (nI l)) rfl rfl (Nat.le_of_ble_eq_true rfl) (Nat.le_refl _) (Nat.le_refl _) (fun _ _ h => h.elim) ?_
  refine cx_det (st2 := [.int (b2i (inB (nI l) (B 15 0)))]) rfl ?_
  refine r_if_eq 20 dX9_put_5 (by decide) (fun c_1 => absurd c_1 (b2i_no (inB_k hl (by omega)))) (fun c_1 => ?_)
  refine r_aload_n dX9_put_8 rfl 0 rfl ?_
  refine r_iload_n dX9_put_9 rfl 2 rfl ?_
  refine r_callV (st := []) [.int (nI c)] 0 0 dX9_put_10 kX9_isClause nX9_isClause lRX9_125 (hW.g 31 0 rfl) rfl (c_X9_isClause hW (Nat.le_trans hb9 (by decide)) (nI c)) rfl rfl (Nat.le_of_ble_eq_true rfl) (Nat.le_refl _) (Nat.le_refl _) (fun _ _ h => h.elim) ?_
  refine cx_det (st2 := [.int (b2i (inB (nI c) (B 9 0)))]) rfl ?_
  refine r_if_eq 20 dX9_put_13 (by decide) (fun c_2 => absurd c_2 (b2i_no (inB_k hc (by omega)))) (fun c_2 => ?_)
  refine r_iconst (v := 1) dX9_put_16 (by decide) ?_
  refine r_goto 21 dX9_put_17 (by decide) ?_
  refine r_istore_n [(3, .int 1), (0, .ref (ad 31 0)), (1, .int (nI l)), (2, .int (nI c))] dX9_put_21 rfl (by decide) rfl ?_
  refine r_aload_n dX9_put_22 rfl 1 rfl ?_
  refine r_iload_n dX9_put_23 rfl 0 rfl ?_
  refine r_if_ne 31 dX9_put_24 (by decide) (fun c_3 => ?_) (fun c_3 => absurd c_3 (by decide))
  refine r_aload_n dX9_put_31 rfl 1 rfl ?_
  refine r_iload_n dX9_put_32 rfl 2 rfl ?_
  refine r_iload_n dX9_put_33 rfl 3 rfl ?_
  refine r_callV (st := [.ref (ad 31 0)]) [.int (nI l), .int (nI c)] 0 0 dX9_put_34 kX9_has nX9_has lRX9_138 (hW.g 31 0 rfl) rfl (c_has hW hI (show l < 6 by omega)) rfl rfl (Nat.le_of_ble_eq_true rfl) (Nat.le_refl _) (Nat.le_refl _) (fun _ _ h => h.elim) ?_
  refine cx_det (st2 := [.int (b2i (hlB B l c)), .ref (ad 31 0)]) rfl ?_
  refine r_if_ne 51 dX9_put_37 (by decide) (fun c_4 => ?_) (fun c_4 => absurd c_4 (b2i_no hh))
  refine r_iconst (v := 2) dX9_put_51 (by decide) ?_
  refine r_goto 56 dX9_put_52 (by decide) ?_
  refine r_callV (st := []) [.int 2] 0 0 dX9_put_56 kX9_goes nX9_goes lRX9_92 (hW.g 31 0 rfl) rfl (c_goes hW 2) rfl rfl (Nat.le_of_ble_eq_true rfl) (Nat.le_refl _) (Nat.le_refl _) (fun _ _ h => h.elim) ?_
  refine cx_det (st2 := [.int 0]) rfl ?_
  have hW_5 : World A (setA B 26 0 2) ad (va_up G (ad 31 0) (some (.inr (9, (mF B ad).set 26 (.int (nI 2)))))) := m_s26 hW 2
  refine r_heap (G' := va_up G (ad 31 0) (some (.inr (9, (mF B ad).set 26 (.int (nI 2)))))) rfl ?_
  refine r_if_ne 64 dX9_put_59 (by decide) (fun c_6 => absurd (by decide) c_6) (fun c_6 => ?_)
  refine r_iconst (v := 0) dX9_put_62 (by decide) ?_
  refine r_ireti dX9_put_63 rfl ?_
  exact ⟨rfl, (setA B 26 0 2), hW_5, rfl, (s26 (fun f _ => rfl))⟩
set_option maxRecDepth 100000 in
set_option maxHeartbeats 4000000 in
theorem m_put_2b {d b0 : Nat} {G : GH} {A B : ST} {ad : AD} (hW : World A B ad G) (hI : Inv B) {l c : Nat} (hl : l < B 15 0) (hc : c < B 9 0) (hh : hlB B l c = false) (hrm : ¬ B 17 l < 6) : CT mX9_put (d + 4) b0 G [.ref (ad 31 0), .int (nI l), .int (nI c)] 0 0 (MPo 0 2 B A ad) (fun _ _ => False) := by
  have hb0 := hI.b0
  have hb2 := hI.b2
  have hb9 := hI.b9
  have hb15 := hI.b15
  have hb18 := hI.b18
  have h17 := (hI.ro l (by omega)).1
  refine CT.intro (by decide +kernel) rfl (Nat.le_of_ble_eq_true rfl) ?_
  show WP mX9_put _ _ _ _ _ 0 0 0 [(0, .ref (ad 31 0)), (1, .int (nI l)), (2, .int (nI c))] []
  refine r_aload_n dX9_put_0 rfl 0 rfl ?_
  refine r_iload_n dX9_put_1 rfl 1 rfl ?_
  refine r_callV (st := []) [.int (nI l)] 0 0 dX9_put_2 kX9_isLetter nX9_isLetter lRX9_135 (hW.g 31 0 rfl) rfl (c_X9_isLetter hW (Nat.le_trans hb15 (by decide)) (nI l)) rfl rfl (Nat.le_of_ble_eq_true rfl) (Nat.le_refl _) (Nat.le_refl _) (fun _ _ h => h.elim) ?_
  refine cx_det (st2 := [.int (b2i (inB (nI l) (B 15 0)))]) rfl ?_
  refine r_if_eq 20 dX9_put_5 (by decide) (fun c_1 => absurd c_1 (b2i_no (inB_k hl (by omega)))) (fun c_1 => ?_)
  refine r_aload_n dX9_put_8 rfl 0 rfl ?_
  refine r_iload_n dX9_put_9 rfl 2 rfl ?_
  refine r_callV (st := []) [.int (nI c)] 0 0 dX9_put_10 kX9_isClause nX9_isClause lRX9_125 (hW.g 31 0 rfl) rfl (c_X9_isClause hW (Nat.le_trans hb9 (by decide)) (nI c)) rfl rfl (Nat.le_of_ble_eq_true rfl) (Nat.le_refl _) (Nat.le_refl _) (fun _ _ h => h.elim) ?_
  refine cx_det (st2 := [.int (b2i (inB (nI c) (B 9 0)))]) rfl ?_
  refine r_if_eq 20 dX9_put_13 (by decide) (fun c_2 => absurd c_2 (b2i_no (inB_k hc (by omega)))) (fun c_2 => ?_)
  refine r_iconst (v := 1) dX9_put_16 (by decide) ?_
  refine r_goto 21 dX9_put_17 (by decide) ?_
  refine r_istore_n [(3, .int 1), (0, .ref (ad 31 0)), (1, .int (nI l)), (2, .int (nI c))] dX9_put_21 rfl (by decide) rfl ?_
  refine r_aload_n dX9_put_22 rfl 1 rfl ?_
  refine r_iload_n dX9_put_23 rfl 0 rfl ?_
  refine r_if_ne 31 dX9_put_24 (by decide) (fun c_3 => ?_) (fun c_3 => absurd c_3 (by decide))
  refine r_aload_n dX9_put_31 rfl 1 rfl ?_
  refine r_iload_n dX9_put_32 rfl 2 rfl ?_
  refine r_iload_n dX9_put_33 rfl 3 rfl ?_
  refine r_callV (st := [.ref (ad 31 0)]) [.int (nI l), .int (nI c)] 0 0 dX9_put_34 kX9_has nX9_has lRX9_138 (hW.g 31 0 rfl) rfl (c_has hW hI (show l < 6 by omega)) rfl rfl (Nat.le_of_ble_eq_true rfl) (Nat.le_refl _) (Nat.le_refl _) (fun _ _ h => h.elim) ?_
  refine cx_det (st2 := [.int (b2i (hlB B l c)), .ref (ad 31 0)]) rfl ?_
  refine r_if_ne 51 dX9_put_37 (by decide) (fun c_4 => absurd (b2i_z hh) c_4) (fun c_4 => ?_)
  refine r_aload_n dX9_put_40 rfl 1 rfl ?_
  refine r_get 17 dX9_put_41 fRX9_51 (hW.g 31 0 rfl) rfl ?_
  refine r_iload_n dX9_put_44 rfl 2 rfl ?_
  refine r_iald dX9_put_45 (hW.g 32 17 rfl) (vp_in_nI (by omega) (by decide)) ?_
  refine r_top (nI (B 17 l)) (by rw [nI_cl (by omega)]; exact rgm (by omega)) ?_
  refine r_bipush (v := 6) dX9_put_46 (by decide) ?_
  refine r_icmp_ne 55 dX9_put_48 (by decide) (fun c_5 => absurd (show nI (B 17 l) = 6 by rw [show B 17 l = 6 by omega]; rfl) c_5) (fun c_5 => ?_)
  refine r_iconst (v := 2) dX9_put_51 (by decide) ?_
  refine r_goto 56 dX9_put_52 (by decide) ?_
  refine r_callV (st := []) [.int 2] 0 0 dX9_put_56 kX9_goes nX9_goes lRX9_92 (hW.g 31 0 rfl) rfl (c_goes hW 2) rfl rfl (Nat.le_of_ble_eq_true rfl) (Nat.le_refl _) (Nat.le_refl _) (fun _ _ h => h.elim) ?_
  refine cx_det (st2 := [.int 0]) rfl ?_
  have hW_6 : World A (setA B 26 0 2) ad (va_up G (ad 31 0) (some (.inr (9, (mF B ad).set 26 (.int (nI 2)))))) := m_s26 hW 2
  refine r_heap (G' := va_up G (ad 31 0) (some (.inr (9, (mF B ad).set 26 (.int (nI 2)))))) rfl ?_
  refine r_if_ne 64 dX9_put_59 (by decide) (fun c_7 => absurd (by decide) c_7) (fun c_7 => ?_)
  refine r_iconst (v := 0) dX9_put_62 (by decide) ?_
  refine r_ireti dX9_put_63 rfl ?_
  exact ⟨rfl, (setA B 26 0 2), hW_6, rfl, (s26 (fun f _ => rfl))⟩
