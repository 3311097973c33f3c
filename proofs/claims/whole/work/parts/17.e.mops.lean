theorem in_m {x : Int32} : s_X9_isIn x (-1) 7 = b2i (decide (x = -1) || inB x 8) := by
  by_cases h : x = -1
  · rw [h]; decide
  · rw [decide_eq_false h, Bool.false_or, ← inB_s]
    unfold s_X9_isIn s_X8_isBelow
    have h0 : x.toInt ≠ -1 := fun q => h (Int32.toInt_inj.mp q)
    have e1 : x < -1 ↔ x < 0 := by
      rw [Int32.lt_iff_toInt_lt, Int32.lt_iff_toInt_lt, show (-1 : Int32).toInt = -1 by decide, show (0 : Int32).toInt = 0 by decide]
      omega
    have e2 : 7 < x ↔ nI 8 ≤ x := by
      rw [Int32.lt_iff_toInt_lt, Int32.le_iff_toInt_le, show (7 : Int32).toInt = 7 by decide, show (nI 8).toInt = 8 by decide]
      omega
    by_cases q : x < 0
    · rw [if_pos (e1.mpr q), if_pos q]
    · rw [if_neg (fun r => q (e1.mp r)), if_neg q]
      by_cases q2 : nI 8 ≤ x
      · rw [if_pos (e2.mpr q2), if_pos q2]
      · rw [if_neg (fun r => q2 (e2.mp r)), if_neg q2]
theorem c_inm {d b0 : Nat} {G : GH} (x : Int32) : CTd mX9_isIn d b0 G [.int x, .int (-1), .int 7] 0 0 (some (.int (b2i (decide (x = -1) || inB x 8)))) G := by
  rw [← in_m]
  exact c_X9_isIn x _ _
set_option maxRecDepth 100000 in
set_option maxHeartbeats 4000000 in
theorem m_clause_0 {d b0 : Nat} {G : GH} {A B : ST} {ad : AD} (hW : World A B ad G) (hI : Inv B) {b : Nat} (hx : (decide (nI b - 1 = -1) || inB (nI b - 1) 8) = true) (hn : B 9 0 < 10) : CT mX9_clause (d + 4) b0 G [.ref (ad 31 0), .int (nI b - 1)] 0 0 (MPo (nI (B 9 0)) 0 (setA (setA B 10 (B 9 0) b) 9 0 (B 9 0 + 1)) A ad) (fun _ _ => False) := by
  have hb0 := hI.b0
  have hb2 := hI.b2
  have hb9 := hI.b9
  have hb15 := hI.b15
  have hb18 := hI.b18
  refine CT.intro (by decide +kernel) rfl (Nat.le_of_ble_eq_true rfl) ?_
  show WP mX9_clause _ _ _ _ _ 0 0 0 [(0, .ref (ad 31 0)), (1, .int (nI b - 1))] []
  refine r_aload_n dX9_clause_0 rfl 0 rfl ?_
  refine r_iload_n dX9_clause_1 rfl 1 rfl ?_
  refine r_iconst (v := (-1)) dX9_clause_2 (by decide) ?_
  refine r_bipush (v := 7) dX9_clause_3 (by decide) ?_
  refine r_callS (st := [.ref (ad 31 0)]) [.int (nI b - 1), .int (-1), .int 7] 0 0 dX9_clause_5 kX9_isIn nX9_isIn lRX9_73 (c_inm (nI b - 1)) rfl rfl (Nat.le_of_ble_eq_true rfl) (Nat.le_refl _) (Nat.le_refl _) (fun _ _ h => h.elim) ?_
  refine cx_det (st2 := [.int (b2i (decide (nI b - 1 = -1) || inB (nI b - 1) 8)), .ref (ad 31 0)]) rfl ?_
  refine r_if_ne 15 dX9_clause_8 (by decide) (fun c_1 => ?_) (fun c_1 => absurd c_1 (b2i_no hx))
  refine r_aload_n dX9_clause_15 rfl 0 rfl ?_
  refine r_get 9 dX9_clause_16 fRX9_80 (hW.g 31 0 rfl) rfl ?_
  refine r_bipush (v := 10) dX9_clause_19 (by decide) ?_
  refine r_icmp_ne 28 dX9_clause_21 (by decide) (fun c_2 => ?_) (fun c_2 => absurd c_2 (fun q => Nat.ne_of_lt hn (ni_eq (b := 10) (by omega) (by decide) q)))
  refine r_iconst (v := 0) dX9_clause_28 (by decide) ?_
  refine r_callV (st := []) [.int 0] 0 0 dX9_clause_29 kX9_goes nX9_goes lRX9_92 (hW.g 31 0 rfl) rfl (c_goes hW 0) rfl rfl (Nat.le_of_ble_eq_true rfl) (Nat.le_refl _) (Nat.le_refl _) (fun _ _ h => h.elim) ?_
  refine cx_det (st2 := [.int 1]) rfl ?_
  have hW_3 : World A (setA B 26 0 0) ad (va_up G (ad 31 0) (some (.inr (9, (mF B ad).set 26 (.int (nI 0)))))) := m_s26 hW 0
  refine r_heap (G' := va_up G (ad 31 0) (some (.inr (9, (mF B ad).set 26 (.int (nI 0)))))) rfl ?_
  refine r_if_ne 37 dX9_clause_32 (by decide) (fun c_4 => ?_) (fun c_4 => absurd c_4 (by decide))
  refine r_aload_n dX9_clause_37 rfl 0 rfl ?_
  refine r_get 10 dX9_clause_38 fRX9_32 (hW_3.g 31 0 rfl) rfl ?_
  refine r_aload_n dX9_clause_41 rfl 0 rfl ?_
  refine r_get 9 dX9_clause_42 fRX9_80 (hW_3.g 31 0 rfl) rfl ?_
  refine r_top (nI (B 9 0)) rfl ?_
  refine r_iload_n dX9_clause_45 rfl 1 rfl ?_
  refine r_iast dX9_clause_46 (hW_3.g 32 10 rfl) (vp_in_nI (by omega) (by decide)) ?_
  have hW_5 : World A (setA (setA B 26 0 0) 10 (B 9 0) b) ad (va_up (va_up G (ad 31 0) (some (.inr (9, (mF B ad).set 26 (.int (nI 0)))))) (ad 32 10) (some (.inl (.int, 10, .inl (upd (fun k => if k < 10 then nI ((setA B 26 0 0) 10 k) - 1 else 0) (B 9 0) (nI b - 1)))))) := m_a10 hW_3 (by omega)
  refine r_heap (G' := va_up (va_up G (ad 31 0) (some (.inr (9, (mF B ad).set 26 (.int (nI 0)))))) (ad 32 10) (some (.inl (.int, 10, .inl (upd (fun k => if k < 10 then nI ((setA B 26 0 0) 10 k) - 1 else 0) (B 9 0) (nI b - 1)))))) (by rw [nI_cl (by omega)] <;> rfl) ?_
  refine r_aload_n dX9_clause_47 rfl 0 rfl ?_
  refine r_dup dX9_clause_48 rfl ?_
  refine r_get 9 dX9_clause_49 fRX9_80 (hW_5.g 31 0 rfl) rfl ?_
  refine r_top (nI (B 9 0)) rfl ?_
  refine r_iconst (v := 1) dX9_clause_52 (by decide) ?_
  refine r_iadd dX9_clause_53 ?_
  refine r_top (nI (B 9 0 + 1)) (nI_1 _) ?_
  refine r_put 9 (.int) dX9_clause_54 gRX9_80 (hW_5.g 31 0 rfl) (Nat.le_of_ble_eq_true rfl) rfl rfl ?_
  have hW_6 : World A (setA (setA (setA B 26 0 0) 10 (B 9 0) b) 9 0 (B 9 0 + 1)) ad (va_up (va_up (va_up G (ad 31 0) (some (.inr (9, (mF B ad).set 26 (.int (nI 0)))))) (ad 32 10) (some (.inl (.int, 10, .inl (upd (fun k => if k < 10 then nI ((setA B 26 0 0) 10 k) - 1 else 0) (B 9 0) (nI b - 1)))))) (ad 31 0) (some (.inr (9, (mF (setA (setA B 26 0 0) 10 (B 9 0) b) ad).set 9 (.int (nI (B 9 0 + 1))))))) := m_s9 hW_5 (B 9 0 + 1)
  refine r_heap (G' := va_up (va_up (va_up G (ad 31 0) (some (.inr (9, (mF B ad).set 26 (.int (nI 0)))))) (ad 32 10) (some (.inl (.int, 10, .inl (upd (fun k => if k < 10 then nI ((setA B 26 0 0) 10 k) - 1 else 0) (B 9 0) (nI b - 1)))))) (ad 31 0) (some (.inr (9, (mF (setA (setA B 26 0 0) 10 (B 9 0) b) ad).set 9 (.int (nI (B 9 0 + 1))))))) rfl ?_
  refine r_aload_n dX9_clause_57 rfl 0 rfl ?_
  refine r_get 9 dX9_clause_58 fRX9_80 (hW_6.g 31 0 rfl) rfl ?_
  refine r_top (nI (B 9 0 + 1)) rfl ?_
  refine r_iconst (v := 1) dX9_clause_61 (by decide) ?_
  refine r_isub dX9_clause_62 ?_
  refine r_top (nI (B 9 0)) (nI_m1 _) ?_
  refine r_ireti dX9_clause_63 rfl ?_
  exact ⟨rfl, (setA (setA (setA B 26 0 0) 10 (B 9 0) b) 9 0 (B 9 0 + 1)), hW_6, rfl, (scg (scg (s26 (fun f _ => rfl))))⟩
set_option maxRecDepth 100000 in
set_option maxHeartbeats 4000000 in
theorem m_clause_1 {d b0 : Nat} {G : GH} {A B : ST} {ad : AD} (hW : World A B ad G) (hI : Inv B) {x : Int32} (hx : (decide (x = -1) || inB x 8) = false) : CT mX9_clause (d + 4) b0 G [.ref (ad 31 0), .int x] 0 0 (MPo 0 1 B A ad) (fun _ _ => False) := by
  have hb0 := hI.b0
  have hb2 := hI.b2
  have hb9 := hI.b9
  have hb15 := hI.b15
  have hb18 := hI.b18
  refine CT.intro (by decide +kernel) rfl (Nat.le_of_ble_eq_true rfl) ?_
  show WP mX9_clause _ _ _ _ _ 0 0 0 [(0, .ref (ad 31 0)), (1, .int x)] []
  refine r_aload_n dX9_clause_0 rfl 0 rfl ?_
  refine r_iload_n dX9_clause_1 rfl 1 rfl ?_
  refine r_iconst (v := (-1)) dX9_clause_2 (by decide) ?_
  refine r_bipush (v := 7) dX9_clause_3 (by decide) ?_
  refine r_callS (st := [.ref (ad 31 0)]) [.int x, .int (-1), .int 7] 0 0 dX9_clause_5 kX9_isIn nX9_isIn lRX9_73 (c_inm x) rfl rfl (Nat.le_of_ble_eq_true rfl) (Nat.le_refl _) (Nat.le_refl _) (fun _ _ h => h.elim) ?_
  refine cx_det (st2 := [.int (b2i (decide (x = -1) || inB x 8)), .ref (ad 31 0)]) rfl ?_
  refine r_if_ne 15 dX9_clause_8 (by decide) (fun c_1 => absurd (b2i_z hx) c_1) (fun c_1 => ?_)
  refine r_iconst (v := 1) dX9_clause_11 (by decide) ?_
  refine r_goto 29 dX9_clause_12 (by decide) ?_
  refine r_callV (st := []) [.int 1] 0 0 dX9_clause_29 kX9_goes nX9_goes lRX9_92 (hW.g 31 0 rfl) rfl (c_goes hW 1) rfl rfl (Nat.le_of_ble_eq_true rfl) (Nat.le_refl _) (Nat.le_refl _) (fun _ _ h => h.elim) ?_
  refine cx_det (st2 := [.int 0]) rfl ?_
  have hW_2 : World A (setA B 26 0 1) ad (va_up G (ad 31 0) (some (.inr (9, (mF B ad).set 26 (.int (nI 1)))))) := m_s26 hW 1
  refine r_heap (G' := va_up G (ad 31 0) (some (.inr (9, (mF B ad).set 26 (.int (nI 1)))))) rfl ?_
  refine r_if_ne 37 dX9_clause_32 (by decide) (fun c_3 => absurd (by decide) c_3) (fun c_3 => ?_)
  refine r_iconst (v := 0) dX9_clause_35 (by decide) ?_
  refine r_ireti dX9_clause_36 rfl ?_
  exact ⟨rfl, (setA B 26 0 1), hW_2, rfl, (s26 (fun f _ => rfl))⟩
set_option maxRecDepth 100000 in
set_option maxHeartbeats 4000000 in
theorem m_clause_2 {d b0 : Nat} {G : GH} {A B : ST} {ad : AD} (hW : World A B ad G) (hI : Inv B) {x : Int32} (hx : (decide (x = -1) || inB x 8) = true) (hn : ¬ B 9 0 < 10) : CT mX9_clause (d + 4) b0 G [.ref (ad 31 0), .int x] 0 0 (MPo 0 2 B A ad) (fun _ _ => False) := by
  have hb0 := hI.b0
  have hb2 := hI.b2
  have hb9 := hI.b9
  have hb15 := hI.b15
  have hb18 := hI.b18
  refine CT.intro (by decide +kernel) rfl (Nat.le_of_ble_eq_true rfl) ?_
  show WP mX9_clause _ _ _ _ _ 0 0 0 [(0, .ref (ad 31 0)), (1, .int x)] []
  refine r_aload_n dX9_clause_0 rfl 0 rfl ?_
  refine r_iload_n dX9_clause_1 rfl 1 rfl ?_
  refine r_iconst (v := (-1)) dX9_clause_2 (by decide) ?_
  refine r_bipush (v := 7) dX9_clause_3 (by decide) ?_
  refine r_callS (st := [.ref (ad 31 0)]) [.int x, .int (-1), .int 7] 0 0 dX9_clause_5 kX9_isIn nX9_isIn lRX9_73 (c_inm x) rfl rfl (Nat.le_of_ble_eq_true rfl) (Nat.le_refl _) (Nat.le_refl _) (fun _ _ h => h.elim) ?_
  refine cx_det (st2 := [.int (b2i (decide (x = -1) || inB x 8)), .ref (ad 31 0)]) rfl ?_
  refine r_if_ne 15 dX9_clause_8 (by decide) (fun c_1 => ?_) (fun c_1 => absurd c_1 (b2i_no hx))
  refine r_aload_n dX9_clause_15 rfl 0 rfl ?_
  refine r_get 9 dX9_clause_16 fRX9_80 (hW.g 31 0 rfl) rfl ?_
  refine r_bipush (v := 10) dX9_clause_19 (by decide) ?_
  refine r_icmp_ne 28 dX9_clause_21 (by decide) (fun c_2 => absurd (show nI (B 9 0) = 10 by rw [show B 9 0 = 10 by omega]; rfl) c_2) (fun c_2 => ?_)
  refine r_iconst (v := 2) dX9_clause_24 (by decide) ?_
  refine r_goto 29 dX9_clause_25 (by decide) ?_
  refine r_callV (st := []) [.int 2] 0 0 dX9_clause_29 kX9_goes nX9_goes lRX9_92 (hW.g 31 0 rfl) rfl (c_goes hW 2) rfl rfl (Nat.le_of_ble_eq_true rfl) (Nat.le_refl _) (Nat.le_refl _) (fun _ _ h => h.elim) ?_
  refine cx_det (st2 := [.int 0]) rfl ?_
  have hW_3 : World A (setA B 26 0 2) ad (va_up G (ad 31 0) (some (.inr (9, (mF B ad).set 26 (.int (nI 2)))))) := m_s26 hW 2
  refine r_heap (G' := va_up G (ad 31 0) (some (.inr (9, (mF B ad).set 26 (.int (nI 2)))))) rfl ?_
  refine r_if_ne 37 dX9_clause_32 (by decide) (fun c_4 => absurd (by decide) c_4) (fun c_4 => ?_)
  refine r_iconst (v := 0) dX9_clause_35 (by decide) ?_
  refine r_ireti dX9_clause_36 rfl ?_
  exact ⟨rfl, (setA B 26 0 2), hW_3, rfl, (s26 (fun f _ => rfl))⟩
def s5 (A : ST) (n w : Nat) : ST := setA (setA (setA (setA (setA A 19 (5 * n + 0) w) 19 (5 * n + 1) w) 19 (5 * n + 2) w) 19 (5 * n + 3) w) 19 (5 * n + 4) w
theorem s5_fill {A : ST} {n w : Nat} : s5 A n w = fillA A n w := by
  funext f k
  unfold s5 fillA
  by_cases h : f = 19
  · rw [h, if_pos rfl]
    by_cases h4 : k = 5 * n + 4
    · rw [h4, setA_s, if_pos (by omega)]
    · rw [setA_n h4]
      by_cases h3 : k = 5 * n + 3
      · rw [h3, setA_s, if_pos (by omega)]
      · rw [setA_n h3]
        by_cases h2 : k = 5 * n + 2
        · rw [h2, setA_s, if_pos (by omega)]
        · rw [setA_n h2]
          by_cases h1 : k = 5 * n + 1
          · rw [h1, setA_s, if_pos (by omega)]
          · rw [setA_n h1]
            by_cases h0 : k = 5 * n + 0
            · rw [h0, setA_s, if_pos (by omega)]
            · rw [setA_n h0, if_neg (by omega)]
  · rw [setA_f h, setA_f h, setA_f h, setA_f h, setA_f h, if_neg h]
set_option maxRecDepth 100000 in
set_option maxHeartbeats 4000000 in
theorem m_data_0 {d b0 : Nat} {G : GH} {A B : ST} {ad : AD} (hW : World A B ad G) (hI : Inv B) {w b : Nat} (hw : w < B 2 0) (hb : b < 256) (hn : B 18 0 < 8) : CT mX9_data (d + 4) b0 G [.ref (ad 31 0), .int (nI w), .int (nI b)] 0 0 (MPo (nI (B 18 0)) 0 (setA (setA (fillA B (B 18 0) w) 20 (B 18 0) b) 18 0 (B 18 0 + 1)) A ad) (fun _ _ => False) := by
  have hb0 := hI.b0
  have hb2 := hI.b2
  have hb9 := hI.b9
  have hb15 := hI.b15
  have hb18 := hI.b18
  refine CT.intro (by decide +kernel) rfl (Nat.le_of_ble_eq_true rfl) ?_
  show WP mX9_data _ _ _ _ _ 0 0 0 [(0, .ref (ad 31 0)), (1, .int (nI w)), (2, .int (nI b))] []
  refine r_aload_n dX9_data_0 rfl 0 rfl ?_
  refine r_aload_n dX9_data_1 rfl 0 rfl ?_
  refine r_iload_n dX9_data_2 rfl 1 rfl ?_
  refine r_callV (st := [.ref (ad 31 0)]) [.int (nI w)] 0 0 dX9_data_3 kX9_isWord nX9_isWord lRX9_111 (hW.g 31 0 rfl) rfl (c_X9_isWord hW hb2 (nI w)) rfl rfl (Nat.le_of_ble_eq_true rfl) (Nat.le_refl _) (Nat.le_refl _) (fun _ _ h => h.elim) ?_
  refine cx_det (st2 := [.int (b2i (inB (nI w) (B 2 0))), .ref (ad 31 0)]) rfl ?_
  refine r_if_ne 13 dX9_data_6 (by decide) (fun c_1 => ?_) (fun c_1 => absurd c_1 (b2i_no (inB_k hw (by omega))))
  refine r_iload_n dX9_data_13 rfl 2 rfl ?_
  refine r_iconst (v := 0) dX9_data_14 (by decide) ?_
  refine r_sipush (v := 255) dX9_data_15 (by decide) ?_
  refine r_callS (st := [.ref (ad 31 0)]) [.int (nI b), .int 0, .int 255] 0 0 dX9_data_18 kX9_isIn nX9_isIn lRX9_73 (c_in (n := 256) (nI b) (by decide) (by decide)) rfl rfl (Nat.le_of_ble_eq_true rfl) (Nat.le_refl _) (Nat.le_refl _) (fun _ _ h => h.elim) ?_
  refine cx_det (st2 := [.int (b2i (inB (nI b) 256)), .ref (ad 31 0)]) rfl ?_
  refine r_if_ne 28 dX9_data_21 (by decide) (fun c_2 => ?_) (fun c_2 => absurd c_2 (b2i_no (inB_k hb (by decide))))
  refine r_aload_n dX9_data_28 rfl 0 rfl ?_
  refine r_get 18 dX9_data_29 fRX9_86 (hW.g 31 0 rfl) rfl ?_
  refine r_bipush (v := 8) dX9_data_32 (by decide) ?_
  refine r_icmp_ne 41 dX9_data_34 (by decide) (fun c_3 => ?_) (fun c_3 => absurd c_3 (fun q => Nat.ne_of_lt hn (ni_eq (b := 8) (by omega) (by decide) q)))
  refine r_iconst (v := 0) dX9_data_41 (by decide) ?_
  refine r_callV (st := []) [.int 0] 0 0 dX9_data_42 kX9_goes nX9_goes lRX9_92 (hW.g 31 0 rfl) rfl (c_goes hW 0) rfl rfl (Nat.le_of_ble_eq_true rfl) (Nat.le_refl _) (Nat.le_refl _) (fun _ _ h => h.elim) ?_
  refine cx_det (st2 := [.int 1]) rfl ?_
  have hW_4 : World A (setA B 26 0 0) ad (va_up G (ad 31 0) (some (.inr (9, (mF B ad).set 26 (.int (nI 0)))))) := m_s26 hW 0
  refine r_heap (G' := va_up G (ad 31 0) (some (.inr (9, (mF B ad).set 26 (.int (nI 0)))))) rfl ?_
  refine r_if_ne 50 dX9_data_45 (by decide) (fun c_5 => ?_) (fun c_5 => absurd c_5 (by decide))
  refine r_iconst (v := 0) dX9_data_50 (by decide) ?_
  refine r_istore_n [(3, .int 0), (0, .ref (ad 31 0)), (1, .int (nI w)), (2, .int (nI b))] dX9_data_51 rfl (by decide) rfl ?_
  refine r_iload_n dX9_data_52 rfl 0 rfl ?_
  refine r_iconst (v := 5) dX9_data_53 (by decide) ?_
  refine r_icmp_ge 77 dX9_data_54 (by decide) (fun c_6 => absurd c_6 (by decide)) (fun c_6 => ?_)
  refine r_aload_n dX9_data_57 rfl 1 rfl ?_
  refine r_get 19 dX9_data_58 fRX9_54 (hW_4.g 31 0 rfl) rfl ?_
  refine r_iconst (v := 5) dX9_data_61 (by decide) ?_
  refine r_aload_n dX9_data_62 rfl 1 rfl ?_
  refine r_get 18 dX9_data_63 fRX9_86 (hW_4.g 31 0 rfl) rfl ?_
  refine r_top (nI (B 18 0)) rfl ?_
  refine r_imul dX9_data_66 ?_
  refine r_top (nI (5 * B 18 0)) (pk_mul 5 _) ?_
  refine r_iload_n dX9_data_67 rfl 0 rfl ?_
  refine r_iadd dX9_data_68 ?_
  refine r_top (nI (5 * B 18 0 + 0)) (nI_add (5 * B 18 0) 0) ?_
  refine r_iload_n dX9_data_69 rfl 2 rfl ?_
  refine r_iast dX9_data_70 (hW_4.g 32 19 rfl) (vp_in_nI (by omega) (by decide)) ?_
  have hW_7 : World A (setA (setA B 26 0 0) 19 (5 * B 18 0 + 0) w) ad (va_up (va_up G (ad 31 0) (some (.inr (9, (mF B ad).set 26 (.int (nI 0)))))) (ad 32 19) (some (.inl (.int, 40, .inl (upd (rg (setA B 26 0 0) 19 0 40) (5 * B 18 0 + 0) (nI w)))))) := m_a19 hW_4 (by omega)
  refine r_heap (G' := va_up (va_up G (ad 31 0) (some (.inr (9, (mF B ad).set 26 (.int (nI 0)))))) (ad 32 19) (some (.inl (.int, 40, .inl (upd (rg (setA B 26 0 0) 19 0 40) (5 * B 18 0 + 0) (nI w)))))) (by rw [nI_cl (by omega)] <;> rfl) ?_
  refine r_iinc 1 [(3, .int 1), (0, .ref (ad 31 0)), (1, .int (nI w)), (2, .int (nI b))] dX9_data_71 0 rfl (by decide) (by decide) rfl ?_
  refine r_goto 52 dX9_data_74 (by decide) ?_
  refine r_iload_n dX9_data_52 rfl 0 rfl ?_
  refine r_iconst (v := 5) dX9_data_53 (by decide) ?_
  refine r_icmp_ge 77 dX9_data_54 (by decide) (fun c_8 => absurd c_8 (by decide)) (fun c_8 => ?_)
  refine r_aload_n dX9_data_57 rfl 1 rfl ?_
  refine r_get 19 dX9_data_58 fRX9_54 (hW_7.g 31 0 rfl) rfl ?_
  refine r_iconst (v := 5) dX9_data_61 (by decide) ?_
  refine r_aload_n dX9_data_62 rfl 1 rfl ?_
  refine r_get 18 dX9_data_63 fRX9_86 (hW_7.g 31 0 rfl) rfl ?_
  refine r_top (nI (B 18 0)) rfl ?_
  refine r_imul dX9_data_66 ?_
  refine r_top (nI (5 * B 18 0)) (pk_mul 5 _) ?_
  refine r_iload_n dX9_data_67 rfl 0 rfl ?_
  refine r_iadd dX9_data_68 ?_
  refine r_top (nI (5 * B 18 0 + 1)) (nI_add (5 * B 18 0) 1) ?_
  refine r_iload_n dX9_data_69 rfl 2 rfl ?_
  refine r_iast dX9_data_70 (hW_7.g 32 19 rfl) (vp_in_nI (by omega) (by decide)) ?_
  have hW_9 : World A (setA (setA (setA B 26 0 0) 19 (5 * B 18 0 + 0) w) 19 (5 * B 18 0 + 1) w) ad (va_up (va_up (va_up G (ad 31 0) (some (.inr (9, (mF B ad).set 26 (.int (nI 0)))))) (ad 32 19) (some (.inl (.int, 40, .inl (upd (rg (setA B 26 0 0) 19 0 40) (5 * B 18 0 + 0) (nI w)))))) (ad 32 19) (some (.inl (.int, 40, .inl (upd (rg (setA (setA B 26 0 0) 19 (5 * B 18 0 + 0) w) 19 0 40) (5 * B 18 0 + 1) (nI w)))))) := m_a19 hW_7 (by omega)
  refine r_heap (G' := va_up (va_up (va_up G (ad 31 0) (some (.inr (9, (mF B ad).set 26 (.int (nI 0)))))) (ad 32 19) (some (.inl (.int, 40, .inl (upd (rg (setA B 26 0 0) 19 0 40) (5 * B 18 0 + 0) (nI w)))))) (ad 32 19) (some (.inl (.int, 40, .inl (upd (rg (setA (setA B 26 0 0) 19 (5 * B 18 0 + 0) w) 19 0 40) (5 * B 18 0 + 1) (nI w)))))) (by rw [nI_cl (by omega)] <;> rfl) ?_
  refine r_iinc 2 [(3, .int 2), (0, .ref (ad 31 0)), (1, .int (nI w)), (2, .int (nI b))] dX9_data_71 0 rfl (by decide) (by decide) rfl ?_
  refine r_goto 52 dX9_data_74 (by decide) ?_
  refine r_iload_n dX9_data_52 rfl 0 rfl ?_
  refine r_iconst (v := 5) dX9_data_53 (by decide) ?_
  refine r_icmp_ge 77 dX9_data_54 (by decide) (fun c_10 => absurd c_10 (by decide)) (fun c_10 => ?_)
  refine r_aload_n dX9_data_57 rfl 1 rfl ?_
  refine r_get 19 dX9_data_58 fRX9_54 (hW_9.g 31 0 rfl) rfl ?_
  refine r_iconst (v := 5) dX9_data_61 (by decide) ?_
  refine r_aload_n dX9_data_62 rfl 1 rfl ?_
  refine r_get 18 dX9_data_63 fRX9_86 (hW_9.g 31 0 rfl) rfl ?_
  refine r_top (nI (B 18 0)) rfl ?_
  refine r_imul dX9_data_66 ?_
  refine r_top (nI (5 * B 18 0)) (pk_mul 5 _) ?_
  refine r_iload_n dX9_data_67 rfl 0 rfl ?_
  refine r_iadd dX9_data_68 ?_
  refine r_top (nI (5 * B 18 0 + 2)) (nI_add (5 * B 18 0) 2) ?_
  refine r_iload_n dX9_data_69 rfl 2 rfl ?_
  refine r_iast dX9_data_70 (hW_9.g 32 19 rfl) (vp_in_nI (by omega) (by decide)) ?_
  have hW_11 : World A (setA (setA (setA (setA B 26 0 0) 19 (5 * B 18 0 + 0) w) 19 (5 * B 18 0 + 1) w) 19 (5 * B 18 0 + 2) w) ad (va_up (va_up (va_up (va_up G (ad 31 0) (some (.inr (9, (mF B ad).set 26 (.int (nI 0)))))) (ad 32 19) (some (.inl (.int, 40, .inl (upd (rg (setA B 26 0 0) 19 0 40) (5 * B 18 0 + 0) (nI w)))))) (ad 32 19) (some (.inl (.int, 40, .inl (upd (rg (setA (setA B 26 0 0) 19 (5 * B 18 0 + 0) w) 19 0 40) (5 * B 18 0 + 1) (nI w)))))) (ad 32 19) (some (.inl (.int, 40, .inl (upd (rg (setA (setA (setA B 26 0 0) 19 (5 * B 18 0 + 0) w) 19 (5 * B 18 0 + 1) w) 19 0 40) (5 * B 18 0 + 2) (nI w)))))) := m_a19 hW_9 (by omega)
  refine r_heap (G' := va_up (va_up (va_up (va_up G (ad 31 0) (some (.inr (9, (mF B ad).set 26 (.int (nI 0)))))) (ad 32 19) (some (.inl (.int, 40, .inl (upd (rg (setA B 26 0 0) 19 0 40) (5 * B 18 0 + 0) (nI w)))))) (ad 32 19) (some (.inl (.int, 40, .inl (upd (rg (setA (setA B 26 0 0) 19 (5 * B 18 0 + 0) w) 19 0 40) (5 * B 18 0 + 1) (nI w)))))) (ad 32 19) (some (.inl (.int, 40, .inl (upd (rg (setA (setA (setA B 26 0 0) 19 (5 * B 18 0 + 0) w) 19 (5 * B 18 0 + 1) w) 19 0 40) (5 * B 18 0 + 2) (nI w)))))) (by rw [nI_cl (by omega)] <;> rfl) ?_
  refine r_iinc 3 [(3, .int 3), (0, .ref (ad 31 0)), (1, .int (nI w)), (2, .int (nI b))] dX9_data_71 0 rfl (by decide) (by decide) rfl ?_
  refine r_goto 52 dX9_data_74 (by decide) ?_
  refine r_iload_n dX9_data_52 rfl 0 rfl ?_
  refine r_iconst (v := 5) dX9_data_53 (by decide) ?_
  refine r_icmp_ge 77 dX9_data_54 (by decide) (fun c_12 => absurd c_12 (by decide)) (fun c_12 => ?_)
  refine r_aload_n dX9_data_57 rfl 1 rfl ?_
  refine r_get 19 dX9_data_58 fRX9_54 (hW_11.g 31 0 rfl) rfl ?_
  refine r_iconst (v := 5) dX9_data_61 (by decide) ?_
  refine r_aload_n dX9_data_62 rfl 1 rfl ?_
  refine r_get 18 dX9_data_63 fRX9_86 (hW_11.g 31 0 rfl) rfl ?_
  refine r_top (nI (B 18 0)) rfl ?_
  refine r_imul dX9_data_66 ?_
  refine r_top (nI (5 * B 18 0)) (pk_mul 5 _) ?_
  refine r_iload_n dX9_data_67 rfl 0 rfl ?_
  refine r_iadd dX9_data_68 ?_
  refine r_top (nI (5 * B 18 0 + 3)) (nI_add (5 * B 18 0) 3) ?_
  refine r_iload_n dX9_data_69 rfl 2 rfl ?_
  refine r_iast dX9_data_70 (hW_11.g 32 19 rfl) (vp_in_nI (by omega) (by decide)) ?_
  have hW_13 : World A (setA (setA (setA (setA (setA B 26 0 0) 19 (5 * B 18 0 + 0) w) 19 (5 * B 18 0 + 1) w) 19 (5 * B 18 0 + 2) w) 19 (5 * B 18 0 + 3) w) ad (va_up (va_up (va_up (va_up (va_up G (ad 31 0) (some (.inr (9, (mF B ad).set 26 (.int (nI 0)))))) (ad 32 19) (some (.inl (.int, 40, .inl (upd (rg (setA B 26 0 0) 19 0 40) (5 * B 18 0 + 0) (nI w)))))) (ad 32 19) (some (.inl (.int, 40, .inl (upd (rg (setA (setA B 26 0 0) 19 (5 * B 18 0 + 0) w) 19 0 40) (5 * B 18 0 + 1) (nI w)))))) (ad 32 19) (some (.inl (.int, 40, .inl (upd (rg (setA (setA (setA B 26 0 0) 19 (5 * B 18 0 + 0) w) 19 (5 * B 18 0 + 1) w) 19 0 40) (5 * B 18 0 + 2) (nI w)))))) (ad 32 19) (some (.inl (.int, 40, .inl (upd (rg (setA (setA (setA (setA B 26 0 0) 19 (5 * B 18 0 + 0) w) 19 (5 * B 18 0 + 1) w) 19 (5 * B 18 0 + 2) w) 19 0 40) (5 * B 18 0 + 3) (nI w)))))) := m_a19 hW_11 (by omega)
  refine r_heap (G' := va_up (va_up (va_up (va_up (va_up G (ad 31 0) (some (.inr (9, (mF B ad).set 26 (.int (nI 0)))))) (ad 32 19) (some (.inl (.int, 40, .inl (upd (rg (setA B 26 0 0) 19 0 40) (5 * B 18 0 + 0) (nI w)))))) (ad 32 19) (some (.inl (.int, 40, .inl (upd (rg (setA (setA B 26 0 0) 19 (5 * B 18 0 + 0) w) 19 0 40) (5 * B 18 0 + 1) (nI w)))))) (ad 32 19) (some (.inl (.int, 40, .inl (upd (rg (setA (setA (setA B 26 0 0) 19 (5 * B 18 0 + 0) w) 19 (5 * B 18 0 + 1) w) 19 0 40) (5 * B 18 0 + 2) (nI w)))))) (ad 32 19) (some (.inl (.int, 40, .inl (upd (rg (setA (setA (setA (setA B 26 0 0) 19 (5 * B 18 0 + 0) w) 19 (5 * B 18 0 + 1) w) 19 (5 * B 18 0 + 2) w) 19 0 40) (5 * B 18 0 + 3) (nI w)))))) (by rw [nI_cl (by omega)] <;> rfl) ?_
  refine r_iinc 4 [(3, .int 4), (0, .ref (ad 31 0)), (1, .int (nI w)), (2, .int (nI b))] dX9_data_71 0 rfl (by decide) (by decide) rfl ?_
  refine r_goto 52 dX9_data_74 (by decide) ?_
  refine r_iload_n dX9_data_52 rfl 0 rfl ?_
  refine r_iconst (v := 5) dX9_data_53 (by decide) ?_
  refine r_icmp_ge 77 dX9_data_54 (by decide) (fun c_14 => absurd c_14 (by decide)) (fun c_14 => ?_)
  refine r_aload_n dX9_data_57 rfl 1 rfl ?_
  refine r_get 19 dX9_data_58 fRX9_54 (hW_13.g 31 0 rfl) rfl ?_
  refine r_iconst (v := 5) dX9_data_61 (by decide) ?_
  refine r_aload_n dX9_data_62 rfl 1 rfl ?_
  refine r_get 18 dX9_data_63 fRX9_86 (hW_13.g 31 0 rfl) rfl ?_
  refine r_top (nI (B 18 0)) rfl ?_
  refine r_imul dX9_data_66 ?_
  refine r_top (nI (5 * B 18 0)) (pk_mul 5 _) ?_
  refine r_iload_n dX9_data_67 rfl 0 rfl ?_
  refine r_iadd dX9_data_68 ?_
  refine r_top (nI (5 * B 18 0 + 4)) (nI_add (5 * B 18 0) 4) ?_
  refine r_iload_n dX9_data_69 rfl 2 rfl ?_
  refine r_iast dX9_data_70 (hW_13.g 32 19 rfl) (vp_in_nI (by omega) (by decide)) ?_
  have hW_15 : World A (setA (setA (setA (setA (setA (setA B 26 0 0) 19 (5 * B 18 0 + 0) w) 19 (5 * B 18 0 + 1) w) 19 (5 * B 18 0 + 2) w) 19 (5 * B 18 0 + 3) w) 19 (5 * B 18 0 + 4) w) ad (va_up (va_up (va_up (va_up (va_up (va_up G (ad 31 0) (some (.inr (9, (mF B ad).set 26 (.int (nI 0)))))) (ad 32 19) (some (.inl (.int, 40, .inl (upd (rg (setA B 26 0 0) 19 0 40) (5 * B 18 0 + 0) (nI w)))))) (ad 32 19) (some (.inl (.int, 40, .inl (upd (rg (setA (setA B 26 0 0) 19 (5 * B 18 0 + 0) w) 19 0 40) (5 * B 18 0 + 1) (nI w)))))) (ad 32 19) (some (.inl (.int, 40, .inl (upd (rg (setA (setA (setA B 26 0 0) 19 (5 * B 18 0 + 0) w) 19 (5 * B 18 0 + 1) w) 19 0 40) (5 * B 18 0 + 2) (nI w)))))) (ad 32 19) (some (.inl (.int, 40, .inl (upd (rg (setA (setA (setA (setA B 26 0 0) 19 (5 * B 18 0 + 0) w) 19 (5 * B 18 0 + 1) w) 19 (5 * B 18 0 + 2) w) 19 0 40) (5 * B 18 0 + 3) (nI w)))))) (ad 32 19) (some (.inl (.int, 40, .inl (upd (rg (setA (setA (setA (setA (setA B 26 0 0) 19 (5 * B 18 0 + 0) w) 19 (5 * B 18 0 + 1) w) 19 (5 * B 18 0 + 2) w) 19 (5 * B 18 0 + 3) w) 19 0 40) (5 * B 18 0 + 4) (nI w)))))) := m_a19 hW_13 (by omega)
  refine r_heap (G' := va_up (va_up (va_up (va_up (va_up (va_up G (ad 31 0) (some (.inr (9, (mF B ad).set 26 (.int (nI 0)))))) (ad 32 19) (some (.inl (.int, 40, .inl (upd (rg (setA B 26 0 0) 19 0 40) (5 * B 18 0 + 0) (nI w)))))) (ad 32 19) (some (.inl (.int, 40, .inl (upd (rg (setA (setA B 26 0 0) 19 (5 * B 18 0 + 0) w) 19 0 40) (5 * B 18 0 + 1) (nI w)))))) (ad 32 19) (some (.inl (.int, 40, .inl (upd (rg (setA (setA (setA B 26 0 0) 19 (5 * B 18 0 + 0) w) 19 (5 * B 18 0 + 1) w) 19 0 40) (5 * B 18 0 + 2) (nI w)))))) (ad 32 19) (some (.inl (.int, 40, .inl (upd (rg (setA (setA (setA (setA B 26 0 0) 19 (5 * B 18 0 + 0) w) 19 (5 * B 18 0 + 1) w) 19 (5 * B 18 0 + 2) w) 19 0 40) (5 * B 18 0 + 3) (nI w)))))) (ad 32 19) (some (.inl (.int, 40, .inl (upd (rg (setA (setA (setA (setA (setA B 26 0 0) 19 (5 * B 18 0 + 0) w) 19 (5 * B 18 0 + 1) w) 19 (5 * B 18 0 + 2) w) 19 (5 * B 18 0 + 3) w) 19 0 40) (5 * B 18 0 + 4) (nI w)))))) (by rw [nI_cl (by omega)] <;> rfl) ?_
  refine r_iinc 5 [(3, .int 5), (0, .ref (ad 31 0)), (1, .int (nI w)), (2, .int (nI b))] dX9_data_71 0 rfl (by decide) (by decide) rfl ?_
  refine r_goto 52 dX9_data_74 (by decide) ?_
  refine r_iload_n dX9_data_52 rfl 0 rfl ?_
  refine r_iconst (v := 5) dX9_data_53 (by decide) ?_
  refine r_icmp_ge 77 dX9_data_54 (by decide) (fun c_16 => ?_) (fun c_16 => absurd (by decide) c_16)
  refine r_aload_n dX9_data_77 rfl 1 rfl ?_
  refine r_get 20 dX9_data_78 fRX9_57 (hW_15.g 31 0 rfl) rfl ?_
  refine r_aload_n dX9_data_81 rfl 1 rfl ?_
  refine r_get 18 dX9_data_82 fRX9_86 (hW_15.g 31 0 rfl) rfl ?_
  refine r_top (nI (B 18 0)) rfl ?_
  refine r_iload_n dX9_data_85 rfl 3 rfl ?_
  refine r_iast dX9_data_86 (hW_15.g 32 20 rfl) (vp_in_nI (by omega) (by decide)) ?_
  have hW_17 : World A (setA (setA (setA (setA (setA (setA (setA B 26 0 0) 19 (5 * B 18 0 + 0) w) 19 (5 * B 18 0 + 1) w) 19 (5 * B 18 0 + 2) w) 19 (5 * B 18 0 + 3) w) 19 (5 * B 18 0 + 4) w) 20 (B 18 0) b) ad (va_up (va_up (va_up (va_up (va_up (va_up (va_up G (ad 31 0) (some (.inr (9, (mF B ad).set 26 (.int (nI 0)))))) (ad 32 19) (some (.inl (.int, 40, .inl (upd (rg (setA B 26 0 0) 19 0 40) (5 * B 18 0 + 0) (nI w)))))) (ad 32 19) (some (.inl (.int, 40, .inl (upd (rg (setA (setA B 26 0 0) 19 (5 * B 18 0 + 0) w) 19 0 40) (5 * B 18 0 + 1) (nI w)))))) (ad 32 19) (some (.inl (.int, 40, .inl (upd (rg (setA (setA (setA B 26 0 0) 19 (5 * B 18 0 + 0) w) 19 (5 * B 18 0 + 1) w) 19 0 40) (5 * B 18 0 + 2) (nI w)))))) (ad 32 19) (some (.inl (.int, 40, .inl (upd (rg (setA (setA (setA (setA B 26 0 0) 19 (5 * B 18 0 + 0) w) 19 (5 * B 18 0 + 1) w) 19 (5 * B 18 0 + 2) w) 19 0 40) (5 * B 18 0 + 3) (nI w)))))) (ad 32 19) (some (.inl (.int, 40, .inl (upd (rg (setA (setA (setA (setA (setA B 26 0 0) 19 (5 * B 18 0 + 0) w) 19 (5 * B 18 0 + 1) w) 19 (5 * B 18 0 + 2) w) 19 (5 * B 18 0 + 3) w) 19 0 40) (5 * B 18 0 + 4) (nI w)))))) (ad 32 20) (some (.inl (.int, 8, .inl (upd (rg (setA (setA (setA (setA (setA (setA B 26 0 0) 19 (5 * B 18 0 + 0) w) 19 (5 * B 18 0 + 1) w) 19 (5 * B 18 0 + 2) w) 19 (5 * B 18 0 + 3) w) 19 (5 * B 18 0 + 4) w) 20 0 8) (B 18 0) (nI b)))))) := m_a20 hW_15 (by omega)
  refine r_heap (G' := va_up (va_up (va_up (va_up (va_up (va_up (va_up G (ad 31 0) (some (.inr (9, (mF B ad).set 26 (.int (nI 0)))))) (ad 32 19) (some (.inl (.int, 40, .inl (upd (rg (setA B 26 0 0) 19 0 40) (5 * B 18 0 + 0) (nI w)))))) (ad 32 19) (some (.inl (.int, 40, .inl (upd (rg (setA (setA B 26 0 0) 19 (5 * B 18 0 + 0) w) 19 0 40) (5 * B 18 0 + 1) (nI w)))))) (ad 32 19) (some (.inl (.int, 40, .inl (upd (rg (setA (setA (setA B 26 0 0) 19 (5 * B 18 0 + 0) w) 19 (5 * B 18 0 + 1) w) 19 0 40) (5 * B 18 0 + 2) (nI w)))))) (ad 32 19) (some (.inl (.int, 40, .inl (upd (rg (setA (setA (setA (setA B 26 0 0) 19 (5 * B 18 0 + 0) w) 19 (5 * B 18 0 + 1) w) 19 (5 * B 18 0 + 2) w) 19 0 40) (5 * B 18 0 + 3) (nI w)))))) (ad 32 19) (some (.inl (.int, 40, .inl (upd (rg (setA (setA (setA (setA (setA B 26 0 0) 19 (5 * B 18 0 + 0) w) 19 (5 * B 18 0 + 1) w) 19 (5 * B 18 0 + 2) w) 19 (5 * B 18 0 + 3) w) 19 0 40) (5 * B 18 0 + 4) (nI w)))))) (ad 32 20) (some (.inl (.int, 8, .inl (upd (rg (setA (setA (setA (setA (setA (setA B 26 0 0) 19 (5 * B 18 0 + 0) w) 19 (5 * B 18 0 + 1) w) 19 (5 * B 18 0 + 2) w) 19 (5 * B 18 0 + 3) w) 19 (5 * B 18 0 + 4) w) 20 0 8) (B 18 0) (nI b)))))) (by rw [nI_cl (by omega)] <;> rfl) ?_
  refine r_aload_n dX9_data_87 rfl 1 rfl ?_
  refine r_dup dX9_data_88 rfl ?_
  refine r_get 18 dX9_data_89 fRX9_86 (hW_17.g 31 0 rfl) rfl ?_
  refine r_top (nI (B 18 0)) rfl ?_
  refine r_iconst (v := 1) dX9_data_92 (by decide) ?_
  refine r_iadd dX9_data_93 ?_
  refine r_top (nI (B 18 0 + 1)) (nI_1 _) ?_
  refine r_put 18 (.int) dX9_data_94 gRX9_86 (hW_17.g 31 0 rfl) (Nat.le_of_ble_eq_true rfl) rfl rfl ?_
  have hW_18 : World A (setA (setA (setA (setA (setA (setA (setA (setA B 26 0 0) 19 (5 * B 18 0 + 0) w) 19 (5 * B 18 0 + 1) w) 19 (5 * B 18 0 + 2) w) 19 (5 * B 18 0 + 3) w) 19 (5 * B 18 0 + 4) w) 20 (B 18 0) b) 18 0 (B 18 0 + 1)) ad (va_up (va_up (va_up (va_up (va_up (va_up (va_up (va_up G (ad 31 0) (some (.inr (9, (mF B ad).set 26 (.int (nI 0)))))) (ad 32 19) (some (.inl (.int, 40, .inl (upd (rg (setA B 26 0 0) 19 0 40) (5 * B 18 0 + 0) (nI w)))))) (ad 32 19) (some (.inl (.int, 40, .inl (upd (rg (setA (setA B 26 0 0) 19 (5 * B 18 0 + 0) w) 19 0 40) (5 * B 18 0 + 1) (nI w)))))) (ad 32 19) (some (.inl (.int, 40, .inl (upd (rg (setA (setA (setA B 26 0 0) 19 (5 * B 18 0 + 0) w) 19 (5 * B 18 0 + 1) w) 19 0 40) (5 * B 18 0 + 2) (nI w)))))) (ad 32 19) (some (.inl (.int, 40, .inl (upd (rg (setA (setA (setA (setA B 26 0 0) 19 (5 * B 18 0 + 0) w) 19 (5 * B 18 0 + 1) w) 19 (5 * B 18 0 + 2) w) 19 0 40) (5 * B 18 0 + 3) (nI w)))))) (ad 32 19) (some (.inl (.int, 40, .inl (upd (rg (setA (setA (setA (setA (setA B 26 0 0) 19 (5 * B 18 0 + 0) w) 19 (5 * B 18 0 + 1) w) 19 (5 * B 18 0 + 2) w) 19 (5 * B 18 0 + 3) w) 19 0 40) (5 * B 18 0 + 4) (nI w)))))) (ad 32 20) (some (.inl (.int, 8, .inl (upd (rg (setA (setA (setA (setA (setA (setA B 26 0 0) 19 (5 * B 18 0 + 0) w) 19 (5 * B 18 0 + 1) w) 19 (5 * B 18 0 + 2) w) 19 (5 * B 18 0 + 3) w) 19 (5 * B 18 0 + 4) w) 20 0 8) (B 18 0) (nI b)))))) (ad 31 0) (some (.inr (9, (mF (setA (setA (setA (setA (setA (setA (setA B 26 0 0) 19 (5 * B 18 0 + 0) w) 19 (5 * B 18 0 + 1) w) 19 (5 * B 18 0 + 2) w) 19 (5 * B 18 0 + 3) w) 19 (5 * B 18 0 + 4) w) 20 (B 18 0) b) ad).set 18 (.int (nI (B 18 0 + 1))))))) := m_s18 hW_17 (B 18 0 + 1)
  refine r_heap (G' := va_up (va_up (va_up (va_up (va_up (va_up (va_up (va_up G (ad 31 0) (some (.inr (9, (mF B ad).set 26 (.int (nI 0)))))) (ad 32 19) (some (.inl (.int, 40, .inl (upd (rg (setA B 26 0 0) 19 0 40) (5 * B 18 0 + 0) (nI w)))))) (ad 32 19) (some (.inl (.int, 40, .inl (upd (rg (setA (setA B 26 0 0) 19 (5 * B 18 0 + 0) w) 19 0 40) (5 * B 18 0 + 1) (nI w)))))) (ad 32 19) (some (.inl (.int, 40, .inl (upd (rg (setA (setA (setA B 26 0 0) 19 (5 * B 18 0 + 0) w) 19 (5 * B 18 0 + 1) w) 19 0 40) (5 * B 18 0 + 2) (nI w)))))) (ad 32 19) (some (.inl (.int, 40, .inl (upd (rg (setA (setA (setA (setA B 26 0 0) 19 (5 * B 18 0 + 0) w) 19 (5 * B 18 0 + 1) w) 19 (5 * B 18 0 + 2) w) 19 0 40) (5 * B 18 0 + 3) (nI w)))))) (ad 32 19) (some (.inl (.int, 40, .inl (upd (rg (setA (setA (setA (setA (setA B 26 0 0) 19 (5 * B 18 0 + 0) w) 19 (5 * B 18 0 + 1) w) 19 (5 * B 18 0 + 2) w) 19 (5 * B 18 0 + 3) w) 19 0 40) (5 * B 18 0 + 4) (nI w)))))) (ad 32 20) (some (.inl (.int, 8, .inl (upd (rg (setA (setA (setA (setA (setA (setA B 26 0 0) 19 (5 * B 18 0 + 0) w) 19 (5 * B 18 0 + 1) w) 19 (5 * B 18 0 + 2) w) 19 (5 * B 18 0 + 3) w) 19 (5 * B 18 0 + 4) w) 20 0 8) (B 18 0) (nI b)))))) (ad 31 0) (some (.inr (9, (mF (setA (setA (setA (setA (setA (setA (setA B 26 0 0) 19 (5 * B 18 0 + 0) w) 19 (5 * B 18 0 + 1) w) 19 (5 * B 18 0 + 2) w) 19 (5 * B 18 0 + 3) w) 19 (5 * B 18 0 + 4) w) 20 (B 18 0) b) ad).set 18 (.int (nI (B 18 0 + 1))))))) rfl ?_
  refine r_aload_n dX9_data_97 rfl 1 rfl ?_
  refine r_get 18 dX9_data_98 fRX9_86 (hW_18.g 31 0 rfl) rfl ?_
  refine r_top (nI (B 18 0 + 1)) rfl ?_
  refine r_iconst (v := 1) dX9_data_101 (by decide) ?_
  refine r_isub dX9_data_102 ?_
  refine r_top (nI (B 18 0)) (nI_m1 _) ?_
  refine r_ireti dX9_data_103 rfl ?_
  exact ⟨rfl, (setA (setA (setA (setA (setA (setA (setA (setA B 26 0 0) 19 (5 * B 18 0 + 0) w) 19 (5 * B 18 0 + 1) w) 19 (5 * B 18 0 + 2) w) 19 (5 * B 18 0 + 3) w) 19 (5 * B 18 0 + 4) w) 20 (B 18 0) b) 18 0 (B 18 0 + 1)), hW_18, rfl, by rw [← s5_fill]; exact (scg (scg (scg (scg (scg (scg (scg (s26 (fun f _ => rfl)))))))))⟩
set_option maxRecDepth 100000 in
set_option maxHeartbeats 4000000 in
theorem m_data_1 {d b0 : Nat} {G : GH} {A B : ST} {ad : AD} (hW : World A B ad G) (hI : Inv B) {x y : Int32} (hx : inB x (B 2 0) = false) : CT mX9_data (d + 4) b0 G [.ref (ad 31 0), .int x, .int y] 0 0 (MPo 0 1 B A ad) (fun _ _ => False) := by
  have hb0 := hI.b0
  have hb2 := hI.b2
  have hb9 := hI.b9
  have hb15 := hI.b15
  have hb18 := hI.b18
  refine CT.intro (by decide +kernel) rfl (Nat.le_of_ble_eq_true rfl) ?_
  show WP mX9_data _ _ _ _ _ 0 0 0 [(0, .ref (ad 31 0)), (1, .int x), (2, .int y)] []
  refine r_aload_n dX9_data_0 rfl 0 rfl ?_
  refine r_aload_n dX9_data_1 rfl 0 rfl ?_
  refine r_iload_n dX9_data_2 rfl 1 rfl ?_
  refine r_callV (st := [.ref (ad 31 0)]) [.int x] 0 0 dX9_data_3 kX9_isWord nX9_isWord lRX9_111 (hW.g 31 0 rfl) rfl (c_X9_isWord hW hb2 x) rfl rfl (Nat.le_of_ble_eq_true rfl) (Nat.le_refl _) (Nat.le_refl _) (fun _ _ h => h.elim) ?_
  refine cx_det (st2 := [.int (b2i (inB x (B 2 0))), .ref (ad 31 0)]) rfl ?_
  refine r_if_ne 13 dX9_data_6 (by decide) (fun c_1 => absurd (b2i_z hx) c_1) (fun c_1 => ?_)
  refine r_iconst (v := 1) dX9_data_9 (by decide) ?_
  refine r_goto 42 dX9_data_10 (by decide) ?_
  refine r_callV (st := []) [.int 1] 0 0 dX9_data_42 kX9_goes nX9_goes lRX9_92 (hW.g 31 0 rfl) rfl (c_goes hW 1) rfl rfl (Nat.le_of_ble_eq_true rfl) (Nat.le_refl _) (Nat.le_refl _) (fun _ _ h => h.elim) ?_
  refine cx_det (st2 := [.int 0]) rfl ?_
  have hW_2 : World A (setA B 26 0 1) ad (va_up G (ad 31 0) (some (.inr (9, (mF B ad).set 26 (.int (nI 1)))))) := m_s26 hW 1
  refine r_heap (G' := va_up G (ad 31 0) (some (.inr (9, (mF B ad).set 26 (.int (nI 1)))))) rfl ?_
  refine r_if_ne 50 dX9_data_45 (by decide) (fun c_3 => absurd (by decide) c_3) (fun c_3 => ?_)
  refine r_iconst (v := 0) dX9_data_48 (by decide) ?_
  refine r_ireti dX9_data_49 rfl ?_
  exact ⟨rfl, (setA B 26 0 1), hW_2, rfl, (s26 (fun f _ => rfl))⟩
set_option maxRecDepth 100000 in
set_option maxHeartbeats 4000000 in
theorem m_data_2 {d b0 : Nat} {G : GH} {A B : ST} {ad : AD} (hW : World A B ad G) (hI : Inv B) {w : Nat} {y : Int32} (hw : w < B 2 0) (hy : inB y 256 = false) : CT mX9_data (d + 4) b0 G [.ref (ad 31 0), .int (nI w), .int y] 0 0 (MPo 0 2 B A ad) (fun _ _ => False) := by
  have hb0 := hI.b0
  have hb2 := hI.b2
  have hb9 := hI.b9
  have hb15 := hI.b15
  have hb18 := hI.b18
  refine CT.intro (by decide +kernel) rfl (Nat.le_of_ble_eq_true rfl) ?_
  show WP mX9_data _ _ _ _ _ 0 0 0 [(0, .ref (ad 31 0)), (1, .int (nI w)), (2, .int y)] []
  refine r_aload_n dX9_data_0 rfl 0 rfl ?_
  refine r_aload_n dX9_data_1 rfl 0 rfl ?_
  refine r_iload_n dX9_data_2 rfl 1 rfl ?_
  refine r_callV (st := [.ref (ad 31 0)]) [.int (nI w)] 0 0 dX9_data_3 kX9_isWord nX9_isWord lRX9_111 (hW.g 31 0 rfl) rfl (c_X9_isWord hW hb2 (nI w)) rfl rfl (Nat.le_of_ble_eq_true rfl) (Nat.le_refl _) (Nat.le_refl _) (fun _ _ h => h.elim) ?_
  refine cx_det (st2 := [.int (b2i (inB (nI w) (B 2 0))), .ref (ad 31 0)]) rfl ?_
  refine r_if_ne 13 dX9_data_6 (by decide) (fun c_1 => ?_) (fun c_1 => absurd c_1 (b2i_no (inB_k hw (by omega))))
  refine r_iload_n dX9_data_13 rfl 2 rfl ?_
  refine r_iconst (v := 0) dX9_data_14 (by decide) ?_
  refine r_sipush (v := 255) dX9_data_15 (by decide) ?_
  refine r_callS (st := [.ref (ad 31 0)]) [.int y, .int 0, .int 255] 0 0 dX9_data_18 kX9_isIn nX9_isIn lRX9_73 (c_in (n := 256) y (by decide) (by decide)) rfl rfl (Nat.le_of_ble_eq_true rfl) (Nat.le_refl _) (Nat.le_refl _) (fun _ _ h => h.elim) ?_
  refine cx_det (st2 := [.int (b2i (inB y 256)), .ref (ad 31 0)]) rfl ?_
  refine r_if_ne 28 dX9_data_21 (by decide) (fun c_2 => absurd (b2i_z hy) c_2) (fun c_2 => ?_)
  refine r_iconst (v := 2) dX9_data_24 (by decide) ?_
  refine r_goto 42 dX9_data_25 (by decide) ?_
  refine r_callV (st := []) [.int 2] 0 0 dX9_data_42 kX9_goes nX9_goes lRX9_92 (hW.g 31 0 rfl) rfl (c_goes hW 2) rfl rfl (Nat.le_of_ble_eq_true rfl) (Nat.le_refl _) (Nat.le_refl _) (fun _ _ h => h.elim) ?_
  refine cx_det (st2 := [.int 0]) rfl ?_
  have hW_3 : World A (setA B 26 0 2) ad (va_up G (ad 31 0) (some (.inr (9, (mF B ad).set 26 (.int (nI 2)))))) := m_s26 hW 2
  refine r_heap (G' := va_up G (ad 31 0) (some (.inr (9, (mF B ad).set 26 (.int (nI 2)))))) rfl ?_
  refine r_if_ne 50 dX9_data_45 (by decide) (fun c_4 => absurd (by decide) c_4) (fun c_4 => ?_)
  refine r_iconst (v := 0) dX9_data_48 (by decide) ?_
  refine r_ireti dX9_data_49 rfl ?_
  exact ⟨rfl, (setA B 26 0 2), hW_3, rfl, (s26 (fun f _ => rfl))⟩
set_option maxRecDepth 100000 in
set_option maxHeartbeats 4000000 in
theorem m_data_3 {d b0 : Nat} {G : GH} {A B : ST} {ad : AD} (hW : World A B ad G) (hI : Inv B) {w b : Nat} (hw : w < B 2 0) (hb : b < 256) (hn : ¬ B 18 0 < 8) : CT mX9_data (d + 4) b0 G [.ref (ad 31 0), .int (nI w), .int (nI b)] 0 0 (MPo 0 3 B A ad) (fun _ _ => False) := by
  have hb0 := hI.b0
  have hb2 := hI.b2
  have hb9 := hI.b9
  have hb15 := hI.b15
  have hb18 := hI.b18
  refine CT.intro (by decide +kernel) rfl (Nat.le_of_ble_eq_true rfl) ?_
  show WP mX9_data _ _ _ _ _ 0 0 0 [(0, .ref (ad 31 0)), (1, .int (nI w)), (2, .int (nI b))] []
  refine r_aload_n dX9_data_0 rfl 0 rfl ?_
  refine r_aload_n dX9_data_1 rfl 0 rfl ?_
  refine r_iload_n dX9_data_2 rfl 1 rfl ?_
  refine r_callV (st := [.ref (ad 31 0)]) [.int (nI w)] 0 0 dX9_data_3 kX9_isWord nX9_isWord lRX9_111 (hW.g 31 0 rfl) rfl (c_X9_isWord hW hb2 (nI w)) rfl rfl (Nat.le_of_ble_eq_true rfl) (Nat.le_refl _) (Nat.le_refl _) (fun _ _ h => h.elim) ?_
  refine cx_det (st2 := [.int (b2i (inB (nI w) (B 2 0))), .ref (ad 31 0)]) rfl ?_
  refine r_if_ne 13 dX9_data_6 (by decide) (fun c_1 => ?_) (fun c_1 => absurd c_1 (b2i_no (inB_k hw (by omega))))
  refine r_iload_n dX9_data_13 rfl 2 rfl ?_
  refine r_iconst (v := 0) dX9_data_14 (by decide) ?_
  refine r_sipush (v := 255) dX9_data_15 (by decide) ?_
  refine r_callS (st := [.ref (ad 31 0)]) [.int (nI b), .int 0, .int 255] 0 0 dX9_data_18 kX9_isIn nX9_isIn lRX9_73 (c_in (n := 256) (nI b) (by decide) (by decide)) rfl rfl (Nat.le_of_ble_eq_true rfl) (Nat.le_refl _) (Nat.le_refl _) (fun _ _ h => h.elim) ?_
  refine cx_det (st2 := [.int (b2i (inB (nI b) 256)), .ref (ad 31 0)]) rfl ?_
  refine r_if_ne 28 dX9_data_21 (by decide) (fun c_2 => ?_) (fun c_2 => absurd c_2 (b2i_no (inB_k hb (by decide))))
  refine r_aload_n dX9_data_28 rfl 0 rfl ?_
  refine r_get 18 dX9_data_29 fRX9_86 (hW.g 31 0 rfl) rfl ?_
  refine r_bipush (v := 8) dX9_data_32 (by decide) ?_
  refine r_icmp_ne 41 dX9_data_34 (by decide) (fun c_3 => absurd (show nI (B 18 0) = 8 by rw [show B 18 0 = 8 by omega]; rfl) c_3) (fun c_3 => ?_)
  refine r_iconst (v := 3) dX9_data_37 (by decide) ?_
  refine r_goto 42 dX9_data_38 (by decide) ?_
  refine r_callV (st := []) [.int 3] 0 0 dX9_data_42 kX9_goes nX9_goes lRX9_92 (hW.g 31 0 rfl) rfl (c_goes hW 3) rfl rfl (Nat.le_of_ble_eq_true rfl) (Nat.le_refl _) (Nat.le_refl _) (fun _ _ h => h.elim) ?_
  refine cx_det (st2 := [.int 0]) rfl ?_
  have hW_4 : World A (setA B 26 0 3) ad (va_up G (ad 31 0) (some (.inr (9, (mF B ad).set 26 (.int (nI 3)))))) := m_s26 hW 3
  refine r_heap (G' := va_up G (ad 31 0) (some (.inr (9, (mF B ad).set 26 (.int (nI 3)))))) rfl ?_
  refine r_if_ne 50 dX9_data_45 (by decide) (fun c_5 => absurd (by decide) c_5) (fun c_5 => ?_)
  refine r_iconst (v := 0) dX9_data_48 (by decide) ?_
  refine r_ireti dX9_data_49 rfl ?_
  exact ⟨rfl, (setA B 26 0 3), hW_4, rfl, (s26 (fun f _ => rfl))⟩
