theorem in_m {x : Int32} : s_X9_isIn x (-1) 7 = b2i (decide (x = -1) || inB x 8) := by
  by_cases h : x = -1
  · rw [h]; decide
  · rw [decide_eq_false h, Bool.false_or, ← inB_s]
    unfold s_X9_isIn s_X8_isBelow
    have h0 : x.toInt ≠ -1 := fun q => h (Int32.toInt_inj.mp q)
    have e1 : x < -1 ↔ x < 0 := by
      rw [Int32.lt_iff_toInt_lt, Int32.lt_iff_toInt_lt, show (-1 : Int32).toInt = -1 by decide, show (0 : Int32).toInt = 0 by decide]
      omega
    have e2 : 7 < x ↔ nI 8 ≤ x := by
      rw [Int32.lt_iff_toInt_lt, Int32.le_iff_toInt_le, show (7 : Int32).toInt = 7 by decide, show (nI 8).toInt = 8 by decide]
      omega
    by_cases q : x < 0
    · rw [if_pos (e1.mpr q), if_pos q]
    · rw [if_neg (fun r => q (e1.mp r)), if_neg q]
      by_cases q2 : nI 8 ≤ x
      · rw [if_pos (e2.mpr q2), if_pos q2]
      · rw [if_neg (fun r => q2 (e2.mp r)), if_neg q2]
theorem c_inm {d b0 : Nat} {G : GH} (x : Int32) : CTd mX9_isIn d b0 G [.int x, .int (-1), .int 7] 0 0 (some (.int (b2i (decide (x = -1) || inB x 8)))) G := by
  rw [← in_m]
  exact c_X9_isIn x _ _
set_option maxRecDepth 100000 in
set_option maxHeartbeats 4000000 in
theorem m_clause_0 {d b0 : Nat} {G : GH} {A B : ST} {ad : AD} (hW : World A B ad G) (hI : Inv B) {b : Nat} (hx : (decide (nI b - 1 = -1) || inB (nI b - 1) 8) = true) (hn : B 9 0 < 10) : CT mX9_clause (d + 4) b0 G [.ref (ad 31 0), .int (nI b - 1)] 0 0 (MPo (nI (B 9 0)) 0 (setA (setA B 10 (B 9 0) b) 9 0 (B 9 0 + 1)) A ad) (fun _ _ => False) := by
  have hb0 := hI.b0
  have hb2 := hI.b2
  have hb9 := hI.b9
  have hb15 := hI.b15
  have hb18 := hI.b18
  refine CT.intro (by decide +kernel) rfl (Nat.le_of_ble_eq_true rfl) ?_
  show WP mX9_clause _ _ _ _ _ 0 0 0 [(0, .ref (ad 31 0)), (1, .int (nI b - 1))] []
  refine r_aload_n dX9_clause_0 rfl 0 rfl ?_
  refine r_iload_n dX9_clause_1 rfl 1 rfl ?_
  refine r_iconst (v := (-1)) dX9_clause_2 (by decide) ?_
  refine r_bipush (v := 7) dX9_clause_3 (by decide) ?_
  refine r_callS (st := [.ref (ad 31 0)]) [.int (nI b - 1), .int (-1), .int 7] 0 0 dX9_clause_5 kX9_isIn nX9_isIn lRX9_73 (c_inm (nI b - 1)) rfl rfl (Nat.le_of_ble_eq_true rfl) (Nat.le_refl _) (Nat.le_refl _) (fun _ _ h => h.elim) ?_
  refine cx_det (st2 := [.int (b2i (decide (nI b - 1 = -1) || inB (nI b - 1) 8)), .ref (ad 31 0)]) rfl ?_
  refine r_if_ne 15 dX9_clause_8 (by decide) (fun c_1 => ?_) (fun c_1 => absurd c_1 (b2i_no hx))
  refine r_aload_n dX9_clause_15 rfl 0 rfl ?_
  refine r_get 9 dX9_clause_16 fRX9_80 (hW.g 31 0 rfl) rfl ?_
  refine r_bipush (v := 10) dX9_clause_19 (by decide) ?_
  refine r_icmp_ne 28 dX9_clause_21 (by decide) (fun c_2 => ?_) (fun c_2 => absurd c_2 (fun q => Nat.ne_of_lt hn (ni_eq (b := 10) (by omega) (by decide) q)))
  refine r_iconst (v := 0) dX9_clause_28 (by decide) ?_
  refine r_callV (st := []) [.int 0] 0 0 dX9_clause_29 kX9_goes nX9_goes lRX9_92 (hW.g 31 0 rfl) rfl (c_goes hW 0) rfl rfl (Nat.le_of_ble_eq_true rfl) (Nat.le_refl _) (Nat.le_refl _) (fun _ _ h => h.elim) ?_
  refine cx_det (st2 := [.int 1]) rfl ?_
  have hW_3 : World A (setA B 26 0 0) ad (va_up G (ad 31 0) (some (.inr (9, (mF B ad).set 26 (.int (nI 0)))))) := m_s26 hW 0
  refine r_heap (G' := va_up G (ad 31 0) (some (.inr (9, (mF B ad).set 26 (.int (nI 0)))))) rfl ?_
  refine r_if_ne 37 dX9_clause_32 (by decide) (fun c_4 => ?_) (fun c_4 => absurd c_4 (by decide))
  refine r_aload_n dX9_clause_37 rfl 0 rfl ?_
  refine r_get 10 dX9_clause_38 fRX9_32 (hW_3.g 31 0 rfl) rfl ?_
  refine r_aload_n dX9_clause_41 rfl 0 rfl ?_
  refine r_get 9 dX9_clause_42 fRX9_80 (hW_3.g 31 0 rfl) rfl ?_
  refine r_top (nI (B 9 0)) rfl ?_
  refine r_iload_n dX9_clause_45 rfl 1 rfl ?_
  refine r_iast dX9_clause_46 (hW_3.g 32 10 rfl) (vp_in_nI (by omega) (by decide)) ?_
  have hW_5 : World A (setA (setA B 26 0 0) 10 (B 9 0) b) ad (va_up (va_up G (ad 31 0) (some (.inr (9, (mF B ad).set 26 (.int (nI 0)))))) (ad 32 10) (some (.inl (.int, 10, .inl (upd (fun k => if k < 10 then nI ((setA B 26 0 0) 10 k) - 1 else 0) (B 9 0) (nI b - 1)))))) := m_a10 hW_3 (by omega)
  refine r_heap (G' := va_up (va_up G (ad 31 0) (some (.inr (9, (mF B ad).set 26 (.int (nI 0)))))) (ad 32 10) (some (.inl (.int, 10, .inl (upd (fun k => if k < 10 then nI ((setA B 26 0 0) 10 k) - 1 else 0) (B 9 0) (nI b - 1)))))) (by rw [nI_cl (by omega)] <;> rfl) ?_
  refine r_aload_n dX9_clause_47 rfl 0 rfl ?_
  refine r_dup dX9_clause_48 rfl ?_
  refine r_get 9 dX9_clause_49 fRX9_80 (hW_5.g 31 0 rfl) rfl ?_
  refine r_top (nI (B 9 0)) rfl ?_
  refine r_iconst (v := 1) dX9_clause_52 (by decide) ?_
  refine r_iadd dX9_clause_53 ?_
  refine r_top (nI (B 9 0 + 1)) (nI_1 _) ?_
  refine r_put 9 (.int) dX9_clause_54 gRX9_80 (hW_5.g 31 0 rfl) (Nat.le_of_ble_eq_true rfl) rfl rfl ?_
  have hW_6 : World A (setA (setA (setA B 26 0 0) 10 (B 9 0) b) 9 0 (B 9 0 + 1)) ad (va_up (va_up (va_up G (ad 31 0) (some (.inr (9, (mF B ad).set 26 (.int (nI 0)))))) (ad 32 10) (some (.inl (.int, 10, .inl (upd (fun k => if k < 10 then nI ((setA B 26 0 0) 10 k) - 1 else 0) (B 9 0) (nI b - 1)))))) (ad 31 0) (some (.inr (9, (mF (setA (setA B 26 0 0) 10 (B 9 0) b) ad).set 9 (.int (nI (B 9 0 + 1))))))) := m_s9 hW_5 (B 9 0 + 1)
  refine r_heap (G' := va_up (va_up (va_up G (ad 31 0) (some (.inr (9, (mF B ad).set 26 (.int (nI 0)))))) (ad 32 10) (some (.inl (.int, 10, .inl (upd (fun k => if k < 10 then nI ((setA B 26 0 0) 10 k) - 1 else 0) (B 9 0) (nI b - 1)))))) (ad 31 0) (some (.inr (9, (mF (setA (setA B 26 0 0) 10 (B 9 0) b) ad).set 9 (.int (nI (B 9 0 + 1))))))) rfl ?_
  refine r_aload_n dX9_clause_57 rfl 0 rfl ?_
  refine r_get 9 dX9_clause_58 fRX9_80 (hW_6.g 31 0 rfl) rfl ?_
  refine r_top (nI (B 9 0 + 1)) rfl ?_
  refine r_iconst (v := 1) dX9_clause_61 (by decide) ?_
  refine r_isub dX9_clause_62 ?_
  refine r_top (nI (B 9 0)) (nI_m1 _) ?_
  refine r_ireti dX9_clause_63 rfl ?_
  exact ⟨rfl, (setA (setA (setA B 26 0 0) 10 (B 9 0) b) 9 0 (B 9 0 + 1)), hW_6, rfl, (scg (scg (s26 (fun f _ => rfl))))⟩
set_option maxRecDepth 100000 in
set_option maxHeartbeats 4000000 in
theorem m_clause_1 {d b0 : Nat} {G : GH} {A B : ST} {ad : AD} (hW : World A B ad G) (hI : Inv B) {x : Int32} (hx : (decide (x = -1) || inB x 8) = false) : CT mX9_clause (d + 4) b0 G [.ref (ad 31 0), .int x] 0 0 (MPo 0 1 B A ad) (fun _ _ => False) := by
  have hb0 := hI.b0
  have hb2 := hI.b2
  have hb9 := hI.b9
  have hb15 := hI.b15
  have hb18 := hI.b18
  refine CT.intro (by decide +kernel) rfl (Nat.le_of_ble_eq_true rfl) ?_
  show WP mX9_clause _ _ _ _ _ 0 0 0 [(0, .ref (ad 31 0)), (1, .int x)] []
  refine r_aload_n dX9_clause_0 rfl 0 rfl ?_
  refine r_iload_n dX9_clause_1 rfl 1 rfl ?_
  refine r_iconst (v := (-1)) dX9_clause_2 (by decide) ?_
  refine r_bipush (v := 7) dX9_clause_3 (by decide) ?_
  refine r_callS (st := [.ref (ad 31 0)]) [.int x, .int (-1), .int 7] 0 0 dX9_clause_5 kX9_isIn nX9_isIn lRX9_73 (c_inm x) rfl rfl (Nat.le_of_ble_eq_true rfl) (Nat.le_refl _) (Nat.le_refl _) (fun _ _ h => h.elim) ?_
  refine cx_det (st2 := [.int (b2i (decide (x = -1) || inB x 8)), .ref (ad 31 0)]) rfl ?_
  refine r_if_ne 15 dX9_clause_8 (by decide) (fun c_1 => absurd (b2i_z hx) c_1) (fun c_1 => ?_)
  refine r_iconst (v := 1) dX9_clause_11 (by decide) ?_
  refine r_goto 29 dX9_clause_12 (by decide) ?_
  refine r_callV (st := []) [.int 1] 0 0 dX9_clause_29 kX9_goes nX9_goes lRX9_92 (hW.g 31 0 rfl) rfl (c_goes hW 1) rfl rfl (Nat.le_of_ble_eq_true rfl) (Nat.le_refl _) (Nat.le_refl _) (fun _ _ h => h.elim) ?_
  refine cx_det (st2 := [.int 0]) rfl ?_
  have hW_2 : World A (setA B 26 0 1) ad (va_up G (ad 31 0) (some (.inr (9, (mF B ad).set 26 (.int (nI 1)))))) := m_s26 hW 1
  refine r_heap (G' := va_up G (ad 31 0) (some (.inr (9, (mF B ad).set 26 (.int (nI 1)))))) rfl ?_
  refine r_if_ne 37 dX9_clause_32 (by decide) (fun c_3 => absurd (by decide) c_3) (fun c_3 => ?_)
  refine r_iconst (v := 0) dX9_clause_35 (by decide) ?_
  refine r_ireti dX9_clause_36 rfl ?_
  exact ⟨rfl, (setA B 26 0 1), hW_2, rfl, (s26 (fun f _ => rfl))⟩
set_option maxRecDepth 100000 in
set_option maxHeartbeats 4000000 in
theorem m_clause_2 {d b0 : Nat} {G : GH} {A B : ST} {ad : AD} (hW : World A B ad G) (hI : Inv B) {x : Int32} (hx : (decide (x = -1) || inB x 8) = true) (hn : ¬ B 9 0 < 10) : CT mX9_clause (d + 4) b0 G [.ref (ad 31 0), .int x] 0 0 (MPo 0 2 B A ad) (fun _ _ => False) := by
  have hb0 := hI.b0
  have hb2 := hI.b2
  have hb9 := hI.b9
  have hb15 := hI.b15
  have hb18 := hI.b18
  refine CT.intro (by decide +kernel) rfl (Nat.le_of_ble_eq_true rfl) ?_
  show WP mX9_clause _ _ _ _ _ 0 0 0 [(0, .ref (ad 31 0)), (1, .int x)] []
  refine r_aload_n dX9_clause_0 rfl 0 rfl ?_
  refine r_iload_n dX9_clause_1 rfl 1 rfl ?_
  refine r_iconst (v := (-1)) dX9_clause_2 (by decide) ?_
  refine r_bipush (v := 7) dX9_clause_3 (by decide) ?_
  refine r_callS (st := [.ref (ad 31 0)]) [.int x, .int (-1), .int 7] 0 0 dX9_clause_5 kX9_isIn nX9_isIn lRX9_73 (c_inm x) rfl rfl (Nat.le_of_ble_eq_true rfl) (Nat.le_refl _) (Nat.le_refl _) (fun _ _ h => h.elim) ?_
  refine cx_det (st2 := [.int (b2i (decide (x = -1) || inB x 8)), .ref (ad 31 0)]) rfl ?_
  refine r_if_ne 15 dX9_clause_8 (by decide) (fun c_1 => ?_) (fun c_1 => absurd c_1 (b2i_no hx))
  refine r_aload_n dX9_clause_15 rfl 0 rfl ?_
  refine r_get 9 dX9_clause_16 fRX9_80 (hW.g 31 0 rfl) rfl ?_
  refine r_bipush (v := 10) dX9_clause_19 (by decide) ?_
  refine r_icmp_ne 28 dX9_clause_21 (by decide) (fun c_2 => absurd (show nI (B 9 0) = 10 by rw [show B 9 0 = 10 by omega]; rfl) c_2) (fun c_2 => ?_)
  refine r_iconst (v := 2) dX9_clause_24 (by decide) ?_
  refine r_goto 29 dX9_clause_25 (by decide) ?_
  refine r_callV (st := []) [.int 2] 0 0 dX9_clause_29 kX9_goes nX9_goes lRX9_92 (hW.g 31 0 rfl) rfl (c_goes hW 2) rfl rfl (Nat.le_of_ble_eq_true rfl) (Nat.le_refl _) (Nat.le_refl _) (fun _ _ h => h.elim) ?_
  refine cx_det (st2 := [.int 0]) rfl ?_
  have hW_3 : World A (setA B 26 0 2) ad (va_up G (ad 31 0) (some (.inr (9, (mF B ad).set 26 (.int (nI 2)))))) := m_s26 hW 2
  refine r_heap (G' := va_up G (ad 31 0) (some (.inr (9, (mF B ad).set 26 (.int (nI 2)))))) rfl ?_
  refine r_if_ne 37 dX9_clause_32 (by decide) (fun c_4 => absurd (by decide) c_4) (fun c_4 => ?_)
  refine r_iconst (v := 0) dX9_clause_35 (by decide) ?_
  refine r_ireti dX9_clause_36 rfl ?_
  exact ⟨rfl, (setA B 26 0 2), hW_3, rfl, (s26 (fun f _ => rfl))⟩
