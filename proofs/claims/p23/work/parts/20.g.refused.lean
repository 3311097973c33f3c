theorem cmp_self (x : Int64) : lg_cmp x x = 0 := by
  unfold lg_cmp
  rw [if_neg (show ¬ x > x from Int64.lt_irrefl), if_pos rfl]
theorem inB_neg {x : Int32} {n : Nat} (h : x < 0) : inB x n = false := by
  unfold inB s_X8_isBelow
  rw [if_pos h]; rfl
theorem inB_ge {k n : Nat} (hk : k < 2 ^ 31) (h : n ≤ k) : inB (nI k) n = false := by
  rw [inB_nI hk (by omega)]
  exact decide_eq_false (by omega)
theorem and_f1 {a b : Bool} (h : a = false) : (a && b) = false := by rw [h]; rfl
theorem and_f2 {a b : Bool} (h : b = false) : (a && b) = false := by rw [h]; exact Bool.and_false _
theorem lo_all : (List.range 30).all (fun r => decide ((-1 : Int32) - nI r < 0) && (decide ((-2 : Int32) - nI r < 0) && decide (¬ (-2 : Int32) - nI r = -1))) = true := by decide +kernel
theorem lo_r {r : Nat} (h : r < 30) : (-1 : Int32) - nI r < 0 ∧ (-2 : Int32) - nI r < 0 ∧ ¬ (-2 : Int32) - nI r = -1 := by
  have h1 := List.all_eq_true.mp lo_all r (List.mem_range.mpr h)
  rw [Bool.and_eq_true, Bool.and_eq_true] at h1
  exact ⟨of_decide_eq_true h1.1, of_decide_eq_true h1.2.1, of_decide_eq_true h1.2.2⟩
theorem hi_2 {r : Nat} (h : r < 2 ^ 30) : ¬ nI (3 + r) ≤ 2 := fun q => by
  have := ni_le (a := 3 + r) (b := 2) (by omega) (by decide) q
  omega
theorem ltB_no {A : ST} (h : A 0 0 = 0 ∨ 11 ≤ A 0 0) : ltB A 1 10 = false := by
  unfold ltB
  have h2 : (decide (1 ≤ A 0 0) && decide (A 0 0 ≤ 10)) = false := by
    rcases h with h | h
    · rw [decide_eq_false (show ¬ 1 ≤ A 0 0 by omega)]; rfl
    · rw [decide_eq_false (show ¬ A 0 0 ≤ 10 by omega)]; exact Bool.and_false _
  rw [h2]; exact Bool.and_false _
theorem R_word {d b0 : Nat} {Q : Nat → Nat} {A B : ST} {G : GH} (h : LW Q A B G) (hI : Inv A) {y0 y1 y2 y3 : Int32} (hn : ¬ A 2 0 < 12) : CT mL_act (d + 9) b0 G [.ref (Q 0), .int (nI 1), .int y0, .int y1, .int y2, .int y3] 20 400 (LNo (-1663000) G) NoX := by
  cases hl : ltB A 1 10 with
  | false => exact R_word_a h hI hl
  | true => exact R_word_b h hI hl hn
theorem R_put_2 {d b0 : Nat} {Q : Nat → Nat} {A B : ST} {G : GH} (h : LW Q A B G) (hI : Inv A) {y0 y1 : Int32} {l c : Nat} (hl : l < A 15 0) (hc : c < A 9 0) (hrm : ¬ A 17 l < 6) : CT mL_act (d + 9) b0 G [.ref (Q 0), .int (nI 9), .int (nI l), .int (nI c), .int y0, .int y1] 20 400 (LNo (-1663000) G) NoX := by
  cases hh : hsB (rg A 16 (6 * l) 6) (A 17 l) (nI c) with
  | true => exact R_put_2a h hI hl hc hh
  | false => exact R_put_2b h hI hl hc hh hrm
set_option maxRecDepth 100000 in
set_option maxHeartbeats 4000000 in
theorem l_rf_end_lo {d b0 : Nat} {G : GH} {Q : Nat → Nat} {A B : ST} (hL : LW Q A B G) (hI : Inv A) (hR : Rl A B) {x : Nat} (hx : x < 2 ^ 31) : WP mL_isRefused (d + 11) b0 (fun r G' => r = some (.int (nI 1)) ∧ LW Q A B G') NoX G 2240 44800 1060 [(13, .int (nI 1)), (11, .long (alA A)), (10, .int ((-1) - (nI (x % 30)))), (9, .int ((-1) - (nI (x % 30)))), (8, .int ((-1) - (nI (x % 30)))), (7, .int ((-1) - (nI (x % 30)))), (6, .int ((-1) - (nI (x % 30)))), (5, .int (nI 1)), (0, .ref (Q 0)), (1, .ref (Q 1)), (2, .ref (Q 2)), (3, .ref (Q 3)), (4, .int (nI x))] [] := by
  have hm0 := hR.m0
  have hm1 := hR.m1
  have hm2 := hR.m2
  have hm3 := hR.m3
  have hm4 := hR.m4
  have hn9 := hR.n9
  have hb0 := hI.b0
  have hb2 := hI.b2
  have hb15 := hI.b15
  have hb18 := hI.b18
  have hlo := lo_r (Nat.mod_lt x (show 0 < 30 by decide))
  obtain ⟨hlo1, hlo2, hlo3⟩ := hlo
  refine r_iload dL_isRefused_1060 0 rfl ?_
  refine n_if_eq 1148 dL_isRefused_1062 (by decide) (by omega) (fun c1 => absurd c1 (by decide)) (fun c1 => ?_)
  refine r_aload_n dL_isRefused_1065 rfl 9 rfl ?_
  refine r_iconst (v := (nI 1)) dL_isRefused_1066 (by decide) ?_
  refine n_iald dL_isRefused_1067 hL.r1 (by omega) (by decide) ?_
  refine r_bipush (v := (nI 10)) dL_isRefused_1068 (by decide) ?_
  refine n_icmp_lt 1087 dL_isRefused_1070 (by decide) (by omega) (by omega) (fun c2 => ?_) (fun c2 => absurd c2 (by omega))
  refine r_aload_n dL_isRefused_1087 rfl 9 rfl ?_
  refine r_iconst (v := (nI 2)) dL_isRefused_1088 (by decide) ?_
  refine n_iald dL_isRefused_1089 hL.r1 (by omega) (by decide) ?_
  refine r_bipush (v := (nI 6)) dL_isRefused_1090 (by decide) ?_
  refine n_icmp_lt 1110 dL_isRefused_1092 (by decide) (by omega) (by omega) (fun c1092 => ?_) (fun c1092 => ?_)
  · refine r_aload_n dL_isRefused_1110 rfl 9 rfl ?_
    refine r_iconst (v := (nI 3)) dL_isRefused_1111 (by decide) ?_
    refine n_iald dL_isRefused_1112 hL.r1 (by omega) (by decide) ?_
    refine r_bipush (v := (nI 8)) dL_isRefused_1113 (by decide) ?_
    refine n_icmp_lt 1133 dL_isRefused_1115 (by decide) (by omega) (by omega) (fun c1115 => ?_) (fun c1115 => ?_)
    · refine r_aload_n dL_isRefused_1133 rfl 8 rfl ?_
      refine r_aload_n dL_isRefused_1134 rfl 9 rfl ?_
      refine r_callS (st := []) [.ref (Q 0), .ref (Q 1)] 40 800 dL_isRefused_1135 kL_all nL_all lRL_96 (l_all hL hI hR) rfl rfl (Nat.le_of_ble_eq_true rfl) (by omega) (by omega) (fun _ _ h => h.elim) ?_
      intro r G5 hr
      obtain ⟨rfl, hL6⟩ := hr
      show WP mL_isRefused _ _ _ _ _ _ _ 1138 [(13, .int (nI 1)), (11, .long (alA A)), (10, .int ((-1) - (nI (x % 30)))), (9, .int ((-1) - (nI (x % 30)))), (8, .int ((-1) - (nI (x % 30)))), (7, .int ((-1) - (nI (x % 30)))), (6, .int ((-1) - (nI (x % 30)))), (5, .int (nI 1)), (0, .ref (Q 0)), (1, .ref (Q 1)), (2, .ref (Q 2)), (3, .ref (Q 3)), (4, .int (nI x))] [.long (alA A)]
      refine r_lload dL_isRefused_1138 1 rfl ?_
      refine r_lcmp dL_isRefused_1140 ?_
      refine r_if_ne 1148 dL_isRefused_1141 (by decide) (fun c7 => absurd c7 (fun q => q (cmp_self _))) (fun c7 => ?_)
      refine r_iconst (v := (nI 1)) dL_isRefused_1144 (by decide) ?_
      refine r_goto 1149 dL_isRefused_1145 (by decide) ?_
      refine r_ret .boolean dL_isRefused_1149 rfl rfl ?_
      exact ⟨rfl, hL6⟩
    · have hw0 : 0 < A 2 0 := Nat.lt_of_le_of_lt (Nat.zero_le _) ((hI.da 0 (by omega)).2 0 (by decide))
      refine r_aload_n dL_isRefused_1118 rfl 8 rfl ?_
      refine r_bipush (v := (nI 10)) dL_isRefused_1119 (by decide) ?_
      refine r_iconst (v := (nI 0)) dL_isRefused_1121 (by decide) ?_
      refine r_iconst (v := (nI 0)) dL_isRefused_1122 (by decide) ?_
      refine r_iconst (v := (nI 0)) dL_isRefused_1123 (by decide) ?_
      refine r_iconst (v := (nI 0)) dL_isRefused_1124 (by decide) ?_
      refine r_callSW (st := []) [.ref (Q 0), .int (nI 10), .int (nI 0), .int (nI 0), .int (nI 0), .int (nI 0)] 2220 44400 dL_isRefused_1125 kL_act nL_act lRL_88 (R_data_3 hL hI (w := 0) (b := 0) hw0 (by decide) (by omega)) rfl rfl (Nat.le_of_ble_eq_true rfl) (by omega) (by omega) (fun _ _ h => h.elim) ?_
      refine cx_det (st2 := [.int (-1663000)]) rfl ?_
      refine r_ldc dL_isRefused_1128 con_82 ?_
      refine r_icmp_ne 1148 dL_isRefused_1130 (by decide) (fun c8 => absurd c8 (fun q => q rfl)) (fun c8 => ?_)
      refine r_aload_n dL_isRefused_1133 rfl 8 rfl ?_
      refine r_aload_n dL_isRefused_1134 rfl 9 rfl ?_
      refine r_callS (st := []) [.ref (Q 0), .ref (Q 1)] 20 400 dL_isRefused_1135 kL_all nL_all lRL_96 (l_all hL hI hR) rfl rfl (Nat.le_of_ble_eq_true rfl) (by omega) (by omega) (fun _ _ h => h.elim) ?_
      intro r G9 hr
      obtain ⟨rfl, hL10⟩ := hr
      show WP mL_isRefused _ _ _ _ _ _ _ 1138 [(13, .int (nI 1)), (11, .long (alA A)), (10, .int ((-1) - (nI (x % 30)))), (9, .int ((-1) - (nI (x % 30)))), (8, .int ((-1) - (nI (x % 30)))), (7, .int ((-1) - (nI (x % 30)))), (6, .int ((-1) - (nI (x % 30)))), (5, .int (nI 1)), (0, .ref (Q 0)), (1, .ref (Q 1)), (2, .ref (Q 2)), (3, .ref (Q 3)), (4, .int (nI x))] [.long (alA A)]
      refine r_lload dL_isRefused_1138 1 rfl ?_
      refine r_lcmp dL_isRefused_1140 ?_
      refine r_if_ne 1148 dL_isRefused_1141 (by decide) (fun c11 => absurd c11 (fun q => q (cmp_self _))) (fun c11 => ?_)
      refine r_iconst (v := (nI 1)) dL_isRefused_1144 (by decide) ?_
      refine r_goto 1149 dL_isRefused_1145 (by decide) ?_
      refine r_ret .boolean dL_isRefused_1149 rfl rfl ?_
      exact ⟨rfl, hL10⟩
  · refine r_aload_n dL_isRefused_1095 rfl 8 rfl ?_
    refine r_bipush (v := (nI 8)) dL_isRefused_1096 (by decide) ?_
    refine r_iconst (v := (nI 0)) dL_isRefused_1098 (by decide) ?_
    refine r_iconst (v := (nI 0)) dL_isRefused_1099 (by decide) ?_
    refine r_iconst (v := (nI 0)) dL_isRefused_1100 (by decide) ?_
    refine r_iconst (v := (nI 0)) dL_isRefused_1101 (by decide) ?_
    refine r_callSW (st := []) [.ref (Q 0), .int (nI 8), .int (nI 0), .int (nI 0), .int (nI 0), .int (nI 0)] 2220 44400 dL_isRefused_1102 kL_act nL_act lRL_88 (R_letter hL hI (by omega)) rfl rfl (Nat.le_of_ble_eq_true rfl) (by omega) (by omega) (fun _ _ h => h.elim) ?_
    refine cx_det (st2 := [.int (-1663000)]) rfl ?_
    refine r_ldc dL_isRefused_1105 con_82 ?_
    refine r_icmp_ne 1148 dL_isRefused_1107 (by decide) (fun c12 => absurd c12 (fun q => q rfl)) (fun c12 => ?_)
    refine r_aload_n dL_isRefused_1110 rfl 9 rfl ?_
    refine r_iconst (v := (nI 3)) dL_isRefused_1111 (by decide) ?_
    refine n_iald dL_isRefused_1112 hL.r1 (by omega) (by decide) ?_
    refine r_bipush (v := (nI 8)) dL_isRefused_1113 (by decide) ?_
    refine n_icmp_lt 1133 dL_isRefused_1115 (by decide) (by omega) (by omega) (fun c1115 => ?_) (fun c1115 => ?_)
    · refine r_aload_n dL_isRefused_1133 rfl 8 rfl ?_
      refine r_aload_n dL_isRefused_1134 rfl 9 rfl ?_
      refine r_callS (st := []) [.ref (Q 0), .ref (Q 1)] 20 400 dL_isRefused_1135 kL_all nL_all lRL_96 (l_all hL hI hR) rfl rfl (Nat.le_of_ble_eq_true rfl) (by omega) (by omega) (fun _ _ h => h.elim) ?_
      intro r G14 hr
      obtain ⟨rfl, hL15⟩ := hr
      show WP mL_isRefused _ _ _ _ _ _ _ 1138 [(13, .int (nI 1)), (11, .long (alA A)), (10, .int ((-1) - (nI (x % 30)))), (9, .int ((-1) - (nI (x % 30)))), (8, .int ((-1) - (nI (x % 30)))), (7, .int ((-1) - (nI (x % 30)))), (6, .int ((-1) - (nI (x % 30)))), (5, .int (nI 1)), (0, .ref (Q 0)), (1, .ref (Q 1)), (2, .ref (Q 2)), (3, .ref (Q 3)), (4, .int (nI x))] [.long (alA A)]
      refine r_lload dL_isRefused_1138 1 rfl ?_
      refine r_lcmp dL_isRefused_1140 ?_
      refine r_if_ne 1148 dL_isRefused_1141 (by decide) (fun c16 => absurd c16 (fun q => q (cmp_self _))) (fun c16 => ?_)
      refine r_iconst (v := (nI 1)) dL_isRefused_1144 (by decide) ?_
      refine r_goto 1149 dL_isRefused_1145 (by decide) ?_
      refine r_ret .boolean dL_isRefused_1149 rfl rfl ?_
      exact ⟨rfl, hL15⟩
    · have hw0 : 0 < A 2 0 := Nat.lt_of_le_of_lt (Nat.zero_le _) ((hI.da 0 (by omega)).2 0 (by decide))
      refine r_aload_n dL_isRefused_1118 rfl 8 rfl ?_
      refine r_bipush (v := (nI 10)) dL_isRefused_1119 (by decide) ?_
      refine r_iconst (v := (nI 0)) dL_isRefused_1121 (by decide) ?_
      refine r_iconst (v := (nI 0)) dL_isRefused_1122 (by decide) ?_
      refine r_iconst (v := (nI 0)) dL_isRefused_1123 (by decide) ?_
      refine r_iconst (v := (nI 0)) dL_isRefused_1124 (by decide) ?_
      refine r_callSW (st := []) [.ref (Q 0), .int (nI 10), .int (nI 0), .int (nI 0), .int (nI 0), .int (nI 0)] 2200 44000 dL_isRefused_1125 kL_act nL_act lRL_88 (R_data_3 hL hI (w := 0) (b := 0) hw0 (by decide) (by omega)) rfl rfl (Nat.le_of_ble_eq_true rfl) (by omega) (by omega) (fun _ _ h => h.elim) ?_
      refine cx_det (st2 := [.int (-1663000)]) rfl ?_
      refine r_ldc dL_isRefused_1128 con_82 ?_
      refine r_icmp_ne 1148 dL_isRefused_1130 (by decide) (fun c17 => absurd c17 (fun q => q rfl)) (fun c17 => ?_)
      refine r_aload_n dL_isRefused_1133 rfl 8 rfl ?_
      refine r_aload_n dL_isRefused_1134 rfl 9 rfl ?_
      refine r_callS (st := []) [.ref (Q 0), .ref (Q 1)] 0 0 dL_isRefused_1135 kL_all nL_all lRL_96 (l_all hL hI hR) rfl rfl (Nat.le_of_ble_eq_true rfl) (by omega) (by omega) (fun _ _ h => h.elim) ?_
      intro r G18 hr
      obtain ⟨rfl, hL19⟩ := hr
      show WP mL_isRefused _ _ _ _ _ _ _ 1138 [(13, .int (nI 1)), (11, .long (alA A)), (10, .int ((-1) - (nI (x % 30)))), (9, .int ((-1) - (nI (x % 30)))), (8, .int ((-1) - (nI (x % 30)))), (7, .int ((-1) - (nI (x % 30)))), (6, .int ((-1) - (nI (x % 30)))), (5, .int (nI 1)), (0, .ref (Q 0)), (1, .ref (Q 1)), (2, .ref (Q 2)), (3, .ref (Q 3)), (4, .int (nI x))] [.long (alA A)]
      refine r_lload dL_isRefused_1138 1 rfl ?_
      refine r_lcmp dL_isRefused_1140 ?_
      refine r_if_ne 1148 dL_isRefused_1141 (by decide) (fun c20 => absurd c20 (fun q => q (cmp_self _))) (fun c20 => ?_)
      refine r_iconst (v := (nI 1)) dL_isRefused_1144 (by decide) ?_
      refine r_goto 1149 dL_isRefused_1145 (by decide) ?_
      refine r_ret .boolean dL_isRefused_1149 rfl rfl ?_
      exact ⟨rfl, hL19⟩
set_option maxRecDepth 100000 in
set_option maxHeartbeats 4000000 in
theorem l_rf_let_lo {d b0 : Nat} {Q : Nat → Nat} {A B : ST} (hI : Inv A) (hR : Rl A B) {x : Nat} (hx : x < 2 ^ 31) : ∀ (fu : Nat) (k : Nat) (G : GH), (LW Q A B G ∧ k ≤ A 15 0) → A 15 0 - k < fu → WP mL_isRefused (d + 11) b0 (fun r G' => r = some (.int (nI 1)) ∧ LW Q A B G') NoX G (180 * (A 15 0 - k) + 2240) (3600 * (A 15 0 - k) + 44800) 816 [(14, .int (nI k)), (13, .int (nI 1)), (11, .long (alA A)), (10, .int ((-1) - (nI (x % 30)))), (9, .int ((-1) - (nI (x % 30)))), (8, .int ((-1) - (nI (x % 30)))), (7, .int ((-1) - (nI (x % 30)))), (6, .int ((-1) - (nI (x % 30)))), (5, .int (nI 1)), (0, .ref (Q 0)), (1, .ref (Q 1)), (2, .ref (Q 2)), (3, .ref (Q 3)), (4, .int (nI x))] [] := by
  intro fu
  induction fu with
  | zero => intro k G hinv hn; exact absurd hn (Nat.not_lt_zero _)
  | succ fu ih =>
    intro k G hinv hn
    obtain ⟨hL, hk⟩ := hinv
    have hm0 := hR.m0
    have hm1 := hR.m1
    have hm2 := hR.m2
    have hm3 := hR.m3
    have hm4 := hR.m4
    have hn9 := hR.n9
    have hb0 := hI.b0
    have hb2 := hI.b2
    have hb15 := hI.b15
    have hb18 := hI.b18
    have hlo := lo_r (Nat.mod_lt x (show 0 < 30 by decide))
    obtain ⟨hlo1, hlo2, hlo3⟩ := hlo
    refine r_iload dL_isRefused_816 0 rfl ?_
    refine r_aload_n dL_isRefused_818 rfl 10 rfl ?_
    refine r_iconst (v := (nI 2)) dL_isRefused_819 (by decide) ?_
    refine n_iald dL_isRefused_820 hL.r1 (by omega) (by decide) ?_
    refine n_icmp_ge 1060 dL_isRefused_821 (by decide) (by omega) (by omega) (fun ce => ?_) (fun ce => ?_)
    · exact WP.loc [1, 2, 3, 4, 5, 6, 7, 8, 9, 10, 11, 12, 13] rfl (WP.bud (by omega) (by omega) (l_rf_end_lo hL hI hR hx))
    · have hk2 : k < A 15 0 := by omega
      have hq0 := hR.l0 (show k < 6 by omega)
      have hq2 := (hI.ro k (by omega)).1
      refine WP.bud (bc' := 180 * (A 15 0 - (k + 1)) + 2420) (bs' := 3600 * (A 15 0 - (k + 1)) + 48400) (by omega) (by omega) ?_
      refine r_iload dL_isRefused_824 1 rfl ?_
      refine n_if_eq 1060 dL_isRefused_826 (by decide) (by omega) (fun c2 => absurd c2 (by decide)) (fun c2 => ?_)
      refine r_aload_n dL_isRefused_829 rfl 9 rfl ?_
      refine r_bipush (v := (nI 9)) dL_isRefused_830 (by decide) ?_
      refine r_iload dL_isRefused_832 0 rfl ?_
      refine r_iload dL_isRefused_834 5 rfl ?_
      refine r_iconst (v := (nI 0)) dL_isRefused_836 (by decide) ?_
      refine r_iconst (v := (nI 0)) dL_isRefused_837 (by decide) ?_
      refine r_callSW (st := []) [.ref (Q 0), .int (nI 9), .int (nI k), .int ((-1) - (nI (x % 30))), .int (nI 0), .int (nI 0)] (180 * (A 15 0 - (k + 1)) + 2400) (3600 * (A 15 0 - (k + 1)) + 48000) dL_isRefused_838 kL_act nL_act lRL_88 (R_put_1b hL hI hk2 (inB_neg hlo1)) rfl rfl (Nat.le_of_ble_eq_true rfl) (by omega) (by omega) (fun _ _ h => h.elim) ?_
      refine cx_det (st2 := [.int (-1661000)]) rfl ?_
      refine r_ldc dL_isRefused_841 con_76 ?_
      refine r_icmp_ne 1051 dL_isRefused_843 (by decide) (fun c3 => absurd c3 (fun q => q rfl)) (fun c3 => ?_)
      refine r_aload_n dL_isRefused_846 rfl 9 rfl ?_
      refine r_bipush (v := (nI 17)) dL_isRefused_847 (by decide) ?_
      refine r_iload dL_isRefused_849 0 rfl ?_
      refine r_iconst (v := (-1)) dL_isRefused_851 (by decide) ?_
      refine r_iload dL_isRefused_852 13 rfl ?_
      refine r_bipush (v := (nI 30)) dL_isRefused_854 (by decide) ?_
      refine n_irem dL_isRefused_856 (by omega) (by omega) (by omega) ?_
      refine r_isub dL_isRefused_857 ?_
      refine r_iconst (v := (nI 0)) dL_isRefused_858 (by decide) ?_
      refine r_iconst (v := (nI 0)) dL_isRefused_859 (by decide) ?_
      refine r_callSW (st := []) [.ref (Q 0), .int (nI 17), .int (nI k), .int ((-1) - (nI (x % 30))), .int (nI 0), .int (nI 0)] (180 * (A 15 0 - (k + 1)) + 2380) (3600 * (A 15 0 - (k + 1)) + 47600) dL_isRefused_860 kL_act nL_act lRL_88 (R_sample_1b hL hI hk2 hlo1) rfl rfl (Nat.le_of_ble_eq_true rfl) (by omega) (by omega) (fun _ _ h => h.elim) ?_
      refine cx_det (st2 := [.int (-1661000)]) rfl ?_
      refine r_ldc dL_isRefused_863 con_76 ?_
      refine r_icmp_ne 1051 dL_isRefused_865 (by decide) (fun c4 => absurd c4 (fun q => q rfl)) (fun c4 => ?_)
      refine r_aload_n dL_isRefused_868 rfl 9 rfl ?_
      refine r_bipush (v := (nI 13)) dL_isRefused_869 (by decide) ?_
      refine r_iload dL_isRefused_871 0 rfl ?_
      refine r_iload dL_isRefused_873 3 rfl ?_
      refine r_iconst (v := (nI 0)) dL_isRefused_875 (by decide) ?_
      refine r_bipush (v := (nI 9)) dL_isRefused_876 (by decide) ?_
      refine r_callSW (st := []) [.ref (Q 0), .int (nI 13), .int (nI k), .int ((-1) - (nI (x % 30))), .int (nI 0), .int (nI 9)] (180 * (A 15 0 - (k + 1)) + 2360) (3600 * (A 15 0 - (k + 1)) + 47200) dL_isRefused_878 kL_act nL_act lRL_88 (R_faultOf_1c hL hI hk2 (inB_neg hlo1)) rfl rfl (Nat.le_of_ble_eq_true rfl) (by omega) (by omega) (fun _ _ h => h.elim) ?_
      refine cx_det (st2 := [.int (-1661000)]) rfl ?_
      refine r_ldc dL_isRefused_881 con_76 ?_
      refine r_icmp_ne 1051 dL_isRefused_883 (by decide) (fun c5 => absurd c5 (fun q => q rfl)) (fun c5 => ?_)
      refine r_aload_n dL_isRefused_886 rfl 10 rfl ?_
      refine r_iconst (v := (nI 3)) dL_isRefused_887 (by decide) ?_
      refine n_iald dL_isRefused_888 hL.r1 (by omega) (by decide) ?_
      refine n_if_eq 980 dL_isRefused_889 (by decide) (by omega) (fun c889 => ?_) (fun c889 => ?_)
      · refine r_aload_n dL_isRefused_980 rfl 12 rfl ?_
        refine r_bipush (v := (nI 7)) dL_isRefused_981 (by decide) ?_
        refine r_iload dL_isRefused_983 0 rfl ?_
        refine n_imul dL_isRefused_985 ?_
        refine n_iald dL_isRefused_986 hL.r3 (by omega) (by decide) ?_
        refine n_if_eq 1014 dL_isRefused_987 (by decide) (by omega) (fun c987 => ?_) (fun c987 => ?_)
        · refine r_aload_n dL_isRefused_1014 rfl 12 rfl ?_
          refine r_bipush (v := (nI 7)) dL_isRefused_1015 (by decide) ?_
          refine r_iload dL_isRefused_1017 0 rfl ?_
          refine n_imul dL_isRefused_1019 ?_
          refine n_iald dL_isRefused_1020 hL.r3 (by omega) (by decide) ?_
          refine r_bipush (v := (nI 6)) dL_isRefused_1021 (by decide) ?_
          refine n_icmp_lt 1047 dL_isRefused_1023 (by decide) (by omega) (by omega) (fun c1023 => ?_) (fun c1023 => ?_)
          · refine r_iconst (v := (nI 1)) dL_isRefused_1047 (by decide) ?_
            refine r_goto 1052 dL_isRefused_1048 (by decide) ?_
            refine r_istore [(13, .int (nI 1)), (14, .int (nI k)), (11, .long (alA A)), (10, .int ((-1) - (nI (x % 30)))), (9, .int ((-1) - (nI (x % 30)))), (8, .int ((-1) - (nI (x % 30)))), (7, .int ((-1) - (nI (x % 30)))), (6, .int ((-1) - (nI (x % 30)))), (5, .int (nI 1)), (0, .ref (Q 0)), (1, .ref (Q 1)), (2, .ref (Q 2)), (3, .ref (Q 3)), (4, .int (nI x))] dL_isRefused_1052 (by decide) rfl ?_
            refine r_iinc (nI (k + 1)) [(14, .int (nI (k + 1))), (13, .int (nI 1)), (11, .long (alA A)), (10, .int ((-1) - (nI (x % 30)))), (9, .int ((-1) - (nI (x % 30)))), (8, .int ((-1) - (nI (x % 30)))), (7, .int ((-1) - (nI (x % 30)))), (6, .int ((-1) - (nI (x % 30)))), (5, .int (nI 1)), (0, .ref (Q 0)), (1, .ref (Q 1)), (2, .ref (Q 2)), (3, .ref (Q 3)), (4, .int (nI x))] dL_isRefused_1054 1 rfl (nI_add k 1) (by decide) rfl ?_
            refine r_goto 816 dL_isRefused_1057 (by decide) ?_
            exact WP.loc [0, 1, 2, 3, 4, 5, 6, 7, 8, 9, 10, 11, 12, 13] rfl (WP.bud (by omega) (by omega) (ih (k + 1) _ ⟨hL, by omega⟩ (by omega)))
          · have hcl0 : cla A k 0 < A 9 0 := ((hI.ro k (by omega)).2 0 (by omega)).1
            have hcm : x % B 1 1 < A 9 0 := by rw [← hm1]; exact Nat.mod_lt _ (by omega)
            refine r_aload_n dL_isRefused_1026 rfl 9 rfl ?_
            refine r_bipush (v := (nI 9)) dL_isRefused_1027 (by decide) ?_
            refine r_iload dL_isRefused_1029 0 rfl ?_
            refine r_iload dL_isRefused_1031 13 rfl ?_
            refine r_aload_n dL_isRefused_1033 rfl 10 rfl ?_
            refine r_iconst (v := (nI 1)) dL_isRefused_1034 (by decide) ?_
            refine n_iald dL_isRefused_1035 hL.r1 (by omega) (by decide) ?_
            refine n_irem dL_isRefused_1036 (by omega) (by omega) (by omega) ?_
            refine r_iconst (v := (nI 0)) dL_isRefused_1037 (by decide) ?_
            refine r_iconst (v := (nI 0)) dL_isRefused_1038 (by decide) ?_
            refine r_callSW (st := []) [.ref (Q 0), .int (nI 9), .int (nI k), .int (nI (x % (B 1 1))), .int (nI 0), .int (nI 0)] (180 * (A 15 0 - (k + 1)) + 2340) (3600 * (A 15 0 - (k + 1)) + 46800) dL_isRefused_1039 kL_act nL_act lRL_88 (R_put_2 hL hI hk2 hcm (by omega)) rfl rfl (Nat.le_of_ble_eq_true rfl) (by omega) (by omega) (fun _ _ h => h.elim) ?_
            refine cx_det (st2 := [.int (-1663000)]) rfl ?_
            refine r_ldc dL_isRefused_1042 con_82 ?_
            refine r_icmp_ne 1051 dL_isRefused_1044 (by decide) (fun c9 => absurd c9 (fun q => q rfl)) (fun c9 => ?_)
            refine r_iconst (v := (nI 1)) dL_isRefused_1047 (by decide) ?_
            refine r_goto 1052 dL_isRefused_1048 (by decide) ?_
            refine r_istore [(13, .int (nI 1)), (14, .int (nI k)), (11, .long (alA A)), (10, .int ((-1) - (nI (x % 30)))), (9, .int ((-1) - (nI (x % 30)))), (8, .int ((-1) - (nI (x % 30)))), (7, .int ((-1) - (nI (x % 30)))), (6, .int ((-1) - (nI (x % 30)))), (5, .int (nI 1)), (0, .ref (Q 0)), (1, .ref (Q 1)), (2, .ref (Q 2)), (3, .ref (Q 3)), (4, .int (nI x))] dL_isRefused_1052 (by decide) rfl ?_
            refine r_iinc (nI (k + 1)) [(14, .int (nI (k + 1))), (13, .int (nI 1)), (11, .long (alA A)), (10, .int ((-1) - (nI (x % 30)))), (9, .int ((-1) - (nI (x % 30)))), (8, .int ((-1) - (nI (x % 30)))), (7, .int ((-1) - (nI (x % 30)))), (6, .int ((-1) - (nI (x % 30)))), (5, .int (nI 1)), (0, .ref (Q 0)), (1, .ref (Q 1)), (2, .ref (Q 2)), (3, .ref (Q 3)), (4, .int (nI x))] dL_isRefused_1054 1 rfl (nI_add k 1) (by decide) rfl ?_
            refine r_goto 816 dL_isRefused_1057 (by decide) ?_
            exact WP.loc [0, 1, 2, 3, 4, 5, 6, 7, 8, 9, 10, 11, 12, 13] rfl (WP.bud (by omega) (by omega) (ih (k + 1) _ ⟨hL, by omega⟩ (by omega)))
        · have h17 : 0 < A 17 k := by omega
          have hl1 : B 3 (7 * k + 1) = cla A k 0 := hR.l1 (i := k) (k := 0) (by omega) h17
          have hcl : cla A k 0 < A 9 0 := ((hI.ro k (by omega)).2 0 h17).1
          have hcin : hsB (rg A 16 (6 * k) 6) (A 17 k) (nI (cla A k 0)) = true := hlB_in hq2 h17
          refine r_aload_n dL_isRefused_990 rfl 9 rfl ?_
          refine r_bipush (v := (nI 9)) dL_isRefused_991 (by decide) ?_
          refine r_iload dL_isRefused_993 0 rfl ?_
          refine r_aload_n dL_isRefused_995 rfl 12 rfl ?_
          refine r_bipush (v := (nI 7)) dL_isRefused_996 (by decide) ?_
          refine r_iload dL_isRefused_998 0 rfl ?_
          refine n_imul dL_isRefused_1000 ?_
          refine r_iconst (v := (nI 1)) dL_isRefused_1001 (by decide) ?_
          refine n_iadd dL_isRefused_1002 ?_
          refine n_iald dL_isRefused_1003 hL.r3 (by omega) (by decide) ?_
          refine r_top (nI (cla A k 0)) (by rw [hl1]) ?_
          refine r_iconst (v := (nI 0)) dL_isRefused_1004 (by decide) ?_
          refine r_iconst (v := (nI 0)) dL_isRefused_1005 (by decide) ?_
          refine r_callSW (st := []) [.ref (Q 0), .int (nI 9), .int (nI k), .int (nI (cla A k 0)), .int (nI 0), .int (nI 0)] (180 * (A 15 0 - (k + 1)) + 2340) (3600 * (A 15 0 - (k + 1)) + 46800) dL_isRefused_1006 kL_act nL_act lRL_88 (R_put_2a hL hI hk2 hcl hcin) rfl rfl (Nat.le_of_ble_eq_true rfl) (by omega) (by omega) (fun _ _ h => h.elim) ?_
          refine cx_det (st2 := [.int (-1663000)]) rfl ?_
          refine r_ldc dL_isRefused_1009 con_82 ?_
          refine r_icmp_ne 1051 dL_isRefused_1011 (by decide) (fun c10 => absurd c10 (fun q => q rfl)) (fun c10 => ?_)
          refine r_aload_n dL_isRefused_1014 rfl 12 rfl ?_
          refine r_bipush (v := (nI 7)) dL_isRefused_1015 (by decide) ?_
          refine r_iload dL_isRefused_1017 0 rfl ?_
          refine n_imul dL_isRefused_1019 ?_
          refine n_iald dL_isRefused_1020 hL.r3 (by omega) (by decide) ?_
          refine r_bipush (v := (nI 6)) dL_isRefused_1021 (by decide) ?_
          refine n_icmp_lt 1047 dL_isRefused_1023 (by decide) (by omega) (by omega) (fun c1023 => ?_) (fun c1023 => ?_)
          · refine r_iconst (v := (nI 1)) dL_isRefused_1047 (by decide) ?_
            refine r_goto 1052 dL_isRefused_1048 (by decide) ?_
            refine r_istore [(13, .int (nI 1)), (14, .int (nI k)), (11, .long (alA A)), (10, .int ((-1) - (nI (x % 30)))), (9, .int ((-1) - (nI (x % 30)))), (8, .int ((-1) - (nI (x % 30)))), (7, .int ((-1) - (nI (x % 30)))), (6, .int ((-1) - (nI (x % 30)))), (5, .int (nI 1)), (0, .ref (Q 0)), (1, .ref (Q 1)), (2, .ref (Q 2)), (3, .ref (Q 3)), (4, .int (nI x))] dL_isRefused_1052 (by decide) rfl ?_
            refine r_iinc (nI (k + 1)) [(14, .int (nI (k + 1))), (13, .int (nI 1)), (11, .long (alA A)), (10, .int ((-1) - (nI (x % 30)))), (9, .int ((-1) - (nI (x % 30)))), (8, .int ((-1) - (nI (x % 30)))), (7, .int ((-1) - (nI (x % 30)))), (6, .int ((-1) - (nI (x % 30)))), (5, .int (nI 1)), (0, .ref (Q 0)), (1, .ref (Q 1)), (2, .ref (Q 2)), (3, .ref (Q 3)), (4, .int (nI x))] dL_isRefused_1054 1 rfl (nI_add k 1) (by decide) rfl ?_
            refine r_goto 816 dL_isRefused_1057 (by decide) ?_
            exact WP.loc [0, 1, 2, 3, 4, 5, 6, 7, 8, 9, 10, 11, 12, 13] rfl (WP.bud (by omega) (by omega) (ih (k + 1) _ ⟨hL, by omega⟩ (by omega)))
          · have hcl0 : cla A k 0 < A 9 0 := ((hI.ro k (by omega)).2 0 (by omega)).1
            have hcm : x % B 1 1 < A 9 0 := by rw [← hm1]; exact Nat.mod_lt _ (by omega)
            refine r_aload_n dL_isRefused_1026 rfl 9 rfl ?_
            refine r_bipush (v := (nI 9)) dL_isRefused_1027 (by decide) ?_
            refine r_iload dL_isRefused_1029 0 rfl ?_
            refine r_iload dL_isRefused_1031 13 rfl ?_
            refine r_aload_n dL_isRefused_1033 rfl 10 rfl ?_
            refine r_iconst (v := (nI 1)) dL_isRefused_1034 (by decide) ?_
            refine n_iald dL_isRefused_1035 hL.r1 (by omega) (by decide) ?_
            refine n_irem dL_isRefused_1036 (by omega) (by omega) (by omega) ?_
            refine r_iconst (v := (nI 0)) dL_isRefused_1037 (by decide) ?_
            refine r_iconst (v := (nI 0)) dL_isRefused_1038 (by decide) ?_
            refine r_callSW (st := []) [.ref (Q 0), .int (nI 9), .int (nI k), .int (nI (x % (B 1 1))), .int (nI 0), .int (nI 0)] (180 * (A 15 0 - (k + 1)) + 2320) (3600 * (A 15 0 - (k + 1)) + 46400) dL_isRefused_1039 kL_act nL_act lRL_88 (R_put_2 hL hI hk2 hcm (by omega)) rfl rfl (Nat.le_of_ble_eq_true rfl) (by omega) (by omega) (fun _ _ h => h.elim) ?_
            refine cx_det (st2 := [.int (-1663000)]) rfl ?_
            refine r_ldc dL_isRefused_1042 con_82 ?_
            refine r_icmp_ne 1051 dL_isRefused_1044 (by decide) (fun c12 => absurd c12 (fun q => q rfl)) (fun c12 => ?_)
            refine r_iconst (v := (nI 1)) dL_isRefused_1047 (by decide) ?_
            refine r_goto 1052 dL_isRefused_1048 (by decide) ?_
            refine r_istore [(13, .int (nI 1)), (14, .int (nI k)), (11, .long (alA A)), (10, .int ((-1) - (nI (x % 30)))), (9, .int ((-1) - (nI (x % 30)))), (8, .int ((-1) - (nI (x % 30)))), (7, .int ((-1) - (nI (x % 30)))), (6, .int ((-1) - (nI (x % 30)))), (5, .int (nI 1)), (0, .ref (Q 0)), (1, .ref (Q 1)), (2, .ref (Q 2)), (3, .ref (Q 3)), (4, .int (nI x))] dL_isRefused_1052 (by decide) rfl ?_
            refine r_iinc (nI (k + 1)) [(14, .int (nI (k + 1))), (13, .int (nI 1)), (11, .long (alA A)), (10, .int ((-1) - (nI (x % 30)))), (9, .int ((-1) - (nI (x % 30)))), (8, .int ((-1) - (nI (x % 30)))), (7, .int ((-1) - (nI (x % 30)))), (6, .int ((-1) - (nI (x % 30)))), (5, .int (nI 1)), (0, .ref (Q 0)), (1, .ref (Q 1)), (2, .ref (Q 2)), (3, .ref (Q 3)), (4, .int (nI x))] dL_isRefused_1054 1 rfl (nI_add k 1) (by decide) rfl ?_
            refine r_goto 816 dL_isRefused_1057 (by decide) ?_
            exact WP.loc [0, 1, 2, 3, 4, 5, 6, 7, 8, 9, 10, 11, 12, 13] rfl (WP.bud (by omega) (by omega) (ih (k + 1) _ ⟨hL, by omega⟩ (by omega)))
      · have h18 : 0 < A 18 0 := by omega
        refine r_aload_n dL_isRefused_892 rfl 9 rfl ?_
        refine r_bipush (v := (nI 13)) dL_isRefused_893 (by decide) ?_
        refine r_iload dL_isRefused_895 0 rfl ?_
        refine r_iconst (v := (nI 0)) dL_isRefused_897 (by decide) ?_
        refine r_iload dL_isRefused_898 7 rfl ?_
        refine r_bipush (v := (nI 9)) dL_isRefused_900 (by decide) ?_
        refine r_callSW (st := []) [.ref (Q 0), .int (nI 13), .int (nI k), .int (nI 0), .int ((-1) - (nI (x % 30))), .int (nI 9)] (180 * (A 15 0 - (k + 1)) + 2340) (3600 * (A 15 0 - (k + 1)) + 46800) dL_isRefused_902 kL_act nL_act lRL_88 (R_faultOf_1d hL hI hk2 (t := 0) h18 (inB_neg hlo1)) rfl rfl (Nat.le_of_ble_eq_true rfl) (by omega) (by omega) (fun _ _ h => h.elim) ?_
        refine cx_det (st2 := [.int (-1661000)]) rfl ?_
        refine r_ldc dL_isRefused_905 con_76 ?_
        refine r_icmp_ne 1051 dL_isRefused_907 (by decide) (fun c13 => absurd c13 (fun q => q rfl)) (fun c13 => ?_)
        refine r_aload_n dL_isRefused_910 rfl 9 rfl ?_
        refine r_bipush (v := (nI 13)) dL_isRefused_911 (by decide) ?_
        refine r_iload dL_isRefused_913 0 rfl ?_
        refine r_iconst (v := (nI 0)) dL_isRefused_915 (by decide) ?_
        refine r_iconst (v := (nI 0)) dL_isRefused_916 (by decide) ?_
        refine r_iload dL_isRefused_917 8 rfl ?_
        refine n_if_eq 926 dL_isRefused_919 (by decide) (by omega) (fun c14 => absurd c14 (by decide)) (fun c14 => ?_)
        refine r_iconst (v := (-1)) dL_isRefused_922 (by decide) ?_
        refine r_goto 933 dL_isRefused_923 (by decide) ?_
        refine r_callSW (st := []) [.ref (Q 0), .int (nI 13), .int (nI k), .int (nI 0), .int (nI 0), .int (-1)] (180 * (A 15 0 - (k + 1)) + 2320) (3600 * (A 15 0 - (k + 1)) + 46400) dL_isRefused_933 kL_act nL_act lRL_88 (R_faultOf_2 hL hI hk2 (t := 0) h18 (g := 0) (by decide) (inB_neg (by decide))) rfl rfl (Nat.le_of_ble_eq_true rfl) (by omega) (by omega) (fun _ _ h => h.elim) ?_
        refine cx_det (st2 := [.int (-1662000)]) rfl ?_
        refine r_ldc dL_isRefused_936 con_79 ?_
        refine r_icmp_ne 1051 dL_isRefused_938 (by decide) (fun c15 => absurd c15 (fun q => q rfl)) (fun c15 => ?_)
        refine r_aload_n dL_isRefused_941 rfl 9 rfl ?_
        refine r_bipush (v := (nI 14)) dL_isRefused_942 (by decide) ?_
        refine r_iload dL_isRefused_944 0 rfl ?_
        refine r_iconst (v := (nI 0)) dL_isRefused_946 (by decide) ?_
        refine r_iconst (v := (nI 0)) dL_isRefused_947 (by decide) ?_
        refine r_iconst (v := (-1)) dL_isRefused_948 (by decide) ?_
        refine r_iload dL_isRefused_949 13 rfl ?_
        refine r_bipush (v := (nI 30)) dL_isRefused_951 (by decide) ?_
        refine n_irem dL_isRefused_953 (by omega) (by omega) (by omega) ?_
        refine r_isub dL_isRefused_954 ?_
        refine r_callSW (st := []) [.ref (Q 0), .int (nI 14), .int (nI k), .int (nI 0), .int (nI 0), .int ((-1) - (nI (x % 30)))] (180 * (A 15 0 - (k + 1)) + 2300) (3600 * (A 15 0 - (k + 1)) + 46000) dL_isRefused_955 kL_act nL_act lRL_88 (R_sign_1e hL hI hk2 (t := 0) h18 (g := 0) (by decide) hlo1) rfl rfl (Nat.le_of_ble_eq_true rfl) (by omega) (by omega) (fun _ _ h => h.elim) ?_
        refine cx_det (st2 := [.int (-1661000)]) rfl ?_
        refine r_ldc dL_isRefused_958 con_76 ?_
        refine r_icmp_ne 1051 dL_isRefused_960 (by decide) (fun c16 => absurd c16 (fun q => q rfl)) (fun c16 => ?_)
        refine r_aload_n dL_isRefused_963 rfl 9 rfl ?_
        refine r_bipush (v := (nI 16)) dL_isRefused_964 (by decide) ?_
        refine r_iload dL_isRefused_966 0 rfl ?_
        refine r_iconst (v := (nI 0)) dL_isRefused_968 (by decide) ?_
        refine r_iload dL_isRefused_969 7 rfl ?_
        refine r_iconst (v := (nI 0)) dL_isRefused_971 (by decide) ?_
        refine r_callSW (st := []) [.ref (Q 0), .int (nI 16), .int (nI k), .int (nI 0), .int ((-1) - (nI (x % 30))), .int (nI 0)] (180 * (A 15 0 - (k + 1)) + 2280) (3600 * (A 15 0 - (k + 1)) + 45600) dL_isRefused_972 kL_act nL_act lRL_88 (R_costs_1d hL hI hk2 (t := 0) h18 (inB_neg hlo1)) rfl rfl (Nat.le_of_ble_eq_true rfl) (by omega) (by omega) (fun _ _ h => h.elim) ?_
        refine cx_det (st2 := [.int (-1661000)]) rfl ?_
        refine r_ldc dL_isRefused_975 con_76 ?_
        refine r_icmp_ne 1051 dL_isRefused_977 (by decide) (fun c17 => absurd c17 (fun q => q rfl)) (fun c17 => ?_)
        refine r_aload_n dL_isRefused_980 rfl 12 rfl ?_
        refine r_bipush (v := (nI 7)) dL_isRefused_981 (by decide) ?_
        refine r_iload dL_isRefused_983 0 rfl ?_
        refine n_imul dL_isRefused_985 ?_
        refine n_iald dL_isRefused_986 hL.r3 (by omega) (by decide) ?_
        refine n_if_eq 1014 dL_isRefused_987 (by decide) (by omega) (fun c987 => ?_) (fun c987 => ?_)
        · refine r_aload_n dL_isRefused_1014 rfl 12 rfl ?_
          refine r_bipush (v := (nI 7)) dL_isRefused_1015 (by decide) ?_
          refine r_iload dL_isRefused_1017 0 rfl ?_
          refine n_imul dL_isRefused_1019 ?_
          refine n_iald dL_isRefused_1020 hL.r3 (by omega) (by decide) ?_
          refine r_bipush (v := (nI 6)) dL_isRefused_1021 (by decide) ?_
          refine n_icmp_lt 1047 dL_isRefused_1023 (by decide) (by omega) (by omega) (fun c1023 => ?_) (fun c1023 => ?_)
          · refine r_iconst (v := (nI 1)) dL_isRefused_1047 (by decide) ?_
            refine r_goto 1052 dL_isRefused_1048 (by decide) ?_
            refine r_istore [(13, .int (nI 1)), (14, .int (nI k)), (11, .long (alA A)), (10, .int ((-1) - (nI (x % 30)))), (9, .int ((-1) - (nI (x % 30)))), (8, .int ((-1) - (nI (x % 30)))), (7, .int ((-1) - (nI (x % 30)))), (6, .int ((-1) - (nI (x % 30)))), (5, .int (nI 1)), (0, .ref (Q 0)), (1, .ref (Q 1)), (2, .ref (Q 2)), (3, .ref (Q 3)), (4, .int (nI x))] dL_isRefused_1052 (by decide) rfl ?_
            refine r_iinc (nI (k + 1)) [(14, .int (nI (k + 1))), (13, .int (nI 1)), (11, .long (alA A)), (10, .int ((-1) - (nI (x % 30)))), (9, .int ((-1) - (nI (x % 30)))), (8, .int ((-1) - (nI (x % 30)))), (7, .int ((-1) - (nI (x % 30)))), (6, .int ((-1) - (nI (x % 30)))), (5, .int (nI 1)), (0, .ref (Q 0)), (1, .ref (Q 1)), (2, .ref (Q 2)), (3, .ref (Q 3)), (4, .int (nI x))] dL_isRefused_1054 1 rfl (nI_add k 1) (by decide) rfl ?_
            refine r_goto 816 dL_isRefused_1057 (by decide) ?_
            exact WP.loc [0, 1, 2, 3, 4, 5, 6, 7, 8, 9, 10, 11, 12, 13] rfl (WP.bud (by omega) (by omega) (ih (k + 1) _ ⟨hL, by omega⟩ (by omega)))
          · have hcl0 : cla A k 0 < A 9 0 := ((hI.ro k (by omega)).2 0 (by omega)).1
            have hcm : x % B 1 1 < A 9 0 := by rw [← hm1]; exact Nat.mod_lt _ (by omega)
            refine r_aload_n dL_isRefused_1026 rfl 9 rfl ?_
            refine r_bipush (v := (nI 9)) dL_isRefused_1027 (by decide) ?_
            refine r_iload dL_isRefused_1029 0 rfl ?_
            refine r_iload dL_isRefused_1031 13 rfl ?_
            refine r_aload_n dL_isRefused_1033 rfl 10 rfl ?_
            refine r_iconst (v := (nI 1)) dL_isRefused_1034 (by decide) ?_
            refine n_iald dL_isRefused_1035 hL.r1 (by omega) (by decide) ?_
            refine n_irem dL_isRefused_1036 (by omega) (by omega) (by omega) ?_
            refine r_iconst (v := (nI 0)) dL_isRefused_1037 (by decide) ?_
            refine r_iconst (v := (nI 0)) dL_isRefused_1038 (by decide) ?_
            refine r_callSW (st := []) [.ref (Q 0), .int (nI 9), .int (nI k), .int (nI (x % (B 1 1))), .int (nI 0), .int (nI 0)] (180 * (A 15 0 - (k + 1)) + 2260) (3600 * (A 15 0 - (k + 1)) + 45200) dL_isRefused_1039 kL_act nL_act lRL_88 (R_put_2 hL hI hk2 hcm (by omega)) rfl rfl (Nat.le_of_ble_eq_true rfl) (by omega) (by omega) (fun _ _ h => h.elim) ?_
            refine cx_det (st2 := [.int (-1663000)]) rfl ?_
            refine r_ldc dL_isRefused_1042 con_82 ?_
            refine r_icmp_ne 1051 dL_isRefused_1044 (by decide) (fun c20 => absurd c20 (fun q => q rfl)) (fun c20 => ?_)
            refine r_iconst (v := (nI 1)) dL_isRefused_1047 (by decide) ?_
            refine r_goto 1052 dL_isRefused_1048 (by decide) ?_
            refine r_istore [(13, .int (nI 1)), (14, .int (nI k)), (11, .long (alA A)), (10, .int ((-1) - (nI (x % 30)))), (9, .int ((-1) - (nI (x % 30)))), (8, .int ((-1) - (nI (x % 30)))), (7, .int ((-1) - (nI (x % 30)))), (6, .int ((-1) - (nI (x % 30)))), (5, .int (nI 1)), (0, .ref (Q 0)), (1, .ref (Q 1)), (2, .ref (Q 2)), (3, .ref (Q 3)), (4, .int (nI x))] dL_isRefused_1052 (by decide) rfl ?_
            refine r_iinc (nI (k + 1)) [(14, .int (nI (k + 1))), (13, .int (nI 1)), (11, .long (alA A)), (10, .int ((-1) - (nI (x % 30)))), (9, .int ((-1) - (nI (x % 30)))), (8, .int ((-1) - (nI (x % 30)))), (7, .int ((-1) - (nI (x % 30)))), (6, .int ((-1) - (nI (x % 30)))), (5, .int (nI 1)), (0, .ref (Q 0)), (1, .ref (Q 1)), (2, .ref (Q 2)), (3, .ref (Q 3)), (4, .int (nI x))] dL_isRefused_1054 1 rfl (nI_add k 1) (by decide) rfl ?_
            refine r_goto 816 dL_isRefused_1057 (by decide) ?_
            exact WP.loc [0, 1, 2, 3, 4, 5, 6, 7, 8, 9, 10, 11, 12, 13] rfl (WP.bud (by omega) (by omega) (ih (k + 1) _ ⟨hL, by omega⟩ (by omega)))
        · have h17 : 0 < A 17 k := by omega
          have hl1 : B 3 (7 * k + 1) = cla A k 0 := hR.l1 (i := k) (k := 0) (by omega) h17
          have hcl : cla A k 0 < A 9 0 := ((hI.ro k (by omega)).2 0 h17).1
          have hcin : hsB (rg A 16 (6 * k) 6) (A 17 k) (nI (cla A k 0)) = true := hlB_in hq2 h17
          refine r_aload_n dL_isRefused_990 rfl 9 rfl ?_
          refine r_bipush (v := (nI 9)) dL_isRefused_991 (by decide) ?_
          refine r_iload dL_isRefused_993 0 rfl ?_
          refine r_aload_n dL_isRefused_995 rfl 12 rfl ?_
          refine r_bipush (v := (nI 7)) dL_isRefused_996 (by decide) ?_
          refine r_iload dL_isRefused_998 0 rfl ?_
          refine n_imul dL_isRefused_1000 ?_
          refine r_iconst (v := (nI 1)) dL_isRefused_1001 (by decide) ?_
          refine n_iadd dL_isRefused_1002 ?_
          refine n_iald dL_isRefused_1003 hL.r3 (by omega) (by decide) ?_
          refine r_top (nI (cla A k 0)) (by rw [hl1]) ?_
          refine r_iconst (v := (nI 0)) dL_isRefused_1004 (by decide) ?_
          refine r_iconst (v := (nI 0)) dL_isRefused_1005 (by decide) ?_
          refine r_callSW (st := []) [.ref (Q 0), .int (nI 9), .int (nI k), .int (nI (cla A k 0)), .int (nI 0), .int (nI 0)] (180 * (A 15 0 - (k + 1)) + 2260) (3600 * (A 15 0 - (k + 1)) + 45200) dL_isRefused_1006 kL_act nL_act lRL_88 (R_put_2a hL hI hk2 hcl hcin) rfl rfl (Nat.le_of_ble_eq_true rfl) (by omega) (by omega) (fun _ _ h => h.elim) ?_
          refine cx_det (st2 := [.int (-1663000)]) rfl ?_
          refine r_ldc dL_isRefused_1009 con_82 ?_
          refine r_icmp_ne 1051 dL_isRefused_1011 (by decide) (fun c21 => absurd c21 (fun q => q rfl)) (fun c21 => ?_)
          refine r_aload_n dL_isRefused_1014 rfl 12 rfl ?_
          refine r_bipush (v := (nI 7)) dL_isRefused_1015 (by decide) ?_
          refine r_iload dL_isRefused_1017 0 rfl ?_
          refine n_imul dL_isRefused_1019 ?_
          refine n_iald dL_isRefused_1020 hL.r3 (by omega) (by decide) ?_
          refine r_bipush (v := (nI 6)) dL_isRefused_1021 (by decide) ?_
          refine n_icmp_lt 1047 dL_isRefused_1023 (by decide) (by omega) (by omega) (fun c1023 => ?_) (fun c1023 => ?_)
          · refine r_iconst (v := (nI 1)) dL_isRefused_1047 (by decide) ?_
            refine r_goto 1052 dL_isRefused_1048 (by decide) ?_
            refine r_istore [(13, .int (nI 1)), (14, .int (nI k)), (11, .long (alA A)), (10, .int ((-1) - (nI (x % 30)))), (9, .int ((-1) - (nI (x % 30)))), (8, .int ((-1) - (nI (x % 30)))), (7, .int ((-1) - (nI (x % 30)))), (6, .int ((-1) - (nI (x % 30)))), (5, .int (nI 1)), (0, .ref (Q 0)), (1, .ref (Q 1)), (2, .ref (Q 2)), (3, .ref (Q 3)), (4, .int (nI x))] dL_isRefused_1052 (by decide) rfl ?_
            refine r_iinc (nI (k + 1)) [(14, .int (nI (k + 1))), (13, .int (nI 1)), (11, .long (alA A)), (10, .int ((-1) - (nI (x % 30)))), (9, .int ((-1) - (nI (x % 30)))), (8, .int ((-1) - (nI (x % 30)))), (7, .int ((-1) - (nI (x % 30)))), (6, .int ((-1) - (nI (x % 30)))), (5, .int (nI 1)), (0, .ref (Q 0)), (1, .ref (Q 1)), (2, .ref (Q 2)), (3, .ref (Q 3)), (4, .int (nI x))] dL_isRefused_1054 1 rfl (nI_add k 1) (by decide) rfl ?_
            refine r_goto 816 dL_isRefused_1057 (by decide) ?_
            exact WP.loc [0, 1, 2, 3, 4, 5, 6, 7, 8, 9, 10, 11, 12, 13] rfl (WP.bud (by omega) (by omega) (ih (k + 1) _ ⟨hL, by omega⟩ (by omega)))
          · have hcl0 : cla A k 0 < A 9 0 := ((hI.ro k (by omega)).2 0 (by omega)).1
            have hcm : x % B 1 1 < A 9 0 := by rw [← hm1]; exact Nat.mod_lt _ (by omega)
            refine r_aload_n dL_isRefused_1026 rfl 9 rfl ?_
            refine r_bipush (v := (nI 9)) dL_isRefused_1027 (by decide) ?_
            refine r_iload dL_isRefused_1029 0 rfl ?_
            refine r_iload dL_isRefused_1031 13 rfl ?_
            refine r_aload_n dL_isRefused_1033 rfl 10 rfl ?_
            refine r_iconst (v := (nI 1)) dL_isRefused_1034 (by decide) ?_
            refine n_iald dL_isRefused_1035 hL.r1 (by omega) (by decide) ?_
            refine n_irem dL_isRefused_1036 (by omega) (by omega) (by omega) ?_
            refine r_iconst (v := (nI 0)) dL_isRefused_1037 (by decide) ?_
            refine r_iconst (v := (nI 0)) dL_isRefused_1038 (by decide) ?_
            refine r_callSW (st := []) [.ref (Q 0), .int (nI 9), .int (nI k), .int (nI (x % (B 1 1))), .int (nI 0), .int (nI 0)] (180 * (A 15 0 - (k + 1)) + 2240) (3600 * (A 15 0 - (k + 1)) + 44800) dL_isRefused_1039 kL_act nL_act lRL_88 (R_put_2 hL hI hk2 hcm (by omega)) rfl rfl (Nat.le_of_ble_eq_true rfl) (by omega) (by omega) (fun _ _ h => h.elim) ?_
            refine cx_det (st2 := [.int (-1663000)]) rfl ?_
            refine r_ldc dL_isRefused_1042 con_82 ?_
            refine r_icmp_ne 1051 dL_isRefused_1044 (by decide) (fun c23 => absurd c23 (fun q => q rfl)) (fun c23 => ?_)
            refine r_iconst (v := (nI 1)) dL_isRefused_1047 (by decide) ?_
            refine r_goto 1052 dL_isRefused_1048 (by decide) ?_
            refine r_istore [(13, .int (nI 1)), (14, .int (nI k)), (11, .long (alA A)), (10, .int ((-1) - (nI (x % 30)))), (9, .int ((-1) - (nI (x % 30)))), (8, .int ((-1) - (nI (x % 30)))), (7, .int ((-1) - (nI (x % 30)))), (6, .int ((-1) - (nI (x % 30)))), (5, .int (nI 1)), (0, .ref (Q 0)), (1, .ref (Q 1)), (2, .ref (Q 2)), (3, .ref (Q 3)), (4, .int (nI x))] dL_isRefused_1052 (by decide) rfl ?_
            refine r_iinc (nI (k + 1)) [(14, .int (nI (k + 1))), (13, .int (nI 1)), (11, .long (alA A)), (10, .int ((-1) - (nI (x % 30)))), (9, .int ((-1) - (nI (x % 30)))), (8, .int ((-1) - (nI (x % 30)))), (7, .int ((-1) - (nI (x % 30)))), (6, .int ((-1) - (nI (x % 30)))), (5, .int (nI 1)), (0, .ref (Q 0)), (1, .ref (Q 1)), (2, .ref (Q 2)), (3, .ref (Q 3)), (4, .int (nI x))] dL_isRefused_1054 1 rfl (nI_add k 1) (by decide) rfl ?_
            refine r_goto 816 dL_isRefused_1057 (by decide) ?_
            exact WP.loc [0, 1, 2, 3, 4, 5, 6, 7, 8, 9, 10, 11, 12, 13] rfl (WP.bud (by omega) (by omega) (ih (k + 1) _ ⟨hL, by omega⟩ (by omega)))
set_option maxRecDepth 100000 in
set_option maxHeartbeats 4000000 in
theorem l_rf_cl_lo {d b0 : Nat} {Q : Nat → Nat} {A B : ST} (hI : Inv A) (hR : Rl A B) {x : Nat} (hx : x < 2 ^ 31) : ∀ (fu : Nat) (k : Nat) (G : GH), (LW Q A B G ∧ k ≤ A 9 0) → A 9 0 - k < fu → WP mL_isRefused (d + 11) b0 (fun r G' => r = some (.int (nI 1)) ∧ LW Q A B G') NoX G (180 * (A 9 0 - k) + 3320) (3600 * (A 9 0 - k) + 66400) 586 [(14, .int (nI k)), (13, .int (nI 1)), (11, .long (alA A)), (10, .int ((-1) - (nI (x % 30)))), (9, .int ((-1) - (nI (x % 30)))), (8, .int ((-1) - (nI (x % 30)))), (7, .int ((-1) - (nI (x % 30)))), (6, .int ((-1) - (nI (x % 30)))), (5, .int (nI 1)), (0, .ref (Q 0)), (1, .ref (Q 1)), (2, .ref (Q 2)), (3, .ref (Q 3)), (4, .int (nI x))] [] := by
  intro fu
  induction fu with
  | zero => intro k G hinv hn; exact absurd hn (Nat.not_lt_zero _)
  | succ fu ih =>
    intro k G hinv hn
    obtain ⟨hL, hk⟩ := hinv
    have hm0 := hR.m0
    have hm1 := hR.m1
    have hm2 := hR.m2
    have hm3 := hR.m3
    have hm4 := hR.m4
    have hn9 := hR.n9
    have hb0 := hI.b0
    have hb2 := hI.b2
    have hb15 := hI.b15
    have hb18 := hI.b18
    have hlo := lo_r (Nat.mod_lt x (show 0 < 30 by decide))
    obtain ⟨hlo1, hlo2, hlo3⟩ := hlo
    refine r_iload dL_isRefused_586 0 rfl ?_
    refine r_aload_n dL_isRefused_588 rfl 10 rfl ?_
    refine r_iconst (v := (nI 1)) dL_isRefused_589 (by decide) ?_
    refine n_iald dL_isRefused_590 hL.r1 (by omega) (by decide) ?_
    refine n_icmp_ge 813 dL_isRefused_591 (by decide) (by omega) (by omega) (fun ce => ?_) (fun ce => ?_)
    · refine r_iconst (v := (nI 0)) dL_isRefused_813 (by decide) ?_
      refine r_istore [(14, .int (nI 0)), (13, .int (nI 1)), (11, .long (alA A)), (10, .int ((-1) - (nI (x % 30)))), (9, .int ((-1) - (nI (x % 30)))), (8, .int ((-1) - (nI (x % 30)))), (7, .int ((-1) - (nI (x % 30)))), (6, .int ((-1) - (nI (x % 30)))), (5, .int (nI 1)), (0, .ref (Q 0)), (1, .ref (Q 1)), (2, .ref (Q 2)), (3, .ref (Q 3)), (4, .int (nI x))] dL_isRefused_814 (by decide) rfl ?_
      exact WP.loc [0, 1, 2, 3, 4, 5, 6, 7, 8, 9, 10, 11, 12, 13] rfl (WP.bud (by omega) (by omega) (l_rf_let_lo hI hR hx (A 15 0 + 1) 0 _ ⟨hL, Nat.zero_le _⟩ (by omega)))
    · have hk2 : k < A 9 0 := by omega
      have hx3 : x % 3 < 3 := Nat.mod_lt _ (by decide)
      have ec1 := hR.c1 (k := k) (g := x % 3) (by omega) hx3
      have et : (B 2 (7 * k + 1 + x % 3) = 0 ↔ A 12 (3 * k + x % 3) = 0) ∧ B 2 (7 * k + 1 + x % 3) ≤ 1 := by
        rw [ec1]; split
        · exact ⟨by simp [*], by omega⟩
        · exact ⟨by simp [*], by omega⟩
      refine WP.bud (bc' := 180 * (A 9 0 - (k + 1)) + 3500) (bs' := 3600 * (A 9 0 - (k + 1)) + 70000) (by omega) (by omega) ?_
      refine r_iload dL_isRefused_594 1 rfl ?_
      refine n_if_eq 813 dL_isRefused_596 (by decide) (by omega) (fun c2 => absurd c2 (by decide)) (fun c2 => ?_)
      refine r_aload_n dL_isRefused_599 rfl 9 rfl ?_
      refine r_iconst (v := (nI 4)) dL_isRefused_600 (by decide) ?_
      refine r_iload dL_isRefused_601 0 rfl ?_
      refine r_iload dL_isRefused_603 7 rfl ?_
      refine r_iconst (v := (nI 0)) dL_isRefused_605 (by decide) ?_
      refine r_iconst (v := (nI 0)) dL_isRefused_606 (by decide) ?_
      refine r_callSW (st := []) [.ref (Q 0), .int (nI 4), .int (nI k), .int ((-1) - (nI (x % 30))), .int (nI 0), .int (nI 0)] (180 * (A 9 0 - (k + 1)) + 3480) (3600 * (A 9 0 - (k + 1)) + 69600) dL_isRefused_607 kL_act nL_act lRL_88 (R_text_1 hL hI (and_f2 (inB_neg hlo1))) rfl rfl (Nat.le_of_ble_eq_true rfl) (by omega) (by omega) (fun _ _ h => h.elim) ?_
      refine cx_det (st2 := [.int (-1661000)]) rfl ?_
      refine r_ldc dL_isRefused_610 con_76 ?_
      refine r_icmp_ne 804 dL_isRefused_612 (by decide) (fun c3 => absurd c3 (fun q => q rfl)) (fun c3 => ?_)
      refine r_aload_n dL_isRefused_615 rfl 9 rfl ?_
      refine r_iconst (v := (nI 5)) dL_isRefused_616 (by decide) ?_
      refine r_iload dL_isRefused_617 0 rfl ?_
      refine r_iload dL_isRefused_619 7 rfl ?_
      refine r_iconst (v := (nI 0)) dL_isRefused_621 (by decide) ?_
      refine r_iconst (v := (nI 0)) dL_isRefused_622 (by decide) ?_
      refine r_callSW (st := []) [.ref (Q 0), .int (nI 5), .int (nI k), .int ((-1) - (nI (x % 30))), .int (nI 0), .int (nI 0)] (180 * (A 9 0 - (k + 1)) + 3460) (3600 * (A 9 0 - (k + 1)) + 69200) dL_isRefused_623 kL_act nL_act lRL_88 (R_approve_1 hL hI (and_f2 (inB_neg hlo1))) rfl rfl (Nat.le_of_ble_eq_true rfl) (by omega) (by omega) (fun _ _ h => h.elim) ?_
      refine cx_det (st2 := [.int (-1661000)]) rfl ?_
      refine r_ldc dL_isRefused_626 con_76 ?_
      refine r_icmp_ne 804 dL_isRefused_628 (by decide) (fun c4 => absurd c4 (fun q => q rfl)) (fun c4 => ?_)
      refine r_aload_n dL_isRefused_631 rfl 9 rfl ?_
      refine r_bipush (v := (nI 6)) dL_isRefused_632 (by decide) ?_
      refine r_iload dL_isRefused_634 0 rfl ?_
      refine r_iload dL_isRefused_636 5 rfl ?_
      refine r_bipush (v := (nI 9)) dL_isRefused_638 (by decide) ?_
      refine r_bipush (v := (nI 9)) dL_isRefused_640 (by decide) ?_
      refine r_callSW (st := []) [.ref (Q 0), .int (nI 6), .int (nI k), .int ((-1) - (nI (x % 30))), .int (nI 9), .int (nI 9)] (180 * (A 9 0 - (k + 1)) + 3440) (3600 * (A 9 0 - (k + 1)) + 68800) dL_isRefused_642 kL_act nL_act lRL_88 (R_relate_1b hL hI hk2 (inB_neg hlo1)) rfl rfl (Nat.le_of_ble_eq_true rfl) (by omega) (by omega) (fun _ _ h => h.elim) ?_
      refine cx_det (st2 := [.int (-1661000)]) rfl ?_
      refine r_ldc dL_isRefused_645 con_76 ?_
      refine r_icmp_ne 804 dL_isRefused_647 (by decide) (fun c5 => absurd c5 (fun q => q rfl)) (fun c5 => ?_)
      refine r_aload_n dL_isRefused_650 rfl 9 rfl ?_
      refine r_bipush (v := (nI 6)) dL_isRefused_651 (by decide) ?_
      refine r_iload dL_isRefused_653 0 rfl ?_
      refine r_iload dL_isRefused_655 0 rfl ?_
      refine r_iload dL_isRefused_657 13 rfl ?_
      refine r_iconst (v := (nI 4)) dL_isRefused_659 (by decide) ?_
      refine n_irem dL_isRefused_660 (by omega) (by omega) (by omega) ?_
      refine r_iconst (v := (nI 1)) dL_isRefused_661 (by decide) ?_
      refine r_callSW (st := []) [.ref (Q 0), .int (nI 6), .int (nI k), .int (nI k), .int (nI (x % 4)), .int (nI 1)] (180 * (A 9 0 - (k + 1)) + 3420) (3600 * (A 9 0 - (k + 1)) + 68400) dL_isRefused_662 kL_act nL_act lRL_88 (R_relate_2a hL hI hk2) rfl rfl (Nat.le_of_ble_eq_true rfl) (by omega) (by omega) (fun _ _ h => h.elim) ?_
      refine cx_det (st2 := [.int (-1662000)]) rfl ?_
      refine r_ldc dL_isRefused_665 con_79 ?_
      refine r_icmp_ne 804 dL_isRefused_667 (by decide) (fun c6 => absurd c6 (fun q => q rfl)) (fun c6 => ?_)
      refine r_aload_n dL_isRefused_670 rfl 10 rfl ?_
      refine r_iconst (v := (nI 1)) dL_isRefused_671 (by decide) ?_
      refine n_iald dL_isRefused_672 hL.r1 (by omega) (by decide) ?_
      refine r_iconst (v := (nI 2)) dL_isRefused_673 (by decide) ?_
      refine n_icmp_lt 739 dL_isRefused_674 (by decide) (by omega) (by omega) (fun c674 => ?_) (fun c674 => ?_)
      · refine r_aload_n dL_isRefused_739 rfl 9 rfl ?_
        obtain ⟨fshq8, hq8⟩ := hL.r0
        refine r_callV (st := []) [] (180 * (A 9 0 - (k + 1)) + 3400) (3600 * (A 9 0 - (k + 1)) + 68000) dL_isRefused_740 kX8_fault nX8_fault lRL_83 hq8 rfl (L_fault hL hI) rfl rfl (Nat.le_of_ble_eq_true rfl) (by omega) (by omega) (fun _ _ h => h.elim) ?_
        intro r G9 hr
        obtain ⟨rfl, hL10⟩ := hr
        show WP mL_isRefused _ _ _ _ _ _ _ 743 [(14, .int (nI k)), (13, .int (nI 1)), (11, .long (alA A)), (10, .int ((-1) - (nI (x % 30)))), (9, .int ((-1) - (nI (x % 30)))), (8, .int ((-1) - (nI (x % 30)))), (7, .int ((-1) - (nI (x % 30)))), (6, .int ((-1) - (nI (x % 30)))), (5, .int (nI 1)), (0, .ref (Q 0)), (1, .ref (Q 1)), (2, .ref (Q 2)), (3, .ref (Q 3)), (4, .int (nI x))] [.int (ffS (rg A 1 0 60) (A 0 0))]
        refine r_iconst (v := (-1)) dL_isRefused_743 (by decide) ?_
        refine r_icmp_eq 765 dL_isRefused_744 (by decide) (fun c744 => ?_) (fun c744 => ?_)
        · refine r_aload_n dL_isRefused_765 rfl 11 rfl ?_
          refine r_bipush (v := (nI 7)) dL_isRefused_766 (by decide) ?_
          refine r_iload dL_isRefused_768 0 rfl ?_
          refine n_imul dL_isRefused_770 ?_
          refine r_iconst (v := (nI 1)) dL_isRefused_771 (by decide) ?_
          refine n_iadd dL_isRefused_772 ?_
          refine r_iload dL_isRefused_773 13 rfl ?_
          refine r_iconst (v := (nI 3)) dL_isRefused_775 (by decide) ?_
          refine n_irem dL_isRefused_776 (by omega) (by omega) (by omega) ?_
          refine n_iadd dL_isRefused_777 ?_
          refine n_iald dL_isRefused_778 hL10.r2 (by omega) (by decide) ?_
          refine n_if_gt 800 dL_isRefused_779 (by decide) (by omega) (fun c779 => ?_) (fun c779 => ?_)
          · refine r_iconst (v := (nI 1)) dL_isRefused_800 (by decide) ?_
            refine r_goto 805 dL_isRefused_801 (by decide) ?_
            refine r_istore [(13, .int (nI 1)), (14, .int (nI k)), (11, .long (alA A)), (10, .int ((-1) - (nI (x % 30)))), (9, .int ((-1) - (nI (x % 30)))), (8, .int ((-1) - (nI (x % 30)))), (7, .int ((-1) - (nI (x % 30)))), (6, .int ((-1) - (nI (x % 30)))), (5, .int (nI 1)), (0, .ref (Q 0)), (1, .ref (Q 1)), (2, .ref (Q 2)), (3, .ref (Q 3)), (4, .int (nI x))] dL_isRefused_805 (by decide) rfl ?_
            refine r_iinc (nI (k + 1)) [(14, .int (nI (k + 1))), (13, .int (nI 1)), (11, .long (alA A)), (10, .int ((-1) - (nI (x % 30)))), (9, .int ((-1) - (nI (x % 30)))), (8, .int ((-1) - (nI (x % 30)))), (7, .int ((-1) - (nI (x % 30)))), (6, .int ((-1) - (nI (x % 30)))), (5, .int (nI 1)), (0, .ref (Q 0)), (1, .ref (Q 1)), (2, .ref (Q 2)), (3, .ref (Q 3)), (4, .int (nI x))] dL_isRefused_807 1 rfl (nI_add k 1) (by decide) rfl ?_
            refine r_goto 586 dL_isRefused_810 (by decide) ?_
            exact WP.loc [0, 1, 2, 3, 4, 5, 6, 7, 8, 9, 10, 11, 12, 13] rfl (WP.bud (by omega) (by omega) (ih (k + 1) _ ⟨hL10, by omega⟩ (by omega)))
          · refine r_aload_n dL_isRefused_782 rfl 9 rfl ?_
            refine r_iconst (v := (nI 5)) dL_isRefused_783 (by decide) ?_
            refine r_iload dL_isRefused_784 0 rfl ?_
            refine r_iload dL_isRefused_786 13 rfl ?_
            refine r_iconst (v := (nI 3)) dL_isRefused_788 (by decide) ?_
            refine n_irem dL_isRefused_789 (by omega) (by omega) (by omega) ?_
            refine r_iconst (v := (nI 0)) dL_isRefused_790 (by decide) ?_
            refine r_iconst (v := (nI 0)) dL_isRefused_791 (by decide) ?_
            refine r_callSW (st := []) [.ref (Q 0), .int (nI 5), .int (nI k), .int (nI (x % 3)), .int (nI 0), .int (nI 0)] (180 * (A 9 0 - (k + 1)) + 3380) (3600 * (A 9 0 - (k + 1)) + 67600) dL_isRefused_792 kL_act nL_act lRL_88 (R_approve_2 hL10 hI hk2 hx3 (by omega)) rfl rfl (Nat.le_of_ble_eq_true rfl) (by omega) (by omega) (fun _ _ h => h.elim) ?_
            refine cx_det (st2 := [.int (-1663000)]) rfl ?_
            refine r_ldc dL_isRefused_795 con_82 ?_
            refine r_icmp_ne 804 dL_isRefused_797 (by decide) (fun c13 => absurd c13 (fun q => q rfl)) (fun c13 => ?_)
            refine r_iconst (v := (nI 1)) dL_isRefused_800 (by decide) ?_
            refine r_goto 805 dL_isRefused_801 (by decide) ?_
            refine r_istore [(13, .int (nI 1)), (14, .int (nI k)), (11, .long (alA A)), (10, .int ((-1) - (nI (x % 30)))), (9, .int ((-1) - (nI (x % 30)))), (8, .int ((-1) - (nI (x % 30)))), (7, .int ((-1) - (nI (x % 30)))), (6, .int ((-1) - (nI (x % 30)))), (5, .int (nI 1)), (0, .ref (Q 0)), (1, .ref (Q 1)), (2, .ref (Q 2)), (3, .ref (Q 3)), (4, .int (nI x))] dL_isRefused_805 (by decide) rfl ?_
            refine r_iinc (nI (k + 1)) [(14, .int (nI (k + 1))), (13, .int (nI 1)), (11, .long (alA A)), (10, .int ((-1) - (nI (x % 30)))), (9, .int ((-1) - (nI (x % 30)))), (8, .int ((-1) - (nI (x % 30)))), (7, .int ((-1) - (nI (x % 30)))), (6, .int ((-1) - (nI (x % 30)))), (5, .int (nI 1)), (0, .ref (Q 0)), (1, .ref (Q 1)), (2, .ref (Q 2)), (3, .ref (Q 3)), (4, .int (nI x))] dL_isRefused_807 1 rfl (nI_add k 1) (by decide) rfl ?_
            refine r_goto 586 dL_isRefused_810 (by decide) ?_
            exact WP.loc [0, 1, 2, 3, 4, 5, 6, 7, 8, 9, 10, 11, 12, 13] rfl (WP.bud (by omega) (by omega) (ih (k + 1) _ ⟨hL10, by omega⟩ (by omega)))
        · refine r_aload_n dL_isRefused_747 rfl 9 rfl ?_
          refine r_iconst (v := (nI 4)) dL_isRefused_748 (by decide) ?_
          refine r_iload dL_isRefused_749 0 rfl ?_
          refine r_iload dL_isRefused_751 13 rfl ?_
          refine r_iconst (v := (nI 3)) dL_isRefused_753 (by decide) ?_
          refine n_irem dL_isRefused_754 (by omega) (by omega) (by omega) ?_
          refine r_iconst (v := (nI 0)) dL_isRefused_755 (by decide) ?_
          refine r_iconst (v := (nI 0)) dL_isRefused_756 (by decide) ?_
          refine r_callSW (st := []) [.ref (Q 0), .int (nI 4), .int (nI k), .int (nI (x % 3)), .int (nI 0), .int (nI 0)] (180 * (A 9 0 - (k + 1)) + 3380) (3600 * (A 9 0 - (k + 1)) + 67600) dL_isRefused_757 kL_act nL_act lRL_88 (R_text_2 hL10 hI hk2 hx3 c744) rfl rfl (Nat.le_of_ble_eq_true rfl) (by omega) (by omega) (fun _ _ h => h.elim) ?_
          refine cx_det (st2 := [.int (-1663000)]) rfl ?_
          refine r_ldc dL_isRefused_760 con_82 ?_
          refine r_icmp_ne 804 dL_isRefused_762 (by decide) (fun c14 => absurd c14 (fun q => q rfl)) (fun c14 => ?_)
          refine r_aload_n dL_isRefused_765 rfl 11 rfl ?_
          refine r_bipush (v := (nI 7)) dL_isRefused_766 (by decide) ?_
          refine r_iload dL_isRefused_768 0 rfl ?_
          refine n_imul dL_isRefused_770 ?_
          refine r_iconst (v := (nI 1)) dL_isRefused_771 (by decide) ?_
          refine n_iadd dL_isRefused_772 ?_
          refine r_iload dL_isRefused_773 13 rfl ?_
          refine r_iconst (v := (nI 3)) dL_isRefused_775 (by decide) ?_
          refine n_irem dL_isRefused_776 (by omega) (by omega) (by omega) ?_
          refine n_iadd dL_isRefused_777 ?_
          refine n_iald dL_isRefused_778 hL10.r2 (by omega) (by decide) ?_
          refine n_if_gt 800 dL_isRefused_779 (by decide) (by omega) (fun c779 => ?_) (fun c779 => ?_)
          · refine r_iconst (v := (nI 1)) dL_isRefused_800 (by decide) ?_
            refine r_goto 805 dL_isRefused_801 (by decide) ?_
            refine r_istore [(13, .int (nI 1)), (14, .int (nI k)), (11, .long (alA A)), (10, .int ((-1) - (nI (x % 30)))), (9, .int ((-1) - (nI (x % 30)))), (8, .int ((-1) - (nI (x % 30)))), (7, .int ((-1) - (nI (x % 30)))), (6, .int ((-1) - (nI (x % 30)))), (5, .int (nI 1)), (0, .ref (Q 0)), (1, .ref (Q 1)), (2, .ref (Q 2)), (3, .ref (Q 3)), (4, .int (nI x))] dL_isRefused_805 (by decide) rfl ?_
            refine r_iinc (nI (k + 1)) [(14, .int (nI (k + 1))), (13, .int (nI 1)), (11, .long (alA A)), (10, .int ((-1) - (nI (x % 30)))), (9, .int ((-1) - (nI (x % 30)))), (8, .int ((-1) - (nI (x % 30)))), (7, .int ((-1) - (nI (x % 30)))), (6, .int ((-1) - (nI (x % 30)))), (5, .int (nI 1)), (0, .ref (Q 0)), (1, .ref (Q 1)), (2, .ref (Q 2)), (3, .ref (Q 3)), (4, .int (nI x))] dL_isRefused_807 1 rfl (nI_add k 1) (by decide) rfl ?_
            refine r_goto 586 dL_isRefused_810 (by decide) ?_
            exact WP.loc [0, 1, 2, 3, 4, 5, 6, 7, 8, 9, 10, 11, 12, 13] rfl (WP.bud (by omega) (by omega) (ih (k + 1) _ ⟨hL10, by omega⟩ (by omega)))
          · refine r_aload_n dL_isRefused_782 rfl 9 rfl ?_
            refine r_iconst (v := (nI 5)) dL_isRefused_783 (by decide) ?_
            refine r_iload dL_isRefused_784 0 rfl ?_
            refine r_iload dL_isRefused_786 13 rfl ?_
            refine r_iconst (v := (nI 3)) dL_isRefused_788 (by decide) ?_
            refine n_irem dL_isRefused_789 (by omega) (by omega) (by omega) ?_
            refine r_iconst (v := (nI 0)) dL_isRefused_790 (by decide) ?_
            refine r_iconst (v := (nI 0)) dL_isRefused_791 (by decide) ?_
            refine r_callSW (st := []) [.ref (Q 0), .int (nI 5), .int (nI k), .int (nI (x % 3)), .int (nI 0), .int (nI 0)] (180 * (A 9 0 - (k + 1)) + 3360) (3600 * (A 9 0 - (k + 1)) + 67200) dL_isRefused_792 kL_act nL_act lRL_88 (R_approve_2 hL10 hI hk2 hx3 (by omega)) rfl rfl (Nat.le_of_ble_eq_true rfl) (by omega) (by omega) (fun _ _ h => h.elim) ?_
            refine cx_det (st2 := [.int (-1663000)]) rfl ?_
            refine r_ldc dL_isRefused_795 con_82 ?_
            refine r_icmp_ne 804 dL_isRefused_797 (by decide) (fun c16 => absurd c16 (fun q => q rfl)) (fun c16 => ?_)
            refine r_iconst (v := (nI 1)) dL_isRefused_800 (by decide) ?_
            refine r_goto 805 dL_isRefused_801 (by decide) ?_
            refine r_istore [(13, .int (nI 1)), (14, .int (nI k)), (11, .long (alA A)), (10, .int ((-1) - (nI (x % 30)))), (9, .int ((-1) - (nI (x % 30)))), (8, .int ((-1) - (nI (x % 30)))), (7, .int ((-1) - (nI (x % 30)))), (6, .int ((-1) - (nI (x % 30)))), (5, .int (nI 1)), (0, .ref (Q 0)), (1, .ref (Q 1)), (2, .ref (Q 2)), (3, .ref (Q 3)), (4, .int (nI x))] dL_isRefused_805 (by decide) rfl ?_
            refine r_iinc (nI (k + 1)) [(14, .int (nI (k + 1))), (13, .int (nI 1)), (11, .long (alA A)), (10, .int ((-1) - (nI (x % 30)))), (9, .int ((-1) - (nI (x % 30)))), (8, .int ((-1) - (nI (x % 30)))), (7, .int ((-1) - (nI (x % 30)))), (6, .int ((-1) - (nI (x % 30)))), (5, .int (nI 1)), (0, .ref (Q 0)), (1, .ref (Q 1)), (2, .ref (Q 2)), (3, .ref (Q 3)), (4, .int (nI x))] dL_isRefused_807 1 rfl (nI_add k 1) (by decide) rfl ?_
            refine r_goto 586 dL_isRefused_810 (by decide) ?_
            exact WP.loc [0, 1, 2, 3, 4, 5, 6, 7, 8, 9, 10, 11, 12, 13] rfl (WP.bud (by omega) (by omega) (ih (k + 1) _ ⟨hL10, by omega⟩ (by omega)))
      · have ho : (k + 1) % B 1 1 < A 9 0 := by rw [← hm1]; exact Nat.mod_lt _ (by omega)
        have hne : k ≠ (k + 1) % B 1 1 := by
          by_cases q : k + 1 < B 1 1
          · rw [Nat.mod_eq_of_lt q]; omega
          · rw [show k + 1 = B 1 1 by omega, Nat.mod_self]; omega
        refine r_aload_n dL_isRefused_677 rfl 9 rfl ?_
        refine r_bipush (v := (nI 6)) dL_isRefused_678 (by decide) ?_
        refine r_iload dL_isRefused_680 0 rfl ?_
        refine r_iload dL_isRefused_682 0 rfl ?_
        refine r_iconst (v := (nI 1)) dL_isRefused_684 (by decide) ?_
        refine n_iadd dL_isRefused_685 ?_
        refine r_aload_n dL_isRefused_686 rfl 10 rfl ?_
        refine r_iconst (v := (nI 1)) dL_isRefused_687 (by decide) ?_
        refine n_iald dL_isRefused_688 hL.r1 (by omega) (by decide) ?_
        refine n_irem dL_isRefused_689 (by omega) (by omega) (by omega) ?_
        refine r_iload dL_isRefused_690 8 rfl ?_
        refine n_if_eq 699 dL_isRefused_692 (by decide) (by omega) (fun c17 => absurd c17 (by decide)) (fun c17 => ?_)
        refine r_iconst (v := (-1)) dL_isRefused_695 (by decide) ?_
        refine r_goto 706 dL_isRefused_696 (by decide) ?_
        refine r_iconst (v := (nI 1)) dL_isRefused_706 (by decide) ?_
        refine r_callSW (st := []) [.ref (Q 0), .int (nI 6), .int (nI k), .int (nI ((k + 1) % (B 1 1))), .int (-1), .int (nI 1)] (180 * (A 9 0 - (k + 1)) + 3400) (3600 * (A 9 0 - (k + 1)) + 68000) dL_isRefused_707 kL_act nL_act lRL_88 (R_relate_2b hL hI hk2 ho hne (inB_neg (by decide))) rfl rfl (Nat.le_of_ble_eq_true rfl) (by omega) (by omega) (fun _ _ h => h.elim) ?_
        refine cx_det (st2 := [.int (-1662000)]) rfl ?_
        refine r_ldc dL_isRefused_710 con_79 ?_
        refine r_icmp_ne 804 dL_isRefused_712 (by decide) (fun c18 => absurd c18 (fun q => q rfl)) (fun c18 => ?_)
        refine r_aload_n dL_isRefused_715 rfl 9 rfl ?_
        refine r_bipush (v := (nI 6)) dL_isRefused_716 (by decide) ?_
        refine r_iload dL_isRefused_718 0 rfl ?_
        refine r_iload dL_isRefused_720 0 rfl ?_
        refine r_iconst (v := (nI 1)) dL_isRefused_722 (by decide) ?_
        refine n_iadd dL_isRefused_723 ?_
        refine r_aload_n dL_isRefused_724 rfl 10 rfl ?_
        refine r_iconst (v := (nI 1)) dL_isRefused_725 (by decide) ?_
        refine n_iald dL_isRefused_726 hL.r1 (by omega) (by decide) ?_
        refine n_irem dL_isRefused_727 (by omega) (by omega) (by omega) ?_
        refine r_iconst (v := (nI 0)) dL_isRefused_728 (by decide) ?_
        refine r_iload dL_isRefused_729 7 rfl ?_
        refine r_callSW (st := []) [.ref (Q 0), .int (nI 6), .int (nI k), .int (nI ((k + 1) % (B 1 1))), .int (nI 0), .int ((-1) - (nI (x % 30)))] (180 * (A 9 0 - (k + 1)) + 3380) (3600 * (A 9 0 - (k + 1)) + 67600) dL_isRefused_731 kL_act nL_act lRL_88 (R_relate_2c hL hI hk2 ho hne (k := 0) (by decide) hlo1) rfl rfl (Nat.le_of_ble_eq_true rfl) (by omega) (by omega) (fun _ _ h => h.elim) ?_
        refine cx_det (st2 := [.int (-1662000)]) rfl ?_
        refine r_ldc dL_isRefused_734 con_79 ?_
        refine r_icmp_ne 804 dL_isRefused_736 (by decide) (fun c19 => absurd c19 (fun q => q rfl)) (fun c19 => ?_)
        refine r_aload_n dL_isRefused_739 rfl 9 rfl ?_
        obtain ⟨fshq20, hq20⟩ := hL.r0
        refine r_callV (st := []) [] (180 * (A 9 0 - (k + 1)) + 3360) (3600 * (A 9 0 - (k + 1)) + 67200) dL_isRefused_740 kX8_fault nX8_fault lRL_83 hq20 rfl (L_fault hL hI) rfl rfl (Nat.le_of_ble_eq_true rfl) (by omega) (by omega) (fun _ _ h => h.elim) ?_
        intro r G21 hr
        obtain ⟨rfl, hL22⟩ := hr
        show WP mL_isRefused _ _ _ _ _ _ _ 743 [(14, .int (nI k)), (13, .int (nI 1)), (11, .long (alA A)), (10, .int ((-1) - (nI (x % 30)))), (9, .int ((-1) - (nI (x % 30)))), (8, .int ((-1) - (nI (x % 30)))), (7, .int ((-1) - (nI (x % 30)))), (6, .int ((-1) - (nI (x % 30)))), (5, .int (nI 1)), (0, .ref (Q 0)), (1, .ref (Q 1)), (2, .ref (Q 2)), (3, .ref (Q 3)), (4, .int (nI x))] [.int (ffS (rg A 1 0 60) (A 0 0))]
        refine r_iconst (v := (-1)) dL_isRefused_743 (by decide) ?_
        refine r_icmp_eq 765 dL_isRefused_744 (by decide) (fun c744 => ?_) (fun c744 => ?_)
        · refine r_aload_n dL_isRefused_765 rfl 11 rfl ?_
          refine r_bipush (v := (nI 7)) dL_isRefused_766 (by decide) ?_
          refine r_iload dL_isRefused_768 0 rfl ?_
          refine n_imul dL_isRefused_770 ?_
          refine r_iconst (v := (nI 1)) dL_isRefused_771 (by decide) ?_
          refine n_iadd dL_isRefused_772 ?_
          refine r_iload dL_isRefused_773 13 rfl ?_
          refine r_iconst (v := (nI 3)) dL_isRefused_775 (by decide) ?_
          refine n_irem dL_isRefused_776 (by omega) (by omega) (by omega) ?_
          refine n_iadd dL_isRefused_777 ?_
          refine n_iald dL_isRefused_778 hL22.r2 (by omega) (by decide) ?_
          refine n_if_gt 800 dL_isRefused_779 (by decide) (by omega) (fun c779 => ?_) (fun c779 => ?_)
          · refine r_iconst (v := (nI 1)) dL_isRefused_800 (by decide) ?_
            refine r_goto 805 dL_isRefused_801 (by decide) ?_
            refine r_istore [(13, .int (nI 1)), (14, .int (nI k)), (11, .long (alA A)), (10, .int ((-1) - (nI (x % 30)))), (9, .int ((-1) - (nI (x % 30)))), (8, .int ((-1) - (nI (x % 30)))), (7, .int ((-1) - (nI (x % 30)))), (6, .int ((-1) - (nI (x % 30)))), (5, .int (nI 1)), (0, .ref (Q 0)), (1, .ref (Q 1)), (2, .ref (Q 2)), (3, .ref (Q 3)), (4, .int (nI x))] dL_isRefused_805 (by decide) rfl ?_
            refine r_iinc (nI (k + 1)) [(14, .int (nI (k + 1))), (13, .int (nI 1)), (11, .long (alA A)), (10, .int ((-1) - (nI (x % 30)))), (9, .int ((-1) - (nI (x % 30)))), (8, .int ((-1) - (nI (x % 30)))), (7, .int ((-1) - (nI (x % 30)))), (6, .int ((-1) - (nI (x % 30)))), (5, .int (nI 1)), (0, .ref (Q 0)), (1, .ref (Q 1)), (2, .ref (Q 2)), (3, .ref (Q 3)), (4, .int (nI x))] dL_isRefused_807 1 rfl (nI_add k 1) (by decide) rfl ?_
            refine r_goto 586 dL_isRefused_810 (by decide) ?_
            exact WP.loc [0, 1, 2, 3, 4, 5, 6, 7, 8, 9, 10, 11, 12, 13] rfl (WP.bud (by omega) (by omega) (ih (k + 1) _ ⟨hL22, by omega⟩ (by omega)))
          · refine r_aload_n dL_isRefused_782 rfl 9 rfl ?_
            refine r_iconst (v := (nI 5)) dL_isRefused_783 (by decide) ?_
            refine r_iload dL_isRefused_784 0 rfl ?_
            refine r_iload dL_isRefused_786 13 rfl ?_
            refine r_iconst (v := (nI 3)) dL_isRefused_788 (by decide) ?_
            refine n_irem dL_isRefused_789 (by omega) (by omega) (by omega) ?_
            refine r_iconst (v := (nI 0)) dL_isRefused_790 (by decide) ?_
            refine r_iconst (v := (nI 0)) dL_isRefused_791 (by decide) ?_
            refine r_callSW (st := []) [.ref (Q 0), .int (nI 5), .int (nI k), .int (nI (x % 3)), .int (nI 0), .int (nI 0)] (180 * (A 9 0 - (k + 1)) + 3340) (3600 * (A 9 0 - (k + 1)) + 66800) dL_isRefused_792 kL_act nL_act lRL_88 (R_approve_2 hL22 hI hk2 hx3 (by omega)) rfl rfl (Nat.le_of_ble_eq_true rfl) (by omega) (by omega) (fun _ _ h => h.elim) ?_
            refine cx_det (st2 := [.int (-1663000)]) rfl ?_
            refine r_ldc dL_isRefused_795 con_82 ?_
            refine r_icmp_ne 804 dL_isRefused_797 (by decide) (fun c25 => absurd c25 (fun q => q rfl)) (fun c25 => ?_)
            refine r_iconst (v := (nI 1)) dL_isRefused_800 (by decide) ?_
            refine r_goto 805 dL_isRefused_801 (by decide) ?_
            refine r_istore [(13, .int (nI 1)), (14, .int (nI k)), (11, .long (alA A)), (10, .int ((-1) - (nI (x % 30)))), (9, .int ((-1) - (nI (x % 30)))), (8, .int ((-1) - (nI (x % 30)))), (7, .int ((-1) - (nI (x % 30)))), (6, .int ((-1) - (nI (x % 30)))), (5, .int (nI 1)), (0, .ref (Q 0)), (1, .ref (Q 1)), (2, .ref (Q 2)), (3, .ref (Q 3)), (4, .int (nI x))] dL_isRefused_805 (by decide) rfl ?_
            refine r_iinc (nI (k + 1)) [(14, .int (nI (k + 1))), (13, .int (nI 1)), (11, .long (alA A)), (10, .int ((-1) - (nI (x % 30)))), (9, .int ((-1) - (nI (x % 30)))), (8, .int ((-1) - (nI (x % 30)))), (7, .int ((-1) - (nI (x % 30)))), (6, .int ((-1) - (nI (x % 30)))), (5, .int (nI 1)), (0, .ref (Q 0)), (1, .ref (Q 1)), (2, .ref (Q 2)), (3, .ref (Q 3)), (4, .int (nI x))] dL_isRefused_807 1 rfl (nI_add k 1) (by decide) rfl ?_
            refine r_goto 586 dL_isRefused_810 (by decide) ?_
            exact WP.loc [0, 1, 2, 3, 4, 5, 6, 7, 8, 9, 10, 11, 12, 13] rfl (WP.bud (by omega) (by omega) (ih (k + 1) _ ⟨hL22, by omega⟩ (by omega)))
        · refine r_aload_n dL_isRefused_747 rfl 9 rfl ?_
          refine r_iconst (v := (nI 4)) dL_isRefused_748 (by decide) ?_
          refine r_iload dL_isRefused_749 0 rfl ?_
          refine r_iload dL_isRefused_751 13 rfl ?_
          refine r_iconst (v := (nI 3)) dL_isRefused_753 (by decide) ?_
          refine n_irem dL_isRefused_754 (by omega) (by omega) (by omega) ?_
          refine r_iconst (v := (nI 0)) dL_isRefused_755 (by decide) ?_
          refine r_iconst (v := (nI 0)) dL_isRefused_756 (by decide) ?_
          refine r_callSW (st := []) [.ref (Q 0), .int (nI 4), .int (nI k), .int (nI (x % 3)), .int (nI 0), .int (nI 0)] (180 * (A 9 0 - (k + 1)) + 3340) (3600 * (A 9 0 - (k + 1)) + 66800) dL_isRefused_757 kL_act nL_act lRL_88 (R_text_2 hL22 hI hk2 hx3 c744) rfl rfl (Nat.le_of_ble_eq_true rfl) (by omega) (by omega) (fun _ _ h => h.elim) ?_
          refine cx_det (st2 := [.int (-1663000)]) rfl ?_
          refine r_ldc dL_isRefused_760 con_82 ?_
          refine r_icmp_ne 804 dL_isRefused_762 (by decide) (fun c26 => absurd c26 (fun q => q rfl)) (fun c26 => ?_)
          refine r_aload_n dL_isRefused_765 rfl 11 rfl ?_
          refine r_bipush (v := (nI 7)) dL_isRefused_766 (by decide) ?_
          refine r_iload dL_isRefused_768 0 rfl ?_
          refine n_imul dL_isRefused_770 ?_
          refine r_iconst (v := (nI 1)) dL_isRefused_771 (by decide) ?_
          refine n_iadd dL_isRefused_772 ?_
          refine r_iload dL_isRefused_773 13 rfl ?_
          refine r_iconst (v := (nI 3)) dL_isRefused_775 (by decide) ?_
          refine n_irem dL_isRefused_776 (by omega) (by omega) (by omega) ?_
          refine n_iadd dL_isRefused_777 ?_
          refine n_iald dL_isRefused_778 hL22.r2 (by omega) (by decide) ?_
          refine n_if_gt 800 dL_isRefused_779 (by decide) (by omega) (fun c779 => ?_) (fun c779 => ?_)
          · refine r_iconst (v := (nI 1)) dL_isRefused_800 (by decide) ?_
            refine r_goto 805 dL_isRefused_801 (by decide) ?_
            refine r_istore [(13, .int (nI 1)), (14, .int (nI k)), (11, .long (alA A)), (10, .int ((-1) - (nI (x % 30)))), (9, .int ((-1) - (nI (x % 30)))), (8, .int ((-1) - (nI (x % 30)))), (7, .int ((-1) - (nI (x % 30)))), (6, .int ((-1) - (nI (x % 30)))), (5, .int (nI 1)), (0, .ref (Q 0)), (1, .ref (Q 1)), (2, .ref (Q 2)), (3, .ref (Q 3)), (4, .int (nI x))] dL_isRefused_805 (by decide) rfl ?_
            refine r_iinc (nI (k + 1)) [(14, .int (nI (k + 1))), (13, .int (nI 1)), (11, .long (alA A)), (10, .int ((-1) - (nI (x % 30)))), (9, .int ((-1) - (nI (x % 30)))), (8, .int ((-1) - (nI (x % 30)))), (7, .int ((-1) - (nI (x % 30)))), (6, .int ((-1) - (nI (x % 30)))), (5, .int (nI 1)), (0, .ref (Q 0)), (1, .ref (Q 1)), (2, .ref (Q 2)), (3, .ref (Q 3)), (4, .int (nI x))] dL_isRefused_807 1 rfl (nI_add k 1) (by decide) rfl ?_
            refine r_goto 586 dL_isRefused_810 (by decide) ?_
            exact WP.loc [0, 1, 2, 3, 4, 5, 6, 7, 8, 9, 10, 11, 12, 13] rfl (WP.bud (by omega) (by omega) (ih (k + 1) _ ⟨hL22, by omega⟩ (by omega)))
          · refine r_aload_n dL_isRefused_782 rfl 9 rfl ?_
            refine r_iconst (v := (nI 5)) dL_isRefused_783 (by decide) ?_
            refine r_iload dL_isRefused_784 0 rfl ?_
            refine r_iload dL_isRefused_786 13 rfl ?_
            refine r_iconst (v := (nI 3)) dL_isRefused_788 (by decide) ?_
            refine n_irem dL_isRefused_789 (by omega) (by omega) (by omega) ?_
            refine r_iconst (v := (nI 0)) dL_isRefused_790 (by decide) ?_
            refine r_iconst (v := (nI 0)) dL_isRefused_791 (by decide) ?_
            refine r_callSW (st := []) [.ref (Q 0), .int (nI 5), .int (nI k), .int (nI (x % 3)), .int (nI 0), .int (nI 0)] (180 * (A 9 0 - (k + 1)) + 3320) (3600 * (A 9 0 - (k + 1)) + 66400) dL_isRefused_792 kL_act nL_act lRL_88 (R_approve_2 hL22 hI hk2 hx3 (by omega)) rfl rfl (Nat.le_of_ble_eq_true rfl) (by omega) (by omega) (fun _ _ h => h.elim) ?_
            refine cx_det (st2 := [.int (-1663000)]) rfl ?_
            refine r_ldc dL_isRefused_795 con_82 ?_
            refine r_icmp_ne 804 dL_isRefused_797 (by decide) (fun c28 => absurd c28 (fun q => q rfl)) (fun c28 => ?_)
            refine r_iconst (v := (nI 1)) dL_isRefused_800 (by decide) ?_
            refine r_goto 805 dL_isRefused_801 (by decide) ?_
            refine r_istore [(13, .int (nI 1)), (14, .int (nI k)), (11, .long (alA A)), (10, .int ((-1) - (nI (x % 30)))), (9, .int ((-1) - (nI (x % 30)))), (8, .int ((-1) - (nI (x % 30)))), (7, .int ((-1) - (nI (x % 30)))), (6, .int ((-1) - (nI (x % 30)))), (5, .int (nI 1)), (0, .ref (Q 0)), (1, .ref (Q 1)), (2, .ref (Q 2)), (3, .ref (Q 3)), (4, .int (nI x))] dL_isRefused_805 (by decide) rfl ?_
            refine r_iinc (nI (k + 1)) [(14, .int (nI (k + 1))), (13, .int (nI 1)), (11, .long (alA A)), (10, .int ((-1) - (nI (x % 30)))), (9, .int ((-1) - (nI (x % 30)))), (8, .int ((-1) - (nI (x % 30)))), (7, .int ((-1) - (nI (x % 30)))), (6, .int ((-1) - (nI (x % 30)))), (5, .int (nI 1)), (0, .ref (Q 0)), (1, .ref (Q 1)), (2, .ref (Q 2)), (3, .ref (Q 3)), (4, .int (nI x))] dL_isRefused_807 1 rfl (nI_add k 1) (by decide) rfl ?_
            refine r_goto 586 dL_isRefused_810 (by decide) ?_
            exact WP.loc [0, 1, 2, 3, 4, 5, 6, 7, 8, 9, 10, 11, 12, 13] rfl (WP.bud (by omega) (by omega) (ih (k + 1) _ ⟨hL22, by omega⟩ (by omega)))
set_option maxRecDepth 100000 in
set_option maxHeartbeats 4000000 in
theorem l_rf_lo {d b0 : Nat} {G : GH} {Q : Nat → Nat} {A B : ST} (hL : LW Q A B G) (hI : Inv A) (hR : Rl A B) {x : Nat} (hx : x < 2 ^ 31) : WP mL_isRefused (d + 11) b0 (fun r G' => r = some (.int (nI 1)) ∧ LW Q A B G') NoX G 7600 152000 14 [(5, .int (nI 1)), (0, .ref (Q 0)), (1, .ref (Q 1)), (2, .ref (Q 2)), (3, .ref (Q 3)), (4, .int (nI x))] [] := by
  have hm0 := hR.m0
  have hm1 := hR.m1
  have hm2 := hR.m2
  have hm3 := hR.m3
  have hm4 := hR.m4
  have hn9 := hR.n9
  have hb0 := hI.b0
  have hb2 := hI.b2
  have hb15 := hI.b15
  have hb18 := hI.b18
  have hlo := lo_r (Nat.mod_lt x (show 0 < 30 by decide))
  obtain ⟨hlo1, hlo2, hlo3⟩ := hlo
  have hx3 : x % 3 < 3 := Nat.mod_lt _ (by decide)
  refine r_iload dL_isRefused_14 0 rfl ?_
  refine n_if_eq 29 dL_isRefused_16 (by decide) (by omega) (fun c1 => absurd c1 (by decide)) (fun c1 => ?_)
  refine r_iconst (v := (-1)) dL_isRefused_19 (by decide) ?_
  refine r_iload dL_isRefused_20 5 rfl ?_
  refine r_bipush (v := (nI 30)) dL_isRefused_22 (by decide) ?_
  refine n_irem dL_isRefused_24 (by omega) (by omega) (by omega) ?_
  refine r_isub dL_isRefused_25 ?_
  refine r_goto 36 dL_isRefused_26 (by decide) ?_
  refine r_istore [(6, .int ((-1) - (nI (x % 30)))), (5, .int (nI 1)), (0, .ref (Q 0)), (1, .ref (Q 1)), (2, .ref (Q 2)), (3, .ref (Q 3)), (4, .int (nI x))] dL_isRefused_36 (by decide) rfl ?_
  refine r_iload dL_isRefused_38 1 rfl ?_
  refine n_if_eq 53 dL_isRefused_40 (by decide) (by omega) (fun c2 => absurd c2 (by decide)) (fun c2 => ?_)
  refine r_iconst (v := (-1)) dL_isRefused_43 (by decide) ?_
  refine r_iload dL_isRefused_44 6 rfl ?_
  refine r_bipush (v := (nI 30)) dL_isRefused_46 (by decide) ?_
  refine n_irem dL_isRefused_48 (by omega) (by omega) (by omega) ?_
  refine r_isub dL_isRefused_49 ?_
  refine r_goto 62 dL_isRefused_50 (by decide) ?_
  refine r_istore [(7, .int ((-1) - (nI (x % 30)))), (6, .int ((-1) - (nI (x % 30)))), (5, .int (nI 1)), (0, .ref (Q 0)), (1, .ref (Q 1)), (2, .ref (Q 2)), (3, .ref (Q 3)), (4, .int (nI x))] dL_isRefused_62 (by decide) rfl ?_
  refine r_iload dL_isRefused_64 2 rfl ?_
  refine n_if_eq 79 dL_isRefused_66 (by decide) (by omega) (fun c3 => absurd c3 (by decide)) (fun c3 => ?_)
  refine r_iconst (v := (-1)) dL_isRefused_69 (by decide) ?_
  refine r_iload dL_isRefused_70 7 rfl ?_
  refine r_bipush (v := (nI 30)) dL_isRefused_72 (by decide) ?_
  refine n_irem dL_isRefused_74 (by omega) (by omega) (by omega) ?_
  refine r_isub dL_isRefused_75 ?_
  refine r_goto 88 dL_isRefused_76 (by decide) ?_
  refine r_istore [(8, .int ((-1) - (nI (x % 30)))), (7, .int ((-1) - (nI (x % 30)))), (6, .int ((-1) - (nI (x % 30)))), (5, .int (nI 1)), (0, .ref (Q 0)), (1, .ref (Q 1)), (2, .ref (Q 2)), (3, .ref (Q 3)), (4, .int (nI x))] dL_isRefused_88 (by decide) rfl ?_
  refine r_iload dL_isRefused_90 3 rfl ?_
  refine n_if_eq 105 dL_isRefused_92 (by decide) (by omega) (fun c4 => absurd c4 (by decide)) (fun c4 => ?_)
  refine r_iconst (v := (-1)) dL_isRefused_95 (by decide) ?_
  refine r_iload dL_isRefused_96 8 rfl ?_
  refine r_bipush (v := (nI 30)) dL_isRefused_98 (by decide) ?_
  refine n_irem dL_isRefused_100 (by omega) (by omega) (by omega) ?_
  refine r_isub dL_isRefused_101 ?_
  refine r_goto 114 dL_isRefused_102 (by decide) ?_
  refine r_istore [(9, .int ((-1) - (nI (x % 30)))), (8, .int ((-1) - (nI (x % 30)))), (7, .int ((-1) - (nI (x % 30)))), (6, .int ((-1) - (nI (x % 30)))), (5, .int (nI 1)), (0, .ref (Q 0)), (1, .ref (Q 1)), (2, .ref (Q 2)), (3, .ref (Q 3)), (4, .int (nI x))] dL_isRefused_114 (by decide) rfl ?_
  refine r_iload dL_isRefused_116 4 rfl ?_
  refine n_if_eq 131 dL_isRefused_118 (by decide) (by omega) (fun c5 => absurd c5 (by decide)) (fun c5 => ?_)
  refine r_iconst (v := (-1)) dL_isRefused_121 (by decide) ?_
  refine r_iload dL_isRefused_122 9 rfl ?_
  refine r_bipush (v := (nI 30)) dL_isRefused_124 (by decide) ?_
  refine n_irem dL_isRefused_126 (by omega) (by omega) (by omega) ?_
  refine r_isub dL_isRefused_127 ?_
  refine r_goto 140 dL_isRefused_128 (by decide) ?_
  refine r_istore [(10, .int ((-1) - (nI (x % 30)))), (9, .int ((-1) - (nI (x % 30)))), (8, .int ((-1) - (nI (x % 30)))), (7, .int ((-1) - (nI (x % 30)))), (6, .int ((-1) - (nI (x % 30)))), (5, .int (nI 1)), (0, .ref (Q 0)), (1, .ref (Q 1)), (2, .ref (Q 2)), (3, .ref (Q 3)), (4, .int (nI x))] dL_isRefused_140 (by decide) rfl ?_
  refine r_aload_n dL_isRefused_142 rfl 6 rfl ?_
  refine r_aload_n dL_isRefused_143 rfl 7 rfl ?_
  refine r_callS (st := []) [.ref (Q 0), .ref (Q 1)] 5400 108000 dL_isRefused_144 kL_all nL_all lRL_96 (l_all hL hI hR) rfl rfl (Nat.le_of_ble_eq_true rfl) (by omega) (by omega) (fun _ _ h => h.elim) ?_
  intro r G6 hr
  obtain ⟨rfl, hL7⟩ := hr
  show WP mL_isRefused _ _ _ _ _ _ _ 147 [(10, .int ((-1) - (nI (x % 30)))), (9, .int ((-1) - (nI (x % 30)))), (8, .int ((-1) - (nI (x % 30)))), (7, .int ((-1) - (nI (x % 30)))), (6, .int ((-1) - (nI (x % 30)))), (5, .int (nI 1)), (0, .ref (Q 0)), (1, .ref (Q 1)), (2, .ref (Q 2)), (3, .ref (Q 3)), (4, .int (nI x))] [.long (alA A)]
  refine r_lstore [(11, .long (alA A)), (10, .int ((-1) - (nI (x % 30)))), (9, .int ((-1) - (nI (x % 30)))), (8, .int ((-1) - (nI (x % 30)))), (7, .int ((-1) - (nI (x % 30)))), (6, .int ((-1) - (nI (x % 30)))), (5, .int (nI 1)), (0, .ref (Q 0)), (1, .ref (Q 1)), (2, .ref (Q 2)), (3, .ref (Q 3)), (4, .int (nI x))] dL_isRefused_147 (by decide) rfl ?_
  refine r_aload_n dL_isRefused_149 rfl 7 rfl ?_
  refine r_iconst (v := (nI 2)) dL_isRefused_150 (by decide) ?_
  refine r_iload dL_isRefused_151 5 rfl ?_
  refine r_iconst (v := (-1)) dL_isRefused_153 (by decide) ?_
  refine r_bipush (v := (nI 9)) dL_isRefused_154 (by decide) ?_
  refine r_iconst (v := (nI 0)) dL_isRefused_156 (by decide) ?_
  refine r_callSW (st := []) [.ref (Q 0), .int (nI 2), .int ((-1) - (nI (x % 30))), .int (-1), .int (nI 9), .int (nI 0)] 5380 107600 dL_isRefused_157 kL_act nL_act lRL_88 (R_form_1a hL7 hI (inB_neg hlo1)) rfl rfl (Nat.le_of_ble_eq_true rfl) (by omega) (by omega) (fun _ _ h => h.elim) ?_
  refine cx_det (st2 := [.int (-1661000)]) rfl ?_
  refine r_ldc dL_isRefused_160 con_76 ?_
  refine r_icmp_ne 580 dL_isRefused_162 (by decide) (fun c8 => absurd c8 (fun q => q rfl)) (fun c8 => ?_)
  refine r_aload_n dL_isRefused_165 rfl 7 rfl ?_
  refine r_iconst (v := (nI 2)) dL_isRefused_166 (by decide) ?_
  refine r_iconst (v := (nI 0)) dL_isRefused_167 (by decide) ?_
  refine r_iload dL_isRefused_168 6 rfl ?_
  refine n_if_eq 184 dL_isRefused_170 (by decide) (by omega) (fun c9 => absurd c9 (by decide)) (fun c9 => ?_)
  refine r_bipush (v := (-2)) dL_isRefused_173 (by decide) ?_
  refine r_iload dL_isRefused_175 11 rfl ?_
  refine r_bipush (v := (nI 30)) dL_isRefused_177 (by decide) ?_
  refine n_irem dL_isRefused_179 (by omega) (by omega) (by omega) ?_
  refine r_isub dL_isRefused_180 ?_
  refine r_goto 193 dL_isRefused_181 (by decide) ?_
  refine r_bipush (v := (nI 9)) dL_isRefused_193 (by decide) ?_
  refine r_iconst (v := (nI 0)) dL_isRefused_195 (by decide) ?_
  refine r_callSW (st := []) [.ref (Q 0), .int (nI 2), .int (nI 0), .int ((-2) - (nI (x % 30))), .int (nI 9), .int (nI 0)] 5360 107200 dL_isRefused_196 kL_act nL_act lRL_88 (R_form_1b hL7 hI (l := 0) (by decide) hlo3 (inB_neg hlo2)) rfl rfl (Nat.le_of_ble_eq_true rfl) (by omega) (by omega) (fun _ _ h => h.elim) ?_
  refine cx_det (st2 := [.int (-1661000)]) rfl ?_
  refine r_ldc dL_isRefused_199 con_76 ?_
  refine r_icmp_ne 580 dL_isRefused_201 (by decide) (fun c10 => absurd c10 (fun q => q rfl)) (fun c10 => ?_)
  refine r_aload_n dL_isRefused_204 rfl 7 rfl ?_
  refine r_iconst (v := (nI 2)) dL_isRefused_205 (by decide) ?_
  refine r_iload dL_isRefused_206 11 rfl ?_
  refine r_iconst (v := (nI 3)) dL_isRefused_208 (by decide) ?_
  refine n_irem dL_isRefused_209 (by omega) (by omega) (by omega) ?_
  refine r_iconst (v := (-1)) dL_isRefused_210 (by decide) ?_
  refine r_iload dL_isRefused_211 6 rfl ?_
  refine n_if_eq 226 dL_isRefused_213 (by decide) (by omega) (fun c11 => absurd c11 (by decide)) (fun c11 => ?_)
  refine r_iconst (v := (-1)) dL_isRefused_216 (by decide) ?_
  refine r_iload dL_isRefused_217 11 rfl ?_
  refine r_bipush (v := (nI 30)) dL_isRefused_219 (by decide) ?_
  refine n_irem dL_isRefused_221 (by omega) (by omega) (by omega) ?_
  refine r_isub dL_isRefused_222 ?_
  refine r_goto 228 dL_isRefused_223 (by decide) ?_
  refine r_iconst (v := (nI 0)) dL_isRefused_228 (by decide) ?_
  refine r_callSW (st := []) [.ref (Q 0), .int (nI 2), .int (nI (x % 3)), .int (-1), .int ((-1) - (nI (x % 30))), .int (nI 0)] 5340 106800 dL_isRefused_229 kL_act nL_act lRL_88 (R_form_2a hL7 hI hx3 (inB_neg hlo1)) rfl rfl (Nat.le_of_ble_eq_true rfl) (by omega) (by omega) (fun _ _ h => h.elim) ?_
  refine cx_det (st2 := [.int (-1662000)]) rfl ?_
  refine r_ldc dL_isRefused_232 con_79 ?_
  refine r_icmp_ne 580 dL_isRefused_234 (by decide) (fun c12 => absurd c12 (fun q => q rfl)) (fun c12 => ?_)
  refine r_aload_n dL_isRefused_237 rfl 7 rfl ?_
  refine r_iconst (v := (nI 3)) dL_isRefused_238 (by decide) ?_
  refine r_iload dL_isRefused_239 6 rfl ?_
  refine n_if_eq 255 dL_isRefused_241 (by decide) (by omega) (fun c13 => absurd c13 (by decide)) (fun c13 => ?_)
  refine r_bipush (v := (-2)) dL_isRefused_244 (by decide) ?_
  refine r_iload dL_isRefused_246 11 rfl ?_
  refine r_bipush (v := (nI 30)) dL_isRefused_248 (by decide) ?_
  refine n_irem dL_isRefused_250 (by omega) (by omega) (by omega) ?_
  refine r_isub dL_isRefused_251 ?_
  refine r_goto 257 dL_isRefused_252 (by decide) ?_
  refine r_iconst (v := (nI 0)) dL_isRefused_257 (by decide) ?_
  refine r_iconst (v := (nI 0)) dL_isRefused_258 (by decide) ?_
  refine r_iconst (v := (nI 0)) dL_isRefused_259 (by decide) ?_
  refine r_callSW (st := []) [.ref (Q 0), .int (nI 3), .int ((-2) - (nI (x % 30))), .int (nI 0), .int (nI 0), .int (nI 0)] 5320 106400 dL_isRefused_260 kL_act nL_act lRL_88 (R_clause hL7 hI hlo3 (inB_neg hlo2)) rfl rfl (Nat.le_of_ble_eq_true rfl) (by omega) (by omega) (fun _ _ h => h.elim) ?_
  refine cx_det (st2 := [.int (-1662000)]) rfl ?_
  refine r_ldc dL_isRefused_263 con_79 ?_
  refine r_icmp_ne 580 dL_isRefused_265 (by decide) (fun c14 => absurd c14 (fun q => q rfl)) (fun c14 => ?_)
  refine r_aload_n dL_isRefused_268 rfl 7 rfl ?_
  refine r_iconst (v := (nI 4)) dL_isRefused_269 (by decide) ?_
  refine r_iload dL_isRefused_270 3 rfl ?_
  refine r_iconst (v := (nI 0)) dL_isRefused_272 (by decide) ?_
  refine r_iconst (v := (nI 0)) dL_isRefused_273 (by decide) ?_
  refine r_iconst (v := (nI 0)) dL_isRefused_274 (by decide) ?_
  refine r_callSW (st := []) [.ref (Q 0), .int (nI 4), .int ((-1) - (nI (x % 30))), .int (nI 0), .int (nI 0), .int (nI 0)] 5300 106000 dL_isRefused_275 kL_act nL_act lRL_88 (R_text_1 hL7 hI (and_f1 (inB_neg hlo1))) rfl rfl (Nat.le_of_ble_eq_true rfl) (by omega) (by omega) (fun _ _ h => h.elim) ?_
  refine cx_det (st2 := [.int (-1661000)]) rfl ?_
  refine r_ldc dL_isRefused_278 con_76 ?_
  refine r_icmp_ne 580 dL_isRefused_280 (by decide) (fun c15 => absurd c15 (fun q => q rfl)) (fun c15 => ?_)
  refine r_aload_n dL_isRefused_283 rfl 7 rfl ?_
  refine r_iconst (v := (nI 5)) dL_isRefused_284 (by decide) ?_
  refine r_iload dL_isRefused_285 3 rfl ?_
  refine r_iconst (v := (nI 0)) dL_isRefused_287 (by decide) ?_
  refine r_iconst (v := (nI 0)) dL_isRefused_288 (by decide) ?_
  refine r_iconst (v := (nI 0)) dL_isRefused_289 (by decide) ?_
  refine r_callSW (st := []) [.ref (Q 0), .int (nI 5), .int ((-1) - (nI (x % 30))), .int (nI 0), .int (nI 0), .int (nI 0)] 5280 105600 dL_isRefused_290 kL_act nL_act lRL_88 (R_approve_1 hL7 hI (and_f1 (inB_neg hlo1))) rfl rfl (Nat.le_of_ble_eq_true rfl) (by omega) (by omega) (fun _ _ h => h.elim) ?_
  refine cx_det (st2 := [.int (-1661000)]) rfl ?_
  refine r_ldc dL_isRefused_293 con_76 ?_
  refine r_icmp_ne 580 dL_isRefused_295 (by decide) (fun c16 => absurd c16 (fun q => q rfl)) (fun c16 => ?_)
  refine r_aload_n dL_isRefused_298 rfl 7 rfl ?_
  refine r_bipush (v := (nI 6)) dL_isRefused_299 (by decide) ?_
  refine r_iload dL_isRefused_301 3 rfl ?_
  refine r_iload dL_isRefused_303 3 rfl ?_
  refine r_bipush (v := (nI 9)) dL_isRefused_305 (by decide) ?_
  refine r_bipush (v := (nI 9)) dL_isRefused_307 (by decide) ?_
  refine r_callSW (st := []) [.ref (Q 0), .int (nI 6), .int ((-1) - (nI (x % 30))), .int ((-1) - (nI (x % 30))), .int (nI 9), .int (nI 9)] 5260 105200 dL_isRefused_309 kL_act nL_act lRL_88 (R_relate_1a hL7 hI (inB_neg hlo1)) rfl rfl (Nat.le_of_ble_eq_true rfl) (by omega) (by omega) (fun _ _ h => h.elim) ?_
  refine cx_det (st2 := [.int (-1661000)]) rfl ?_
  refine r_ldc dL_isRefused_312 con_76 ?_
  refine r_icmp_ne 580 dL_isRefused_314 (by decide) (fun c17 => absurd c17 (fun q => q rfl)) (fun c17 => ?_)
  refine r_aload_n dL_isRefused_317 rfl 7 rfl ?_
  refine r_bipush (v := (nI 7)) dL_isRefused_318 (by decide) ?_
  refine r_iload dL_isRefused_320 3 rfl ?_
  refine r_iconst (v := (nI 0)) dL_isRefused_322 (by decide) ?_
  refine r_iconst (v := (nI 0)) dL_isRefused_323 (by decide) ?_
  refine r_iconst (v := (nI 0)) dL_isRefused_324 (by decide) ?_
  refine r_callSW (st := []) [.ref (Q 0), .int (nI 7), .int ((-1) - (nI (x % 30))), .int (nI 0), .int (nI 0), .int (nI 0)] 5240 104800 dL_isRefused_325 kL_act nL_act lRL_88 (R_isLinked hL7 hI (inB_neg hlo1)) rfl rfl (Nat.le_of_ble_eq_true rfl) (by omega) (by omega) (fun _ _ h => h.elim) ?_
  refine cx_det (st2 := [.int (-1661000)]) rfl ?_
  refine r_ldc dL_isRefused_328 con_76 ?_
  refine r_icmp_ne 580 dL_isRefused_330 (by decide) (fun c18 => absurd c18 (fun q => q rfl)) (fun c18 => ?_)
  refine r_aload_n dL_isRefused_333 rfl 7 rfl ?_
  refine r_bipush (v := (nI 9)) dL_isRefused_334 (by decide) ?_
  refine r_iload dL_isRefused_336 2 rfl ?_
  refine r_iconst (v := (nI 0)) dL_isRefused_338 (by decide) ?_
  refine r_iconst (v := (nI 0)) dL_isRefused_339 (by decide) ?_
  refine r_iconst (v := (nI 0)) dL_isRefused_340 (by decide) ?_
  refine r_callSW (st := []) [.ref (Q 0), .int (nI 9), .int ((-1) - (nI (x % 30))), .int (nI 0), .int (nI 0), .int (nI 0)] 5220 104400 dL_isRefused_341 kL_act nL_act lRL_88 (R_put_1a hL7 hI (inB_neg hlo1)) rfl rfl (Nat.le_of_ble_eq_true rfl) (by omega) (by omega) (fun _ _ h => h.elim) ?_
  refine cx_det (st2 := [.int (-1661000)]) rfl ?_
  refine r_ldc dL_isRefused_344 con_76 ?_
  refine r_icmp_ne 580 dL_isRefused_346 (by decide) (fun c19 => absurd c19 (fun q => q rfl)) (fun c19 => ?_)
  refine r_aload_n dL_isRefused_349 rfl 7 rfl ?_
  refine r_bipush (v := (nI 10)) dL_isRefused_350 (by decide) ?_
  refine r_iload dL_isRefused_352 4 rfl ?_
  refine r_sipush (v := (nI 999)) dL_isRefused_354 (by decide) ?_
  refine r_iconst (v := (nI 0)) dL_isRefused_357 (by decide) ?_
  refine r_iconst (v := (nI 0)) dL_isRefused_358 (by decide) ?_
  refine r_callSW (st := []) [.ref (Q 0), .int (nI 10), .int ((-1) - (nI (x % 30))), .int (nI 999), .int (nI 0), .int (nI 0)] 5200 104000 dL_isRefused_359 kL_act nL_act lRL_88 (R_data_1 hL7 hI (inB_neg hlo1)) rfl rfl (Nat.le_of_ble_eq_true rfl) (by omega) (by omega) (fun _ _ h => h.elim) ?_
  refine cx_det (st2 := [.int (-1661000)]) rfl ?_
  refine r_ldc dL_isRefused_362 con_76 ?_
  refine r_icmp_ne 580 dL_isRefused_364 (by decide) (fun c20 => absurd c20 (fun q => q rfl)) (fun c20 => ?_)
  refine r_aload_n dL_isRefused_367 rfl 7 rfl ?_
  refine r_bipush (v := (nI 11)) dL_isRefused_368 (by decide) ?_
  refine r_iload dL_isRefused_370 1 rfl ?_
  refine r_iconst (v := (nI 0)) dL_isRefused_372 (by decide) ?_
  refine r_iconst (v := (nI 0)) dL_isRefused_373 (by decide) ?_
  refine r_iconst (v := (nI 0)) dL_isRefused_374 (by decide) ?_
  refine r_callSW (st := []) [.ref (Q 0), .int (nI 11), .int ((-1) - (nI (x % 30))), .int (nI 0), .int (nI 0), .int (nI 0)] 5180 103600 dL_isRefused_375 kL_act nL_act lRL_88 (R_fill hL7 hI (inB_neg hlo1)) rfl rfl (Nat.le_of_ble_eq_true rfl) (by omega) (by omega) (fun _ _ h => h.elim) ?_
  refine cx_det (st2 := [.int (-1661000)]) rfl ?_
  refine r_ldc dL_isRefused_378 con_76 ?_
  refine r_icmp_ne 580 dL_isRefused_380 (by decide) (fun c21 => absurd c21 (fun q => q rfl)) (fun c21 => ?_)
  refine r_aload_n dL_isRefused_383 rfl 7 rfl ?_
  refine r_bipush (v := (nI 12)) dL_isRefused_384 (by decide) ?_
  refine r_iload dL_isRefused_386 5 rfl ?_
  refine r_sipush (v := (nI 9999)) dL_isRefused_388 (by decide) ?_
  refine r_iconst (v := (nI 0)) dL_isRefused_391 (by decide) ?_
  refine r_iconst (v := (nI 0)) dL_isRefused_392 (by decide) ?_
  refine r_callSW (st := []) [.ref (Q 0), .int (nI 12), .int ((-1) - (nI (x % 30))), .int (nI 9999), .int (nI 0), .int (nI 0)] 5160 103200 dL_isRefused_393 kL_act nL_act lRL_88 (R_price_1 hL7 hI (inB_neg hlo1)) rfl rfl (Nat.le_of_ble_eq_true rfl) (by omega) (by omega) (fun _ _ h => h.elim) ?_
  refine cx_det (st2 := [.int (-1661000)]) rfl ?_
  refine r_ldc dL_isRefused_396 con_76 ?_
  refine r_icmp_ne 580 dL_isRefused_398 (by decide) (fun c22 => absurd c22 (fun q => q rfl)) (fun c22 => ?_)
  refine r_aload_n dL_isRefused_401 rfl 7 rfl ?_
  refine r_bipush (v := (nI 12)) dL_isRefused_402 (by decide) ?_
  refine r_iload dL_isRefused_404 11 rfl ?_
  refine r_iconst (v := (nI 3)) dL_isRefused_406 (by decide) ?_
  refine n_irem dL_isRefused_407 (by omega) (by omega) (by omega) ?_
  refine r_iload dL_isRefused_408 6 rfl ?_
  refine n_if_eq 423 dL_isRefused_410 (by decide) (by omega) (fun c23 => absurd c23 (by decide)) (fun c23 => ?_)
  refine r_iconst (v := (-1)) dL_isRefused_413 (by decide) ?_
  refine r_iload dL_isRefused_414 11 rfl ?_
  refine r_bipush (v := (nI 30)) dL_isRefused_416 (by decide) ?_
  refine n_irem dL_isRefused_418 (by omega) (by omega) (by omega) ?_
  refine r_isub dL_isRefused_419 ?_
  refine r_goto 426 dL_isRefused_420 (by decide) ?_
  refine r_iconst (v := (nI 0)) dL_isRefused_426 (by decide) ?_
  refine r_iconst (v := (nI 0)) dL_isRefused_427 (by decide) ?_
  refine r_callSW (st := []) [.ref (Q 0), .int (nI 12), .int (nI (x % 3)), .int ((-1) - (nI (x % 30))), .int (nI 0), .int (nI 0)] 5140 102800 dL_isRefused_428 kL_act nL_act lRL_88 (R_price_2a hL7 hI hx3 hlo1) rfl rfl (Nat.le_of_ble_eq_true rfl) (by omega) (by omega) (fun _ _ h => h.elim) ?_
  refine cx_det (st2 := [.int (-1662000)]) rfl ?_
  refine r_ldc dL_isRefused_431 con_79 ?_
  refine r_icmp_ne 580 dL_isRefused_433 (by decide) (fun c24 => absurd c24 (fun q => q rfl)) (fun c24 => ?_)
  refine r_aload_n dL_isRefused_436 rfl 7 rfl ?_
  refine r_bipush (v := (nI 13)) dL_isRefused_437 (by decide) ?_
  refine r_iload dL_isRefused_439 2 rfl ?_
  refine r_iconst (v := (nI 0)) dL_isRefused_441 (by decide) ?_
  refine r_iconst (v := (nI 0)) dL_isRefused_442 (by decide) ?_
  refine r_bipush (v := (nI 9)) dL_isRefused_443 (by decide) ?_
  refine r_callSW (st := []) [.ref (Q 0), .int (nI 13), .int ((-1) - (nI (x % 30))), .int (nI 0), .int (nI 0), .int (nI 9)] 5120 102400 dL_isRefused_445 kL_act nL_act lRL_88 (R_faultOf hL7 hI (inB_neg hlo1)) rfl rfl (Nat.le_of_ble_eq_true rfl) (by omega) (by omega) (fun _ _ h => h.elim) ?_
  refine cx_det (st2 := [.int (-1661000)]) rfl ?_
  refine r_ldc dL_isRefused_448 con_76 ?_
  refine r_icmp_ne 580 dL_isRefused_450 (by decide) (fun c25 => absurd c25 (fun q => q rfl)) (fun c25 => ?_)
  refine r_aload_n dL_isRefused_453 rfl 7 rfl ?_
  refine r_bipush (v := (nI 14)) dL_isRefused_454 (by decide) ?_
  refine r_iload dL_isRefused_456 2 rfl ?_
  refine r_iconst (v := (nI 0)) dL_isRefused_458 (by decide) ?_
  refine r_iconst (v := (nI 0)) dL_isRefused_459 (by decide) ?_
  refine r_iconst (v := (nI 0)) dL_isRefused_460 (by decide) ?_
  refine r_callSW (st := []) [.ref (Q 0), .int (nI 14), .int ((-1) - (nI (x % 30))), .int (nI 0), .int (nI 0), .int (nI 0)] 5100 102000 dL_isRefused_461 kL_act nL_act lRL_88 (R_sign hL7 hI (inB_neg hlo1)) rfl rfl (Nat.le_of_ble_eq_true rfl) (by omega) (by omega) (fun _ _ h => h.elim) ?_
  refine cx_det (st2 := [.int (-1661000)]) rfl ?_
  refine r_ldc dL_isRefused_464 con_76 ?_
  refine r_icmp_ne 580 dL_isRefused_466 (by decide) (fun c26 => absurd c26 (fun q => q rfl)) (fun c26 => ?_)
  refine r_aload_n dL_isRefused_469 rfl 7 rfl ?_
  refine r_bipush (v := (nI 15)) dL_isRefused_470 (by decide) ?_
  refine r_iload dL_isRefused_472 2 rfl ?_
  refine r_iconst (v := (nI 0)) dL_isRefused_474 (by decide) ?_
  refine r_iconst (v := (nI 0)) dL_isRefused_475 (by decide) ?_
  refine r_iconst (v := (nI 0)) dL_isRefused_476 (by decide) ?_
  refine r_callSW (st := []) [.ref (Q 0), .int (nI 15), .int ((-1) - (nI (x % 30))), .int (nI 0), .int (nI 0), .int (nI 0)] 5080 101600 dL_isRefused_477 kL_act nL_act lRL_88 (R_signAnew hL7 hI (inB_neg hlo1)) rfl rfl (Nat.le_of_ble_eq_true rfl) (by omega) (by omega) (fun _ _ h => h.elim) ?_
  refine cx_det (st2 := [.int (-1661000)]) rfl ?_
  refine r_ldc dL_isRefused_480 con_76 ?_
  refine r_icmp_ne 580 dL_isRefused_482 (by decide) (fun c27 => absurd c27 (fun q => q rfl)) (fun c27 => ?_)
  refine r_aload_n dL_isRefused_485 rfl 7 rfl ?_
  refine r_bipush (v := (nI 16)) dL_isRefused_486 (by decide) ?_
  refine r_iload dL_isRefused_488 2 rfl ?_
  refine r_iconst (v := (nI 0)) dL_isRefused_490 (by decide) ?_
  refine r_iconst (v := (nI 0)) dL_isRefused_491 (by decide) ?_
  refine r_iconst (v := (nI 0)) dL_isRefused_492 (by decide) ?_
  refine r_callSW (st := []) [.ref (Q 0), .int (nI 16), .int ((-1) - (nI (x % 30))), .int (nI 0), .int (nI 0), .int (nI 0)] 5060 101200 dL_isRefused_493 kL_act nL_act lRL_88 (R_costs hL7 hI (inB_neg hlo1)) rfl rfl (Nat.le_of_ble_eq_true rfl) (by omega) (by omega) (fun _ _ h => h.elim) ?_
  refine cx_det (st2 := [.int (-1661000)]) rfl ?_
  refine r_ldc dL_isRefused_496 con_76 ?_
  refine r_icmp_ne 580 dL_isRefused_498 (by decide) (fun c28 => absurd c28 (fun q => q rfl)) (fun c28 => ?_)
  refine r_aload_n dL_isRefused_501 rfl 7 rfl ?_
  refine r_bipush (v := (nI 17)) dL_isRefused_502 (by decide) ?_
  refine r_iload dL_isRefused_504 2 rfl ?_
  refine r_iconst (v := (nI 0)) dL_isRefused_506 (by decide) ?_
  refine r_iconst (v := (nI 0)) dL_isRefused_507 (by decide) ?_
  refine r_iconst (v := (nI 0)) dL_isRefused_508 (by decide) ?_
  refine r_callSW (st := []) [.ref (Q 0), .int (nI 17), .int ((-1) - (nI (x % 30))), .int (nI 0), .int (nI 0), .int (nI 0)] 5040 100800 dL_isRefused_509 kL_act nL_act lRL_88 (R_sample_1a hL7 hI (inB_neg hlo1)) rfl rfl (Nat.le_of_ble_eq_true rfl) (by omega) (by omega) (fun _ _ h => h.elim) ?_
  refine cx_det (st2 := [.int (-1661000)]) rfl ?_
  refine r_ldc dL_isRefused_512 con_76 ?_
  refine r_icmp_ne 580 dL_isRefused_514 (by decide) (fun c29 => absurd c29 (fun q => q rfl)) (fun c29 => ?_)
  refine r_aload_n dL_isRefused_517 rfl 8 rfl ?_
  refine r_iconst (v := (nI 4)) dL_isRefused_518 (by decide) ?_
  refine n_iald dL_isRefused_519 hL7.r1 (by omega) (by decide) ?_
  refine r_bipush (v := (nI 60)) dL_isRefused_520 (by decide) ?_
  refine n_icmp_lt 540 dL_isRefused_522 (by decide) (by omega) (by omega) (fun c522 => ?_) (fun c522 => ?_)
  · refine r_aload_n dL_isRefused_540 rfl 8 rfl ?_
    refine r_iconst (v := (nI 4)) dL_isRefused_541 (by decide) ?_
    refine n_iald dL_isRefused_542 hL7.r1 (by omega) (by decide) ?_
    refine n_if_le 562 dL_isRefused_543 (by decide) (by omega) (fun c543 => ?_) (fun c543 => ?_)
    · refine r_aload_n dL_isRefused_562 rfl 7 rfl ?_
      refine r_iconst (v := (nI 1)) dL_isRefused_563 (by decide) ?_
      refine r_iconst (v := (nI 0)) dL_isRefused_564 (by decide) ?_
      refine r_iconst (v := (nI 0)) dL_isRefused_565 (by decide) ?_
      refine r_iconst (v := (nI 0)) dL_isRefused_566 (by decide) ?_
      refine r_iconst (v := (nI 0)) dL_isRefused_567 (by decide) ?_
      refine r_callSW (st := []) [.ref (Q 0), .int (nI 1), .int (nI 0), .int (nI 0), .int (nI 0), .int (nI 0)] 5020 100400 dL_isRefused_568 kL_act nL_act lRL_88 (R_word_a hL7 hI (ltB_no (by omega))) rfl rfl (Nat.le_of_ble_eq_true rfl) (by omega) (by omega) (fun _ _ h => h.elim) ?_
      refine cx_det (st2 := [.int (-1663000)]) rfl ?_
      refine r_ldc dL_isRefused_571 con_82 ?_
      refine r_icmp_ne 580 dL_isRefused_573 (by decide) (fun c32 => absurd c32 (fun q => q rfl)) (fun c32 => ?_)
      refine r_iconst (v := (nI 1)) dL_isRefused_576 (by decide) ?_
      refine r_goto 581 dL_isRefused_577 (by decide) ?_
      refine r_istore [(13, .int (nI 1)), (11, .long (alA A)), (10, .int ((-1) - (nI (x % 30)))), (9, .int ((-1) - (nI (x % 30)))), (8, .int ((-1) - (nI (x % 30)))), (7, .int ((-1) - (nI (x % 30)))), (6, .int ((-1) - (nI (x % 30)))), (5, .int (nI 1)), (0, .ref (Q 0)), (1, .ref (Q 1)), (2, .ref (Q 2)), (3, .ref (Q 3)), (4, .int (nI x))] dL_isRefused_581 (by decide) rfl ?_
      refine r_iconst (v := (nI 0)) dL_isRefused_583 (by decide) ?_
      refine r_istore [(14, .int (nI 0)), (13, .int (nI 1)), (11, .long (alA A)), (10, .int ((-1) - (nI (x % 30)))), (9, .int ((-1) - (nI (x % 30)))), (8, .int ((-1) - (nI (x % 30)))), (7, .int ((-1) - (nI (x % 30)))), (6, .int ((-1) - (nI (x % 30)))), (5, .int (nI 1)), (0, .ref (Q 0)), (1, .ref (Q 1)), (2, .ref (Q 2)), (3, .ref (Q 3)), (4, .int (nI x))] dL_isRefused_584 (by decide) rfl ?_
      exact WP.loc [0, 1, 2, 3, 4, 5, 6, 7, 8, 9, 10, 11, 12, 13] rfl (WP.bud (by omega) (by omega) (l_rf_cl_lo hI hR hx (A 9 0 + 1) 0 _ ⟨hL7, Nat.zero_le _⟩ (by omega)))
    · refine r_aload_n dL_isRefused_546 rfl 8 rfl ?_
      refine r_iconst (v := (nI 4)) dL_isRefused_547 (by decide) ?_
      refine n_iald dL_isRefused_548 hL7.r1 (by omega) (by decide) ?_
      refine r_bipush (v := (nI 11)) dL_isRefused_549 (by decide) ?_
      refine n_icmp_ge 562 dL_isRefused_551 (by decide) (by omega) (by omega) (fun c551 => ?_) (fun c551 => ?_)
      · refine r_aload_n dL_isRefused_562 rfl 7 rfl ?_
        refine r_iconst (v := (nI 1)) dL_isRefused_563 (by decide) ?_
        refine r_iconst (v := (nI 0)) dL_isRefused_564 (by decide) ?_
        refine r_iconst (v := (nI 0)) dL_isRefused_565 (by decide) ?_
        refine r_iconst (v := (nI 0)) dL_isRefused_566 (by decide) ?_
        refine r_iconst (v := (nI 0)) dL_isRefused_567 (by decide) ?_
        refine r_callSW (st := []) [.ref (Q 0), .int (nI 1), .int (nI 0), .int (nI 0), .int (nI 0), .int (nI 0)] 5020 100400 dL_isRefused_568 kL_act nL_act lRL_88 (R_word_a hL7 hI (ltB_no (by omega))) rfl rfl (Nat.le_of_ble_eq_true rfl) (by omega) (by omega) (fun _ _ h => h.elim) ?_
        refine cx_det (st2 := [.int (-1663000)]) rfl ?_
        refine r_ldc dL_isRefused_571 con_82 ?_
        refine r_icmp_ne 580 dL_isRefused_573 (by decide) (fun c34 => absurd c34 (fun q => q rfl)) (fun c34 => ?_)
        refine r_iconst (v := (nI 1)) dL_isRefused_576 (by decide) ?_
        refine r_goto 581 dL_isRefused_577 (by decide) ?_
        refine r_istore [(13, .int (nI 1)), (11, .long (alA A)), (10, .int ((-1) - (nI (x % 30)))), (9, .int ((-1) - (nI (x % 30)))), (8, .int ((-1) - (nI (x % 30)))), (7, .int ((-1) - (nI (x % 30)))), (6, .int ((-1) - (nI (x % 30)))), (5, .int (nI 1)), (0, .ref (Q 0)), (1, .ref (Q 1)), (2, .ref (Q 2)), (3, .ref (Q 3)), (4, .int (nI x))] dL_isRefused_581 (by decide) rfl ?_
        refine r_iconst (v := (nI 0)) dL_isRefused_583 (by decide) ?_
        refine r_istore [(14, .int (nI 0)), (13, .int (nI 1)), (11, .long (alA A)), (10, .int ((-1) - (nI (x % 30)))), (9, .int ((-1) - (nI (x % 30)))), (8, .int ((-1) - (nI (x % 30)))), (7, .int ((-1) - (nI (x % 30)))), (6, .int ((-1) - (nI (x % 30)))), (5, .int (nI 1)), (0, .ref (Q 0)), (1, .ref (Q 1)), (2, .ref (Q 2)), (3, .ref (Q 3)), (4, .int (nI x))] dL_isRefused_584 (by decide) rfl ?_
        exact WP.loc [0, 1, 2, 3, 4, 5, 6, 7, 8, 9, 10, 11, 12, 13] rfl (WP.bud (by omega) (by omega) (l_rf_cl_lo hI hR hx (A 9 0 + 1) 0 _ ⟨hL7, Nat.zero_le _⟩ (by omega)))
      · refine r_aload_n dL_isRefused_554 rfl 8 rfl ?_
        refine r_iconst (v := (nI 0)) dL_isRefused_555 (by decide) ?_
        refine n_iald dL_isRefused_556 hL7.r1 (by omega) (by decide) ?_
        refine r_bipush (v := (nI 12)) dL_isRefused_557 (by decide) ?_
        refine n_icmp_lt 576 dL_isRefused_559 (by decide) (by omega) (by omega) (fun c559 => ?_) (fun c559 => ?_)
        · refine r_iconst (v := (nI 1)) dL_isRefused_576 (by decide) ?_
          refine r_goto 581 dL_isRefused_577 (by decide) ?_
          refine r_istore [(13, .int (nI 1)), (11, .long (alA A)), (10, .int ((-1) - (nI (x % 30)))), (9, .int ((-1) - (nI (x % 30)))), (8, .int ((-1) - (nI (x % 30)))), (7, .int ((-1) - (nI (x % 30)))), (6, .int ((-1) - (nI (x % 30)))), (5, .int (nI 1)), (0, .ref (Q 0)), (1, .ref (Q 1)), (2, .ref (Q 2)), (3, .ref (Q 3)), (4, .int (nI x))] dL_isRefused_581 (by decide) rfl ?_
          refine r_iconst (v := (nI 0)) dL_isRefused_583 (by decide) ?_
          refine r_istore [(14, .int (nI 0)), (13, .int (nI 1)), (11, .long (alA A)), (10, .int ((-1) - (nI (x % 30)))), (9, .int ((-1) - (nI (x % 30)))), (8, .int ((-1) - (nI (x % 30)))), (7, .int ((-1) - (nI (x % 30)))), (6, .int ((-1) - (nI (x % 30)))), (5, .int (nI 1)), (0, .ref (Q 0)), (1, .ref (Q 1)), (2, .ref (Q 2)), (3, .ref (Q 3)), (4, .int (nI x))] dL_isRefused_584 (by decide) rfl ?_
          exact WP.loc [0, 1, 2, 3, 4, 5, 6, 7, 8, 9, 10, 11, 12, 13] rfl (WP.bud (by omega) (by omega) (l_rf_cl_lo hI hR hx (A 9 0 + 1) 0 _ ⟨hL7, Nat.zero_le _⟩ (by omega)))
        · refine r_aload_n dL_isRefused_562 rfl 7 rfl ?_
          refine r_iconst (v := (nI 1)) dL_isRefused_563 (by decide) ?_
          refine r_iconst (v := (nI 0)) dL_isRefused_564 (by decide) ?_
          refine r_iconst (v := (nI 0)) dL_isRefused_565 (by decide) ?_
          refine r_iconst (v := (nI 0)) dL_isRefused_566 (by decide) ?_
          refine r_iconst (v := (nI 0)) dL_isRefused_567 (by decide) ?_
          refine r_callSW (st := []) [.ref (Q 0), .int (nI 1), .int (nI 0), .int (nI 0), .int (nI 0), .int (nI 0)] 5020 100400 dL_isRefused_568 kL_act nL_act lRL_88 (R_word hL7 hI (by omega)) rfl rfl (Nat.le_of_ble_eq_true rfl) (by omega) (by omega) (fun _ _ h => h.elim) ?_
          refine cx_det (st2 := [.int (-1663000)]) rfl ?_
          refine r_ldc dL_isRefused_571 con_82 ?_
          refine r_icmp_ne 580 dL_isRefused_573 (by decide) (fun c36 => absurd c36 (fun q => q rfl)) (fun c36 => ?_)
          refine r_iconst (v := (nI 1)) dL_isRefused_576 (by decide) ?_
          refine r_goto 581 dL_isRefused_577 (by decide) ?_
          refine r_istore [(13, .int (nI 1)), (11, .long (alA A)), (10, .int ((-1) - (nI (x % 30)))), (9, .int ((-1) - (nI (x % 30)))), (8, .int ((-1) - (nI (x % 30)))), (7, .int ((-1) - (nI (x % 30)))), (6, .int ((-1) - (nI (x % 30)))), (5, .int (nI 1)), (0, .ref (Q 0)), (1, .ref (Q 1)), (2, .ref (Q 2)), (3, .ref (Q 3)), (4, .int (nI x))] dL_isRefused_581 (by decide) rfl ?_
          refine r_iconst (v := (nI 0)) dL_isRefused_583 (by decide) ?_
          refine r_istore [(14, .int (nI 0)), (13, .int (nI 1)), (11, .long (alA A)), (10, .int ((-1) - (nI (x % 30)))), (9, .int ((-1) - (nI (x % 30)))), (8, .int ((-1) - (nI (x % 30)))), (7, .int ((-1) - (nI (x % 30)))), (6, .int ((-1) - (nI (x % 30)))), (5, .int (nI 1)), (0, .ref (Q 0)), (1, .ref (Q 1)), (2, .ref (Q 2)), (3, .ref (Q 3)), (4, .int (nI x))] dL_isRefused_584 (by decide) rfl ?_
          exact WP.loc [0, 1, 2, 3, 4, 5, 6, 7, 8, 9, 10, 11, 12, 13] rfl (WP.bud (by omega) (by omega) (l_rf_cl_lo hI hR hx (A 9 0 + 1) 0 _ ⟨hL7, Nat.zero_le _⟩ (by omega)))
  · refine r_aload_n dL_isRefused_525 rfl 7 rfl ?_
    refine r_iconst (v := (nI 0)) dL_isRefused_526 (by decide) ?_
    refine r_bipush (v := (nI 97)) dL_isRefused_527 (by decide) ?_
    refine r_iconst (v := (nI 0)) dL_isRefused_529 (by decide) ?_
    refine r_iconst (v := (nI 0)) dL_isRefused_530 (by decide) ?_
    refine r_iconst (v := (nI 0)) dL_isRefused_531 (by decide) ?_
    refine r_callSW (st := []) [.ref (Q 0), .int (nI 0), .int (nI 97), .int (nI 0), .int (nI 0), .int (nI 0)] 5020 100400 dL_isRefused_532 kL_act nL_act lRL_88 (R_type hL7 hI (c := 97) (by decide) (by omega)) rfl rfl (Nat.le_of_ble_eq_true rfl) (by omega) (by omega) (fun _ _ h => h.elim) ?_
    refine cx_det (st2 := [.int (-1663000)]) rfl ?_
    refine r_ldc dL_isRefused_535 con_82 ?_
    refine r_icmp_ne 580 dL_isRefused_537 (by decide) (fun c37 => absurd c37 (fun q => q rfl)) (fun c37 => ?_)
    refine r_aload_n dL_isRefused_540 rfl 8 rfl ?_
    refine r_iconst (v := (nI 4)) dL_isRefused_541 (by decide) ?_
    refine n_iald dL_isRefused_542 hL7.r1 (by omega) (by decide) ?_
    refine n_if_le 562 dL_isRefused_543 (by decide) (by omega) (fun c543 => ?_) (fun c543 => ?_)
    · refine r_aload_n dL_isRefused_562 rfl 7 rfl ?_
      refine r_iconst (v := (nI 1)) dL_isRefused_563 (by decide) ?_
      refine r_iconst (v := (nI 0)) dL_isRefused_564 (by decide) ?_
      refine r_iconst (v := (nI 0)) dL_isRefused_565 (by decide) ?_
      refine r_iconst (v := (nI 0)) dL_isRefused_566 (by decide) ?_
      refine r_iconst (v := (nI 0)) dL_isRefused_567 (by decide) ?_
      refine r_callSW (st := []) [.ref (Q 0), .int (nI 1), .int (nI 0), .int (nI 0), .int (nI 0), .int (nI 0)] 5000 100000 dL_isRefused_568 kL_act nL_act lRL_88 (R_word_a hL7 hI (ltB_no (by omega))) rfl rfl (Nat.le_of_ble_eq_true rfl) (by omega) (by omega) (fun _ _ h => h.elim) ?_
      refine cx_det (st2 := [.int (-1663000)]) rfl ?_
      refine r_ldc dL_isRefused_571 con_82 ?_
      refine r_icmp_ne 580 dL_isRefused_573 (by decide) (fun c39 => absurd c39 (fun q => q rfl)) (fun c39 => ?_)
      refine r_iconst (v := (nI 1)) dL_isRefused_576 (by decide) ?_
      refine r_goto 581 dL_isRefused_577 (by decide) ?_
      refine r_istore [(13, .int (nI 1)), (11, .long (alA A)), (10, .int ((-1) - (nI (x % 30)))), (9, .int ((-1) - (nI (x % 30)))), (8, .int ((-1) - (nI (x % 30)))), (7, .int ((-1) - (nI (x % 30)))), (6, .int ((-1) - (nI (x % 30)))), (5, .int (nI 1)), (0, .ref (Q 0)), (1, .ref (Q 1)), (2, .ref (Q 2)), (3, .ref (Q 3)), (4, .int (nI x))] dL_isRefused_581 (by decide) rfl ?_
      refine r_iconst (v := (nI 0)) dL_isRefused_583 (by decide) ?_
      refine r_istore [(14, .int (nI 0)), (13, .int (nI 1)), (11, .long (alA A)), (10, .int ((-1) - (nI (x % 30)))), (9, .int ((-1) - (nI (x % 30)))), (8, .int ((-1) - (nI (x % 30)))), (7, .int ((-1) - (nI (x % 30)))), (6, .int ((-1) - (nI (x % 30)))), (5, .int (nI 1)), (0, .ref (Q 0)), (1, .ref (Q 1)), (2, .ref (Q 2)), (3, .ref (Q 3)), (4, .int (nI x))] dL_isRefused_584 (by decide) rfl ?_
      exact WP.loc [0, 1, 2, 3, 4, 5, 6, 7, 8, 9, 10, 11, 12, 13] rfl (WP.bud (by omega) (by omega) (l_rf_cl_lo hI hR hx (A 9 0 + 1) 0 _ ⟨hL7, Nat.zero_le _⟩ (by omega)))
    · refine r_aload_n dL_isRefused_546 rfl 8 rfl ?_
      refine r_iconst (v := (nI 4)) dL_isRefused_547 (by decide) ?_
      refine n_iald dL_isRefused_548 hL7.r1 (by omega) (by decide) ?_
      refine r_bipush (v := (nI 11)) dL_isRefused_549 (by decide) ?_
      refine n_icmp_ge 562 dL_isRefused_551 (by decide) (by omega) (by omega) (fun c551 => ?_) (fun c551 => ?_)
      · refine r_aload_n dL_isRefused_562 rfl 7 rfl ?_
        refine r_iconst (v := (nI 1)) dL_isRefused_563 (by decide) ?_
        refine r_iconst (v := (nI 0)) dL_isRefused_564 (by decide) ?_
        refine r_iconst (v := (nI 0)) dL_isRefused_565 (by decide) ?_
        refine r_iconst (v := (nI 0)) dL_isRefused_566 (by decide) ?_
        refine r_iconst (v := (nI 0)) dL_isRefused_567 (by decide) ?_
        refine r_callSW (st := []) [.ref (Q 0), .int (nI 1), .int (nI 0), .int (nI 0), .int (nI 0), .int (nI 0)] 5000 100000 dL_isRefused_568 kL_act nL_act lRL_88 (R_word_a hL7 hI (ltB_no (by omega))) rfl rfl (Nat.le_of_ble_eq_true rfl) (by omega) (by omega) (fun _ _ h => h.elim) ?_
        refine cx_det (st2 := [.int (-1663000)]) rfl ?_
        refine r_ldc dL_isRefused_571 con_82 ?_
        refine r_icmp_ne 580 dL_isRefused_573 (by decide) (fun c41 => absurd c41 (fun q => q rfl)) (fun c41 => ?_)
        refine r_iconst (v := (nI 1)) dL_isRefused_576 (by decide) ?_
        refine r_goto 581 dL_isRefused_577 (by decide) ?_
        refine r_istore [(13, .int (nI 1)), (11, .long (alA A)), (10, .int ((-1) - (nI (x % 30)))), (9, .int ((-1) - (nI (x % 30)))), (8, .int ((-1) - (nI (x % 30)))), (7, .int ((-1) - (nI (x % 30)))), (6, .int ((-1) - (nI (x % 30)))), (5, .int (nI 1)), (0, .ref (Q 0)), (1, .ref (Q 1)), (2, .ref (Q 2)), (3, .ref (Q 3)), (4, .int (nI x))] dL_isRefused_581 (by decide) rfl ?_
        refine r_iconst (v := (nI 0)) dL_isRefused_583 (by decide) ?_
        refine r_istore [(14, .int (nI 0)), (13, .int (nI 1)), (11, .long (alA A)), (10, .int ((-1) - (nI (x % 30)))), (9, .int ((-1) - (nI (x % 30)))), (8, .int ((-1) - (nI (x % 30)))), (7, .int ((-1) - (nI (x % 30)))), (6, .int ((-1) - (nI (x % 30)))), (5, .int (nI 1)), (0, .ref (Q 0)), (1, .ref (Q 1)), (2, .ref (Q 2)), (3, .ref (Q 3)), (4, .int (nI x))] dL_isRefused_584 (by decide) rfl ?_
        exact WP.loc [0, 1, 2, 3, 4, 5, 6, 7, 8, 9, 10, 11, 12, 13] rfl (WP.bud (by omega) (by omega) (l_rf_cl_lo hI hR hx (A 9 0 + 1) 0 _ ⟨hL7, Nat.zero_le _⟩ (by omega)))
      · refine r_aload_n dL_isRefused_554 rfl 8 rfl ?_
        refine r_iconst (v := (nI 0)) dL_isRefused_555 (by decide) ?_
        refine n_iald dL_isRefused_556 hL7.r1 (by omega) (by decide) ?_
        refine r_bipush (v := (nI 12)) dL_isRefused_557 (by decide) ?_
        refine n_icmp_lt 576 dL_isRefused_559 (by decide) (by omega) (by omega) (fun c559 => ?_) (fun c559 => ?_)
        · refine r_iconst (v := (nI 1)) dL_isRefused_576 (by decide) ?_
          refine r_goto 581 dL_isRefused_577 (by decide) ?_
          refine r_istore [(13, .int (nI 1)), (11, .long (alA A)), (10, .int ((-1) - (nI (x % 30)))), (9, .int ((-1) - (nI (x % 30)))), (8, .int ((-1) - (nI (x % 30)))), (7, .int ((-1) - (nI (x % 30)))), (6, .int ((-1) - (nI (x % 30)))), (5, .int (nI 1)), (0, .ref (Q 0)), (1, .ref (Q 1)), (2, .ref (Q 2)), (3, .ref (Q 3)), (4, .int (nI x))] dL_isRefused_581 (by decide) rfl ?_
          refine r_iconst (v := (nI 0)) dL_isRefused_583 (by decide) ?_
          refine r_istore [(14, .int (nI 0)), (13, .int (nI 1)), (11, .long (alA A)), (10, .int ((-1) - (nI (x % 30)))), (9, .int ((-1) - (nI (x % 30)))), (8, .int ((-1) - (nI (x % 30)))), (7, .int ((-1) - (nI (x % 30)))), (6, .int ((-1) - (nI (x % 30)))), (5, .int (nI 1)), (0, .ref (Q 0)), (1, .ref (Q 1)), (2, .ref (Q 2)), (3, .ref (Q 3)), (4, .int (nI x))] dL_isRefused_584 (by decide) rfl ?_
          exact WP.loc [0, 1, 2, 3, 4, 5, 6, 7, 8, 9, 10, 11, 12, 13] rfl (WP.bud (by omega) (by omega) (l_rf_cl_lo hI hR hx (A 9 0 + 1) 0 _ ⟨hL7, Nat.zero_le _⟩ (by omega)))
        · refine r_aload_n dL_isRefused_562 rfl 7 rfl ?_
          refine r_iconst (v := (nI 1)) dL_isRefused_563 (by decide) ?_
          refine r_iconst (v := (nI 0)) dL_isRefused_564 (by decide) ?_
          refine r_iconst (v := (nI 0)) dL_isRefused_565 (by decide) ?_
          refine r_iconst (v := (nI 0)) dL_isRefused_566 (by decide) ?_
          refine r_iconst (v := (nI 0)) dL_isRefused_567 (by decide) ?_
          refine r_callSW (st := []) [.ref (Q 0), .int (nI 1), .int (nI 0), .int (nI 0), .int (nI 0), .int (nI 0)] 5000 100000 dL_isRefused_568 kL_act nL_act lRL_88 (R_word hL7 hI (by omega)) rfl rfl (Nat.le_of_ble_eq_true rfl) (by omega) (by omega) (fun _ _ h => h.elim) ?_
          refine cx_det (st2 := [.int (-1663000)]) rfl ?_
          refine r_ldc dL_isRefused_571 con_82 ?_
          refine r_icmp_ne 580 dL_isRefused_573 (by decide) (fun c43 => absurd c43 (fun q => q rfl)) (fun c43 => ?_)
          refine r_iconst (v := (nI 1)) dL_isRefused_576 (by decide) ?_
          refine r_goto 581 dL_isRefused_577 (by decide) ?_
          refine r_istore [(13, .int (nI 1)), (11, .long (alA A)), (10, .int ((-1) - (nI (x % 30)))), (9, .int ((-1) - (nI (x % 30)))), (8, .int ((-1) - (nI (x % 30)))), (7, .int ((-1) - (nI (x % 30)))), (6, .int ((-1) - (nI (x % 30)))), (5, .int (nI 1)), (0, .ref (Q 0)), (1, .ref (Q 1)), (2, .ref (Q 2)), (3, .ref (Q 3)), (4, .int (nI x))] dL_isRefused_581 (by decide) rfl ?_
          refine r_iconst (v := (nI 0)) dL_isRefused_583 (by decide) ?_
          refine r_istore [(14, .int (nI 0)), (13, .int (nI 1)), (11, .long (alA A)), (10, .int ((-1) - (nI (x % 30)))), (9, .int ((-1) - (nI (x % 30)))), (8, .int ((-1) - (nI (x % 30)))), (7, .int ((-1) - (nI (x % 30)))), (6, .int ((-1) - (nI (x % 30)))), (5, .int (nI 1)), (0, .ref (Q 0)), (1, .ref (Q 1)), (2, .ref (Q 2)), (3, .ref (Q 3)), (4, .int (nI x))] dL_isRefused_584 (by decide) rfl ?_
          exact WP.loc [0, 1, 2, 3, 4, 5, 6, 7, 8, 9, 10, 11, 12, 13] rfl (WP.bud (by omega) (by omega) (l_rf_cl_lo hI hR hx (A 9 0 + 1) 0 _ ⟨hL7, Nat.zero_le _⟩ (by omega)))
set_option maxRecDepth 100000 in
set_option maxHeartbeats 4000000 in
theorem l_rf_end_hi {d b0 : Nat} {G : GH} {Q : Nat → Nat} {A B : ST} (hL : LW Q A B G) (hI : Inv A) (hR : Rl A B) {x : Nat} (hx : x < 2 ^ 31) : WP mL_isRefused (d + 11) b0 (fun r G' => r = some (.int (nI 1)) ∧ LW Q A B G') NoX G 2240 44800 1060 [(13, .int (nI 1)), (11, .long (alA A)), (10, .int (nI ((B 1 3) + (x % 30)))), (9, .int (nI ((B 1 2) + (x % 30)))), (8, .int (nI ((B 1 1) + (x % 30)))), (7, .int (nI ((B 1 0) + (x % 30)))), (6, .int (nI (3 + (x % 30)))), (5, .int (nI 0)), (0, .ref (Q 0)), (1, .ref (Q 1)), (2, .ref (Q 2)), (3, .ref (Q 3)), (4, .int (nI x))] [] := by
  have hm0 := hR.m0
  have hm1 := hR.m1
  have hm2 := hR.m2
  have hm3 := hR.m3
  have hm4 := hR.m4
  have hn9 := hR.n9
  have hb0 := hI.b0
  have hb2 := hI.b2
  have hb15 := hI.b15
  have hb18 := hI.b18
  have hlo := lo_r (Nat.mod_lt x (show 0 < 30 by decide))
  obtain ⟨hlo1, hlo2, hlo3⟩ := hlo
  refine r_iload dL_isRefused_1060 0 rfl ?_
  refine n_if_eq 1148 dL_isRefused_1062 (by decide) (by omega) (fun c1 => absurd c1 (by decide)) (fun c1 => ?_)
  refine r_aload_n dL_isRefused_1065 rfl 9 rfl ?_
  refine r_iconst (v := (nI 1)) dL_isRefused_1066 (by decide) ?_
  refine n_iald dL_isRefused_1067 hL.r1 (by omega) (by decide) ?_
  refine r_bipush (v := (nI 10)) dL_isRefused_1068 (by decide) ?_
  refine n_icmp_lt 1087 dL_isRefused_1070 (by decide) (by omega) (by omega) (fun c2 => ?_) (fun c2 => absurd c2 (by omega))
  refine r_aload_n dL_isRefused_1087 rfl 9 rfl ?_
  refine r_iconst (v := (nI 2)) dL_isRefused_1088 (by decide) ?_
  refine n_iald dL_isRefused_1089 hL.r1 (by omega) (by decide) ?_
  refine r_bipush (v := (nI 6)) dL_isRefused_1090 (by decide) ?_
  refine n_icmp_lt 1110 dL_isRefused_1092 (by decide) (by omega) (by omega) (fun c1092 => ?_) (fun c1092 => ?_)
  · refine r_aload_n dL_isRefused_1110 rfl 9 rfl ?_
    refine r_iconst (v := (nI 3)) dL_isRefused_1111 (by decide) ?_
    refine n_iald dL_isRefused_1112 hL.r1 (by omega) (by decide) ?_
    refine r_bipush (v := (nI 8)) dL_isRefused_1113 (by decide) ?_
    refine n_icmp_lt 1133 dL_isRefused_1115 (by decide) (by omega) (by omega) (fun c1115 => ?_) (fun c1115 => ?_)
    · refine r_aload_n dL_isRefused_1133 rfl 8 rfl ?_
      refine r_aload_n dL_isRefused_1134 rfl 9 rfl ?_
      refine r_callS (st := []) [.ref (Q 0), .ref (Q 1)] 40 800 dL_isRefused_1135 kL_all nL_all lRL_96 (l_all hL hI hR) rfl rfl (Nat.le_of_ble_eq_true rfl) (by omega) (by omega) (fun _ _ h => h.elim) ?_
      intro r G5 hr
      obtain ⟨rfl, hL6⟩ := hr
      show WP mL_isRefused _ _ _ _ _ _ _ 1138 [(13, .int (nI 1)), (11, .long (alA A)), (10, .int (nI ((B 1 3) + (x % 30)))), (9, .int (nI ((B 1 2) + (x % 30)))), (8, .int (nI ((B 1 1) + (x % 30)))), (7, .int (nI ((B 1 0) + (x % 30)))), (6, .int (nI (3 + (x % 30)))), (5, .int (nI 0)), (0, .ref (Q 0)), (1, .ref (Q 1)), (2, .ref (Q 2)), (3, .ref (Q 3)), (4, .int (nI x))] [.long (alA A)]
      refine r_lload dL_isRefused_1138 1 rfl ?_
      refine r_lcmp dL_isRefused_1140 ?_
      refine r_if_ne 1148 dL_isRefused_1141 (by decide) (fun c7 => absurd c7 (fun q => q (cmp_self _))) (fun c7 => ?_)
      refine r_iconst (v := (nI 1)) dL_isRefused_1144 (by decide) ?_
      refine r_goto 1149 dL_isRefused_1145 (by decide) ?_
      refine r_ret .boolean dL_isRefused_1149 rfl rfl ?_
      exact ⟨rfl, hL6⟩
    · have hw0 : 0 < A 2 0 := Nat.lt_of_le_of_lt (Nat.zero_le _) ((hI.da 0 (by omega)).2 0 (by decide))
      refine r_aload_n dL_isRefused_1118 rfl 8 rfl ?_
      refine r_bipush (v := (nI 10)) dL_isRefused_1119 (by decide) ?_
      refine r_iconst (v := (nI 0)) dL_isRefused_1121 (by decide) ?_
      refine r_iconst (v := (nI 0)) dL_isRefused_1122 (by decide) ?_
      refine r_iconst (v := (nI 0)) dL_isRefused_1123 (by decide) ?_
      refine r_iconst (v := (nI 0)) dL_isRefused_1124 (by decide) ?_
      refine r_callSW (st := []) [.ref (Q 0), .int (nI 10), .int (nI 0), .int (nI 0), .int (nI 0), .int (nI 0)] 2220 44400 dL_isRefused_1125 kL_act nL_act lRL_88 (R_data_3 hL hI (w := 0) (b := 0) hw0 (by decide) (by omega)) rfl rfl (Nat.le_of_ble_eq_true rfl) (by omega) (by omega) (fun _ _ h => h.elim) ?_
      refine cx_det (st2 := [.int (-1663000)]) rfl ?_
      refine r_ldc dL_isRefused_1128 con_82 ?_
      refine r_icmp_ne 1148 dL_isRefused_1130 (by decide) (fun c8 => absurd c8 (fun q => q rfl)) (fun c8 => ?_)
      refine r_aload_n dL_isRefused_1133 rfl 8 rfl ?_
      refine r_aload_n dL_isRefused_1134 rfl 9 rfl ?_
      refine r_callS (st := []) [.ref (Q 0), .ref (Q 1)] 20 400 dL_isRefused_1135 kL_all nL_all lRL_96 (l_all hL hI hR) rfl rfl (Nat.le_of_ble_eq_true rfl) (by omega) (by omega) (fun _ _ h => h.elim) ?_
      intro r G9 hr
      obtain ⟨rfl, hL10⟩ := hr
      show WP mL_isRefused _ _ _ _ _ _ _ 1138 [(13, .int (nI 1)), (11, .long (alA A)), (10, .int (nI ((B 1 3) + (x % 30)))), (9, .int (nI ((B 1 2) + (x % 30)))), (8, .int (nI ((B 1 1) + (x % 30)))), (7, .int (nI ((B 1 0) + (x % 30)))), (6, .int (nI (3 + (x % 30)))), (5, .int (nI 0)), (0, .ref (Q 0)), (1, .ref (Q 1)), (2, .ref (Q 2)), (3, .ref (Q 3)), (4, .int (nI x))] [.long (alA A)]
      refine r_lload dL_isRefused_1138 1 rfl ?_
      refine r_lcmp dL_isRefused_1140 ?_
      refine r_if_ne 1148 dL_isRefused_1141 (by decide) (fun c11 => absurd c11 (fun q => q (cmp_self _))) (fun c11 => ?_)
      refine r_iconst (v := (nI 1)) dL_isRefused_1144 (by decide) ?_
      refine r_goto 1149 dL_isRefused_1145 (by decide) ?_
      refine r_ret .boolean dL_isRefused_1149 rfl rfl ?_
      exact ⟨rfl, hL10⟩
  · refine r_aload_n dL_isRefused_1095 rfl 8 rfl ?_
    refine r_bipush (v := (nI 8)) dL_isRefused_1096 (by decide) ?_
    refine r_iconst (v := (nI 0)) dL_isRefused_1098 (by decide) ?_
    refine r_iconst (v := (nI 0)) dL_isRefused_1099 (by decide) ?_
    refine r_iconst (v := (nI 0)) dL_isRefused_1100 (by decide) ?_
    refine r_iconst (v := (nI 0)) dL_isRefused_1101 (by decide) ?_
    refine r_callSW (st := []) [.ref (Q 0), .int (nI 8), .int (nI 0), .int (nI 0), .int (nI 0), .int (nI 0)] 2220 44400 dL_isRefused_1102 kL_act nL_act lRL_88 (R_letter hL hI (by omega)) rfl rfl (Nat.le_of_ble_eq_true rfl) (by omega) (by omega) (fun _ _ h => h.elim) ?_
    refine cx_det (st2 := [.int (-1663000)]) rfl ?_
    refine r_ldc dL_isRefused_1105 con_82 ?_
    refine r_icmp_ne 1148 dL_isRefused_1107 (by decide) (fun c12 => absurd c12 (fun q => q rfl)) (fun c12 => ?_)
    refine r_aload_n dL_isRefused_1110 rfl 9 rfl ?_
    refine r_iconst (v := (nI 3)) dL_isRefused_1111 (by decide) ?_
    refine n_iald dL_isRefused_1112 hL.r1 (by omega) (by decide) ?_
    refine r_bipush (v := (nI 8)) dL_isRefused_1113 (by decide) ?_
    refine n_icmp_lt 1133 dL_isRefused_1115 (by decide) (by omega) (by omega) (fun c1115 => ?_) (fun c1115 => ?_)
    · refine r_aload_n dL_isRefused_1133 rfl 8 rfl ?_
      refine r_aload_n dL_isRefused_1134 rfl 9 rfl ?_
      refine r_callS (st := []) [.ref (Q 0), .ref (Q 1)] 20 400 dL_isRefused_1135 kL_all nL_all lRL_96 (l_all hL hI hR) rfl rfl (Nat.le_of_ble_eq_true rfl) (by omega) (by omega) (fun _ _ h => h.elim) ?_
      intro r G14 hr
      obtain ⟨rfl, hL15⟩ := hr
      show WP mL_isRefused _ _ _ _ _ _ _ 1138 [(13, .int (nI 1)), (11, .long (alA A)), (10, .int (nI ((B 1 3) + (x % 30)))), (9, .int (nI ((B 1 2) + (x % 30)))), (8, .int (nI ((B 1 1) + (x % 30)))), (7, .int (nI ((B 1 0) + (x % 30)))), (6, .int (nI (3 + (x % 30)))), (5, .int (nI 0)), (0, .ref (Q 0)), (1, .ref (Q 1)), (2, .ref (Q 2)), (3, .ref (Q 3)), (4, .int (nI x))] [.long (alA A)]
      refine r_lload dL_isRefused_1138 1 rfl ?_
      refine r_lcmp dL_isRefused_1140 ?_
      refine r_if_ne 1148 dL_isRefused_1141 (by decide) (fun c16 => absurd c16 (fun q => q (cmp_self _))) (fun c16 => ?_)
      refine r_iconst (v := (nI 1)) dL_isRefused_1144 (by decide) ?_
      refine r_goto 1149 dL_isRefused_1145 (by decide) ?_
      refine r_ret .boolean dL_isRefused_1149 rfl rfl ?_
      exact ⟨rfl, hL15⟩
    · have hw0 : 0 < A 2 0 := Nat.lt_of_le_of_lt (Nat.zero_le _) ((hI.da 0 (by omega)).2 0 (by decide))
      refine r_aload_n dL_isRefused_1118 rfl 8 rfl ?_
      refine r_bipush (v := (nI 10)) dL_isRefused_1119 (by decide) ?_
      refine r_iconst (v := (nI 0)) dL_isRefused_1121 (by decide) ?_
      refine r_iconst (v := (nI 0)) dL_isRefused_1122 (by decide) ?_
      refine r_iconst (v := (nI 0)) dL_isRefused_1123 (by decide) ?_
      refine r_iconst (v := (nI 0)) dL_isRefused_1124 (by decide) ?_
      refine r_callSW (st := []) [.ref (Q 0), .int (nI 10), .int (nI 0), .int (nI 0), .int (nI 0), .int (nI 0)] 2200 44000 dL_isRefused_1125 kL_act nL_act lRL_88 (R_data_3 hL hI (w := 0) (b := 0) hw0 (by decide) (by omega)) rfl rfl (Nat.le_of_ble_eq_true rfl) (by omega) (by omega) (fun _ _ h => h.elim) ?_
      refine cx_det (st2 := [.int (-1663000)]) rfl ?_
      refine r_ldc dL_isRefused_1128 con_82 ?_
      refine r_icmp_ne 1148 dL_isRefused_1130 (by decide) (fun c17 => absurd c17 (fun q => q rfl)) (fun c17 => ?_)
      refine r_aload_n dL_isRefused_1133 rfl 8 rfl ?_
      refine r_aload_n dL_isRefused_1134 rfl 9 rfl ?_
      refine r_callS (st := []) [.ref (Q 0), .ref (Q 1)] 0 0 dL_isRefused_1135 kL_all nL_all lRL_96 (l_all hL hI hR) rfl rfl (Nat.le_of_ble_eq_true rfl) (by omega) (by omega) (fun _ _ h => h.elim) ?_
      intro r G18 hr
      obtain ⟨rfl, hL19⟩ := hr
      show WP mL_isRefused _ _ _ _ _ _ _ 1138 [(13, .int (nI 1)), (11, .long (alA A)), (10, .int (nI ((B 1 3) + (x % 30)))), (9, .int (nI ((B 1 2) + (x % 30)))), (8, .int (nI ((B 1 1) + (x % 30)))), (7, .int (nI ((B 1 0) + (x % 30)))), (6, .int (nI (3 + (x % 30)))), (5, .int (nI 0)), (0, .ref (Q 0)), (1, .ref (Q 1)), (2, .ref (Q 2)), (3, .ref (Q 3)), (4, .int (nI x))] [.long (alA A)]
      refine r_lload dL_isRefused_1138 1 rfl ?_
      refine r_lcmp dL_isRefused_1140 ?_
      refine r_if_ne 1148 dL_isRefused_1141 (by decide) (fun c20 => absurd c20 (fun q => q (cmp_self _))) (fun c20 => ?_)
      refine r_iconst (v := (nI 1)) dL_isRefused_1144 (by decide) ?_
      refine r_goto 1149 dL_isRefused_1145 (by decide) ?_
      refine r_ret .boolean dL_isRefused_1149 rfl rfl ?_
      exact ⟨rfl, hL19⟩
set_option maxRecDepth 100000 in
set_option maxHeartbeats 4000000 in
theorem l_rf_let_hi {d b0 : Nat} {Q : Nat → Nat} {A B : ST} (hI : Inv A) (hR : Rl A B) {x : Nat} (hx : x < 2 ^ 31) : ∀ (fu : Nat) (k : Nat) (G : GH), (LW Q A B G ∧ k ≤ A 15 0) → A 15 0 - k < fu → WP mL_isRefused (d + 11) b0 (fun r G' => r = some (.int (nI 1)) ∧ LW Q A B G') NoX G (180 * (A 15 0 - k) + 2240) (3600 * (A 15 0 - k) + 44800) 816 [(14, .int (nI k)), (13, .int (nI 1)), (11, .long (alA A)), (10, .int (nI ((B 1 3) + (x % 30)))), (9, .int (nI ((B 1 2) + (x % 30)))), (8, .int (nI ((B 1 1) + (x % 30)))), (7, .int (nI ((B 1 0) + (x % 30)))), (6, .int (nI (3 + (x % 30)))), (5, .int (nI 0)), (0, .ref (Q 0)), (1, .ref (Q 1)), (2, .ref (Q 2)), (3, .ref (Q 3)), (4, .int (nI x))] [] := by
  intro fu
  induction fu with
  | zero => intro k G hinv hn; exact absurd hn (Nat.not_lt_zero _)
  | succ fu ih =>
    intro k G hinv hn
    obtain ⟨hL, hk⟩ := hinv
    have hm0 := hR.m0
    have hm1 := hR.m1
    have hm2 := hR.m2
    have hm3 := hR.m3
    have hm4 := hR.m4
    have hn9 := hR.n9
    have hb0 := hI.b0
    have hb2 := hI.b2
    have hb15 := hI.b15
    have hb18 := hI.b18
    have hlo := lo_r (Nat.mod_lt x (show 0 < 30 by decide))
    obtain ⟨hlo1, hlo2, hlo3⟩ := hlo
    refine r_iload dL_isRefused_816 0 rfl ?_
    refine r_aload_n dL_isRefused_818 rfl 10 rfl ?_
    refine r_iconst (v := (nI 2)) dL_isRefused_819 (by decide) ?_
    refine n_iald dL_isRefused_820 hL.r1 (by omega) (by decide) ?_
    refine n_icmp_ge 1060 dL_isRefused_821 (by decide) (by omega) (by omega) (fun ce => ?_) (fun ce => ?_)
    · exact WP.loc [1, 2, 3, 4, 5, 6, 7, 8, 9, 10, 11, 12, 13] rfl (WP.bud (by omega) (by omega) (l_rf_end_hi hL hI hR hx))
    · have hk2 : k < A 15 0 := by omega
      have hq0 := hR.l0 (show k < 6 by omega)
      have hq2 := (hI.ro k (by omega)).1
      refine WP.bud (bc' := 180 * (A 15 0 - (k + 1)) + 2420) (bs' := 3600 * (A 15 0 - (k + 1)) + 48400) (by omega) (by omega) ?_
      refine r_iload dL_isRefused_824 1 rfl ?_
      refine n_if_eq 1060 dL_isRefused_826 (by decide) (by omega) (fun c2 => absurd c2 (by decide)) (fun c2 => ?_)
      refine r_aload_n dL_isRefused_829 rfl 9 rfl ?_
      refine r_bipush (v := (nI 9)) dL_isRefused_830 (by decide) ?_
      refine r_iload dL_isRefused_832 0 rfl ?_
      refine r_iload dL_isRefused_834 5 rfl ?_
      refine r_iconst (v := (nI 0)) dL_isRefused_836 (by decide) ?_
      refine r_iconst (v := (nI 0)) dL_isRefused_837 (by decide) ?_
      refine r_callSW (st := []) [.ref (Q 0), .int (nI 9), .int (nI k), .int (nI ((B 1 1) + (x % 30))), .int (nI 0), .int (nI 0)] (180 * (A 15 0 - (k + 1)) + 2400) (3600 * (A 15 0 - (k + 1)) + 48000) dL_isRefused_838 kL_act nL_act lRL_88 (R_put_1b hL hI hk2 (inB_ge (by omega) (by omega))) rfl rfl (Nat.le_of_ble_eq_true rfl) (by omega) (by omega) (fun _ _ h => h.elim) ?_
      refine cx_det (st2 := [.int (-1661000)]) rfl ?_
      refine r_ldc dL_isRefused_841 con_76 ?_
      refine r_icmp_ne 1051 dL_isRefused_843 (by decide) (fun c3 => absurd c3 (fun q => q rfl)) (fun c3 => ?_)
      refine r_aload_n dL_isRefused_846 rfl 9 rfl ?_
      refine r_bipush (v := (nI 17)) dL_isRefused_847 (by decide) ?_
      refine r_iload dL_isRefused_849 0 rfl ?_
      refine r_iconst (v := (-1)) dL_isRefused_851 (by decide) ?_
      refine r_iload dL_isRefused_852 13 rfl ?_
      refine r_bipush (v := (nI 30)) dL_isRefused_854 (by decide) ?_
      refine n_irem dL_isRefused_856 (by omega) (by omega) (by omega) ?_
      refine r_isub dL_isRefused_857 ?_
      refine r_iconst (v := (nI 0)) dL_isRefused_858 (by decide) ?_
      refine r_iconst (v := (nI 0)) dL_isRefused_859 (by decide) ?_
      refine r_callSW (st := []) [.ref (Q 0), .int (nI 17), .int (nI k), .int ((-1) - (nI (x % 30))), .int (nI 0), .int (nI 0)] (180 * (A 15 0 - (k + 1)) + 2380) (3600 * (A 15 0 - (k + 1)) + 47600) dL_isRefused_860 kL_act nL_act lRL_88 (R_sample_1b hL hI hk2 hlo1) rfl rfl (Nat.le_of_ble_eq_true rfl) (by omega) (by omega) (fun _ _ h => h.elim) ?_
      refine cx_det (st2 := [.int (-1661000)]) rfl ?_
      refine r_ldc dL_isRefused_863 con_76 ?_
      refine r_icmp_ne 1051 dL_isRefused_865 (by decide) (fun c4 => absurd c4 (fun q => q rfl)) (fun c4 => ?_)
      refine r_aload_n dL_isRefused_868 rfl 9 rfl ?_
      refine r_bipush (v := (nI 13)) dL_isRefused_869 (by decide) ?_
      refine r_iload dL_isRefused_871 0 rfl ?_
      refine r_iload dL_isRefused_873 3 rfl ?_
      refine r_iconst (v := (nI 0)) dL_isRefused_875 (by decide) ?_
      refine r_bipush (v := (nI 9)) dL_isRefused_876 (by decide) ?_
      refine r_callSW (st := []) [.ref (Q 0), .int (nI 13), .int (nI k), .int (nI ((B 1 3) + (x % 30))), .int (nI 0), .int (nI 9)] (180 * (A 15 0 - (k + 1)) + 2360) (3600 * (A 15 0 - (k + 1)) + 47200) dL_isRefused_878 kL_act nL_act lRL_88 (R_faultOf_1c hL hI hk2 (inB_ge (by omega) (by omega))) rfl rfl (Nat.le_of_ble_eq_true rfl) (by omega) (by omega) (fun _ _ h => h.elim) ?_
      refine cx_det (st2 := [.int (-1661000)]) rfl ?_
      refine r_ldc dL_isRefused_881 con_76 ?_
      refine r_icmp_ne 1051 dL_isRefused_883 (by decide) (fun c5 => absurd c5 (fun q => q rfl)) (fun c5 => ?_)
      refine r_aload_n dL_isRefused_886 rfl 10 rfl ?_
      refine r_iconst (v := (nI 3)) dL_isRefused_887 (by decide) ?_
      refine n_iald dL_isRefused_888 hL.r1 (by omega) (by decide) ?_
      refine n_if_eq 980 dL_isRefused_889 (by decide) (by omega) (fun c889 => ?_) (fun c889 => ?_)
      · refine r_aload_n dL_isRefused_980 rfl 12 rfl ?_
        refine r_bipush (v := (nI 7)) dL_isRefused_981 (by decide) ?_
        refine r_iload dL_isRefused_983 0 rfl ?_
        refine n_imul dL_isRefused_985 ?_
        refine n_iald dL_isRefused_986 hL.r3 (by omega) (by decide) ?_
        refine n_if_eq 1014 dL_isRefused_987 (by decide) (by omega) (fun c987 => ?_) (fun c987 => ?_)
        · refine r_aload_n dL_isRefused_1014 rfl 12 rfl ?_
          refine r_bipush (v := (nI 7)) dL_isRefused_1015 (by decide) ?_
          refine r_iload dL_isRefused_1017 0 rfl ?_
          refine n_imul dL_isRefused_1019 ?_
          refine n_iald dL_isRefused_1020 hL.r3 (by omega) (by decide) ?_
          refine r_bipush (v := (nI 6)) dL_isRefused_1021 (by decide) ?_
          refine n_icmp_lt 1047 dL_isRefused_1023 (by decide) (by omega) (by omega) (fun c1023 => ?_) (fun c1023 => ?_)
          · refine r_iconst (v := (nI 1)) dL_isRefused_1047 (by decide) ?_
            refine r_goto 1052 dL_isRefused_1048 (by decide) ?_
            refine r_istore [(13, .int (nI 1)), (14, .int (nI k)), (11, .long (alA A)), (10, .int (nI ((B 1 3) + (x % 30)))), (9, .int (nI ((B 1 2) + (x % 30)))), (8, .int (nI ((B 1 1) + (x % 30)))), (7, .int (nI ((B 1 0) + (x % 30)))), (6, .int (nI (3 + (x % 30)))), (5, .int (nI 0)), (0, .ref (Q 0)), (1, .ref (Q 1)), (2, .ref (Q 2)), (3, .ref (Q 3)), (4, .int (nI x))] dL_isRefused_1052 (by decide) rfl ?_
            refine r_iinc (nI (k + 1)) [(14, .int (nI (k + 1))), (13, .int (nI 1)), (11, .long (alA A)), (10, .int (nI ((B 1 3) + (x % 30)))), (9, .int (nI ((B 1 2) + (x % 30)))), (8, .int (nI ((B 1 1) + (x % 30)))), (7, .int (nI ((B 1 0) + (x % 30)))), (6, .int (nI (3 + (x % 30)))), (5, .int (nI 0)), (0, .ref (Q 0)), (1, .ref (Q 1)), (2, .ref (Q 2)), (3, .ref (Q 3)), (4, .int (nI x))] dL_isRefused_1054 1 rfl (nI_add k 1) (by decide) rfl ?_
            refine r_goto 816 dL_isRefused_1057 (by decide) ?_
            exact WP.loc [0, 1, 2, 3, 4, 5, 6, 7, 8, 9, 10, 11, 12, 13] rfl (WP.bud (by omega) (by omega) (ih (k + 1) _ ⟨hL, by omega⟩ (by omega)))
          · have hcl0 : cla A k 0 < A 9 0 := ((hI.ro k (by omega)).2 0 (by omega)).1
            have hcm : x % B 1 1 < A 9 0 := by rw [← hm1]; exact Nat.mod_lt _ (by omega)
            refine r_aload_n dL_isRefused_1026 rfl 9 rfl ?_
            refine r_bipush (v := (nI 9)) dL_isRefused_1027 (by decide) ?_
            refine r_iload dL_isRefused_1029 0 rfl ?_
            refine r_iload dL_isRefused_1031 13 rfl ?_
            refine r_aload_n dL_isRefused_1033 rfl 10 rfl ?_
            refine r_iconst (v := (nI 1)) dL_isRefused_1034 (by decide) ?_
            refine n_iald dL_isRefused_1035 hL.r1 (by omega) (by decide) ?_
            refine n_irem dL_isRefused_1036 (by omega) (by omega) (by omega) ?_
            refine r_iconst (v := (nI 0)) dL_isRefused_1037 (by decide) ?_
            refine r_iconst (v := (nI 0)) dL_isRefused_1038 (by decide) ?_
            refine r_callSW (st := []) [.ref (Q 0), .int (nI 9), .int (nI k), .int (nI (x % (B 1 1))), .int (nI 0), .int (nI 0)] (180 * (A 15 0 - (k + 1)) + 2340) (3600 * (A 15 0 - (k + 1)) + 46800) dL_isRefused_1039 kL_act nL_act lRL_88 (R_put_2 hL hI hk2 hcm (by omega)) rfl rfl (Nat.le_of_ble_eq_true rfl) (by omega) (by omega) (fun _ _ h => h.elim) ?_
            refine cx_det (st2 := [.int (-1663000)]) rfl ?_
            refine r_ldc dL_isRefused_1042 con_82 ?_
            refine r_icmp_ne 1051 dL_isRefused_1044 (by decide) (fun c9 => absurd c9 (fun q => q rfl)) (fun c9 => ?_)
            refine r_iconst (v := (nI 1)) dL_isRefused_1047 (by decide) ?_
            refine r_goto 1052 dL_isRefused_1048 (by decide) ?_
            refine r_istore [(13, .int (nI 1)), (14, .int (nI k)), (11, .long (alA A)), (10, .int (nI ((B 1 3) + (x % 30)))), (9, .int (nI ((B 1 2) + (x % 30)))), (8, .int (nI ((B 1 1) + (x % 30)))), (7, .int (nI ((B 1 0) + (x % 30)))), (6, .int (nI (3 + (x % 30)))), (5, .int (nI 0)), (0, .ref (Q 0)), (1, .ref (Q 1)), (2, .ref (Q 2)), (3, .ref (Q 3)), (4, .int (nI x))] dL_isRefused_1052 (by decide) rfl ?_
            refine r_iinc (nI (k + 1)) [(14, .int (nI (k + 1))), (13, .int (nI 1)), (11, .long (alA A)), (10, .int (nI ((B 1 3) + (x % 30)))), (9, .int (nI ((B 1 2) + (x % 30)))), (8, .int (nI ((B 1 1) + (x % 30)))), (7, .int (nI ((B 1 0) + (x % 30)))), (6, .int (nI (3 + (x % 30)))), (5, .int (nI 0)), (0, .ref (Q 0)), (1, .ref (Q 1)), (2, .ref (Q 2)), (3, .ref (Q 3)), (4, .int (nI x))] dL_isRefused_1054 1 rfl (nI_add k 1) (by decide) rfl ?_
            refine r_goto 816 dL_isRefused_1057 (by decide) ?_
            exact WP.loc [0, 1, 2, 3, 4, 5, 6, 7, 8, 9, 10, 11, 12, 13] rfl (WP.bud (by omega) (by omega) (ih (k + 1) _ ⟨hL, by omega⟩ (by omega)))
        · have h17 : 0 < A 17 k := by omega
          have hl1 : B 3 (7 * k + 1) = cla A k 0 := hR.l1 (i := k) (k := 0) (by omega) h17
          have hcl : cla A k 0 < A 9 0 := ((hI.ro k (by omega)).2 0 h17).1
          have hcin : hsB (rg A 16 (6 * k) 6) (A 17 k) (nI (cla A k 0)) = true := hlB_in hq2 h17
          refine r_aload_n dL_isRefused_990 rfl 9 rfl ?_
          refine r_bipush (v := (nI 9)) dL_isRefused_991 (by decide) ?_
          refine r_iload dL_isRefused_993 0 rfl ?_
          refine r_aload_n dL_isRefused_995 rfl 12 rfl ?_
          refine r_bipush (v := (nI 7)) dL_isRefused_996 (by decide) ?_
          refine r_iload dL_isRefused_998 0 rfl ?_
          refine n_imul dL_isRefused_1000 ?_
          refine r_iconst (v := (nI 1)) dL_isRefused_1001 (by decide) ?_
          refine n_iadd dL_isRefused_1002 ?_
          refine n_iald dL_isRefused_1003 hL.r3 (by omega) (by decide) ?_
          refine r_top (nI (cla A k 0)) (by rw [hl1]) ?_
          refine r_iconst (v := (nI 0)) dL_isRefused_1004 (by decide) ?_
          refine r_iconst (v := (nI 0)) dL_isRefused_1005 (by decide) ?_
          refine r_callSW (st := []) [.ref (Q 0), .int (nI 9), .int (nI k), .int (nI (cla A k 0)), .int (nI 0), .int (nI 0)] (180 * (A 15 0 - (k + 1)) + 2340) (3600 * (A 15 0 - (k + 1)) + 46800) dL_isRefused_1006 kL_act nL_act lRL_88 (R_put_2a hL hI hk2 hcl hcin) rfl rfl (Nat.le_of_ble_eq_true rfl) (by omega) (by omega) (fun _ _ h => h.elim) ?_
          refine cx_det (st2 := [.int (-1663000)]) rfl ?_
          refine r_ldc dL_isRefused_1009 con_82 ?_
          refine r_icmp_ne 1051 dL_isRefused_1011 (by decide) (fun c10 => absurd c10 (fun q => q rfl)) (fun c10 => ?_)
          refine r_aload_n dL_isRefused_1014 rfl 12 rfl ?_
          refine r_bipush (v := (nI 7)) dL_isRefused_1015 (by decide) ?_
          refine r_iload dL_isRefused_1017 0 rfl ?_
          refine n_imul dL_isRefused_1019 ?_
          refine n_iald dL_isRefused_1020 hL.r3 (by omega) (by decide) ?_
          refine r_bipush (v := (nI 6)) dL_isRefused_1021 (by decide) ?_
          refine n_icmp_lt 1047 dL_isRefused_1023 (by decide) (by omega) (by omega) (fun c1023 => ?_) (fun c1023 => ?_)
          · refine r_iconst (v := (nI 1)) dL_isRefused_1047 (by decide) ?_
            refine r_goto 1052 dL_isRefused_1048 (by decide) ?_
            refine r_istore [(13, .int (nI 1)), (14, .int (nI k)), (11, .long (alA A)), (10, .int (nI ((B 1 3) + (x % 30)))), (9, .int (nI ((B 1 2) + (x % 30)))), (8, .int (nI ((B 1 1) + (x % 30)))), (7, .int (nI ((B 1 0) + (x % 30)))), (6, .int (nI (3 + (x % 30)))), (5, .int (nI 0)), (0, .ref (Q 0)), (1, .ref (Q 1)), (2, .ref (Q 2)), (3, .ref (Q 3)), (4, .int (nI x))] dL_isRefused_1052 (by decide) rfl ?_
            refine r_iinc (nI (k + 1)) [(14, .int (nI (k + 1))), (13, .int (nI 1)), (11, .long (alA A)), (10, .int (nI ((B 1 3) + (x % 30)))), (9, .int (nI ((B 1 2) + (x % 30)))), (8, .int (nI ((B 1 1) + (x % 30)))), (7, .int (nI ((B 1 0) + (x % 30)))), (6, .int (nI (3 + (x % 30)))), (5, .int (nI 0)), (0, .ref (Q 0)), (1, .ref (Q 1)), (2, .ref (Q 2)), (3, .ref (Q 3)), (4, .int (nI x))] dL_isRefused_1054 1 rfl (nI_add k 1) (by decide) rfl ?_
            refine r_goto 816 dL_isRefused_1057 (by decide) ?_
            exact WP.loc [0, 1, 2, 3, 4, 5, 6, 7, 8, 9, 10, 11, 12, 13] rfl (WP.bud (by omega) (by omega) (ih (k + 1) _ ⟨hL, by omega⟩ (by omega)))
          · have hcl0 : cla A k 0 < A 9 0 := ((hI.ro k (by omega)).2 0 (by omega)).1
            have hcm : x % B 1 1 < A 9 0 := by rw [← hm1]; exact Nat.mod_lt _ (by omega)
            refine r_aload_n dL_isRefused_1026 rfl 9 rfl ?_
            refine r_bipush (v := (nI 9)) dL_isRefused_1027 (by decide) ?_
            refine r_iload dL_isRefused_1029 0 rfl ?_
            refine r_iload dL_isRefused_1031 13 rfl ?_
            refine r_aload_n dL_isRefused_1033 rfl 10 rfl ?_
            refine r_iconst (v := (nI 1)) dL_isRefused_1034 (by decide) ?_
            refine n_iald dL_isRefused_1035 hL.r1 (by omega) (by decide) ?_
            refine n_irem dL_isRefused_1036 (by omega) (by omega) (by omega) ?_
            refine r_iconst (v := (nI 0)) dL_isRefused_1037 (by decide) ?_
            refine r_iconst (v := (nI 0)) dL_isRefused_1038 (by decide) ?_
            refine r_callSW (st := []) [.ref (Q 0), .int (nI 9), .int (nI k), .int (nI (x % (B 1 1))), .int (nI 0), .int (nI 0)] (180 * (A 15 0 - (k + 1)) + 2320) (3600 * (A 15 0 - (k + 1)) + 46400) dL_isRefused_1039 kL_act nL_act lRL_88 (R_put_2 hL hI hk2 hcm (by omega)) rfl rfl (Nat.le_of_ble_eq_true rfl) (by omega) (by omega) (fun _ _ h => h.elim) ?_
            refine cx_det (st2 := [.int (-1663000)]) rfl ?_
            refine r_ldc dL_isRefused_1042 con_82 ?_
            refine r_icmp_ne 1051 dL_isRefused_1044 (by decide) (fun c12 => absurd c12 (fun q => q rfl)) (fun c12 => ?_)
            refine r_iconst (v := (nI 1)) dL_isRefused_1047 (by decide) ?_
            refine r_goto 1052 dL_isRefused_1048 (by decide) ?_
            refine r_istore [(13, .int (nI 1)), (14, .int (nI k)), (11, .long (alA A)), (10, .int (nI ((B 1 3) + (x % 30)))), (9, .int (nI ((B 1 2) + (x % 30)))), (8, .int (nI ((B 1 1) + (x % 30)))), (7, .int (nI ((B 1 0) + (x % 30)))), (6, .int (nI (3 + (x % 30)))), (5, .int (nI 0)), (0, .ref (Q 0)), (1, .ref (Q 1)), (2, .ref (Q 2)), (3, .ref (Q 3)), (4, .int (nI x))] dL_isRefused_1052 (by decide) rfl ?_
            refine r_iinc (nI (k + 1)) [(14, .int (nI (k + 1))), (13, .int (nI 1)), (11, .long (alA A)), (10, .int (nI ((B 1 3) + (x % 30)))), (9, .int (nI ((B 1 2) + (x % 30)))), (8, .int (nI ((B 1 1) + (x % 30)))), (7, .int (nI ((B 1 0) + (x % 30)))), (6, .int (nI (3 + (x % 30)))), (5, .int (nI 0)), (0, .ref (Q 0)), (1, .ref (Q 1)), (2, .ref (Q 2)), (3, .ref (Q 3)), (4, .int (nI x))] dL_isRefused_1054 1 rfl (nI_add k 1) (by decide) rfl ?_
            refine r_goto 816 dL_isRefused_1057 (by decide) ?_
            exact WP.loc [0, 1, 2, 3, 4, 5, 6, 7, 8, 9, 10, 11, 12, 13] rfl (WP.bud (by omega) (by omega) (ih (k + 1) _ ⟨hL, by omega⟩ (by omega)))
      · have h18 : 0 < A 18 0 := by omega
        refine r_aload_n dL_isRefused_892 rfl 9 rfl ?_
        refine r_bipush (v := (nI 13)) dL_isRefused_893 (by decide) ?_
        refine r_iload dL_isRefused_895 0 rfl ?_
        refine r_iconst (v := (nI 0)) dL_isRefused_897 (by decide) ?_
        refine r_iload dL_isRefused_898 7 rfl ?_
        refine r_bipush (v := (nI 9)) dL_isRefused_900 (by decide) ?_
        refine r_callSW (st := []) [.ref (Q 0), .int (nI 13), .int (nI k), .int (nI 0), .int (nI (3 + (x % 30))), .int (nI 9)] (180 * (A 15 0 - (k + 1)) + 2340) (3600 * (A 15 0 - (k + 1)) + 46800) dL_isRefused_902 kL_act nL_act lRL_88 (R_faultOf_1d hL hI hk2 (t := 0) h18 (inB_ge (by omega) (by omega))) rfl rfl (Nat.le_of_ble_eq_true rfl) (by omega) (by omega) (fun _ _ h => h.elim) ?_
        refine cx_det (st2 := [.int (-1661000)]) rfl ?_
        refine r_ldc dL_isRefused_905 con_76 ?_
        refine r_icmp_ne 1051 dL_isRefused_907 (by decide) (fun c13 => absurd c13 (fun q => q rfl)) (fun c13 => ?_)
        refine r_aload_n dL_isRefused_910 rfl 9 rfl ?_
        refine r_bipush (v := (nI 13)) dL_isRefused_911 (by decide) ?_
        refine r_iload dL_isRefused_913 0 rfl ?_
        refine r_iconst (v := (nI 0)) dL_isRefused_915 (by decide) ?_
        refine r_iconst (v := (nI 0)) dL_isRefused_916 (by decide) ?_
        refine r_iload dL_isRefused_917 8 rfl ?_
        refine n_if_eq 926 dL_isRefused_919 (by decide) (by omega) (fun c14 => ?_) (fun c14 => absurd c14 (by decide))
        refine r_iconst (v := (nI 4)) dL_isRefused_926 (by decide) ?_
        refine r_iload dL_isRefused_927 13 rfl ?_
        refine r_bipush (v := (nI 30)) dL_isRefused_929 (by decide) ?_
        refine n_irem dL_isRefused_931 (by omega) (by omega) (by omega) ?_
        refine n_iadd dL_isRefused_932 ?_
        refine r_callSW (st := []) [.ref (Q 0), .int (nI 13), .int (nI k), .int (nI 0), .int (nI 0), .int (nI (4 + (x % 30)))] (180 * (A 15 0 - (k + 1)) + 2320) (3600 * (A 15 0 - (k + 1)) + 46400) dL_isRefused_933 kL_act nL_act lRL_88 (R_faultOf_2 hL hI hk2 (t := 0) h18 (g := 0) (by decide) (inB_ge (by omega) (by omega))) rfl rfl (Nat.le_of_ble_eq_true rfl) (by omega) (by omega) (fun _ _ h => h.elim) ?_
        refine cx_det (st2 := [.int (-1662000)]) rfl ?_
        refine r_ldc dL_isRefused_936 con_79 ?_
        refine r_icmp_ne 1051 dL_isRefused_938 (by decide) (fun c15 => absurd c15 (fun q => q rfl)) (fun c15 => ?_)
        refine r_aload_n dL_isRefused_941 rfl 9 rfl ?_
        refine r_bipush (v := (nI 14)) dL_isRefused_942 (by decide) ?_
        refine r_iload dL_isRefused_944 0 rfl ?_
        refine r_iconst (v := (nI 0)) dL_isRefused_946 (by decide) ?_
        refine r_iconst (v := (nI 0)) dL_isRefused_947 (by decide) ?_
        refine r_iconst (v := (-1)) dL_isRefused_948 (by decide) ?_
        refine r_iload dL_isRefused_949 13 rfl ?_
        refine r_bipush (v := (nI 30)) dL_isRefused_951 (by decide) ?_
        refine n_irem dL_isRefused_953 (by omega) (by omega) (by omega) ?_
        refine r_isub dL_isRefused_954 ?_
        refine r_callSW (st := []) [.ref (Q 0), .int (nI 14), .int (nI k), .int (nI 0), .int (nI 0), .int ((-1) - (nI (x % 30)))] (180 * (A 15 0 - (k + 1)) + 2300) (3600 * (A 15 0 - (k + 1)) + 46000) dL_isRefused_955 kL_act nL_act lRL_88 (R_sign_1e hL hI hk2 (t := 0) h18 (g := 0) (by decide) hlo1) rfl rfl (Nat.le_of_ble_eq_true rfl) (by omega) (by omega) (fun _ _ h => h.elim) ?_
        refine cx_det (st2 := [.int (-1661000)]) rfl ?_
        refine r_ldc dL_isRefused_958 con_76 ?_
        refine r_icmp_ne 1051 dL_isRefused_960 (by decide) (fun c16 => absurd c16 (fun q => q rfl)) (fun c16 => ?_)
        refine r_aload_n dL_isRefused_963 rfl 9 rfl ?_
        refine r_bipush (v := (nI 16)) dL_isRefused_964 (by decide) ?_
        refine r_iload dL_isRefused_966 0 rfl ?_
        refine r_iconst (v := (nI 0)) dL_isRefused_968 (by decide) ?_
        refine r_iload dL_isRefused_969 7 rfl ?_
        refine r_iconst (v := (nI 0)) dL_isRefused_971 (by decide) ?_
        refine r_callSW (st := []) [.ref (Q 0), .int (nI 16), .int (nI k), .int (nI 0), .int (nI (3 + (x % 30))), .int (nI 0)] (180 * (A 15 0 - (k + 1)) + 2280) (3600 * (A 15 0 - (k + 1)) + 45600) dL_isRefused_972 kL_act nL_act lRL_88 (R_costs_1d hL hI hk2 (t := 0) h18 (inB_ge (by omega) (by omega))) rfl rfl (Nat.le_of_ble_eq_true rfl) (by omega) (by omega) (fun _ _ h => h.elim) ?_
        refine cx_det (st2 := [.int (-1661000)]) rfl ?_
        refine r_ldc dL_isRefused_975 con_76 ?_
        refine r_icmp_ne 1051 dL_isRefused_977 (by decide) (fun c17 => absurd c17 (fun q => q rfl)) (fun c17 => ?_)
        refine r_aload_n dL_isRefused_980 rfl 12 rfl ?_
        refine r_bipush (v := (nI 7)) dL_isRefused_981 (by decide) ?_
        refine r_iload dL_isRefused_983 0 rfl ?_
        refine n_imul dL_isRefused_985 ?_
        refine n_iald dL_isRefused_986 hL.r3 (by omega) (by decide) ?_
        refine n_if_eq 1014 dL_isRefused_987 (by decide) (by omega) (fun c987 => ?_) (fun c987 => ?_)
        · refine r_aload_n dL_isRefused_1014 rfl 12 rfl ?_
          refine r_bipush (v := (nI 7)) dL_isRefused_1015 (by decide) ?_
          refine r_iload dL_isRefused_1017 0 rfl ?_
          refine n_imul dL_isRefused_1019 ?_
          refine n_iald dL_isRefused_1020 hL.r3 (by omega) (by decide) ?_
          refine r_bipush (v := (nI 6)) dL_isRefused_1021 (by decide) ?_
          refine n_icmp_lt 1047 dL_isRefused_1023 (by decide) (by omega) (by omega) (fun c1023 => ?_) (fun c1023 => ?_)
          · refine r_iconst (v := (nI 1)) dL_isRefused_1047 (by decide) ?_
            refine r_goto 1052 dL_isRefused_1048 (by decide) ?_
            refine r_istore [(13, .int (nI 1)), (14, .int (nI k)), (11, .long (alA A)), (10, .int (nI ((B 1 3) + (x % 30)))), (9, .int (nI ((B 1 2) + (x % 30)))), (8, .int (nI ((B 1 1) + (x % 30)))), (7, .int (nI ((B 1 0) + (x % 30)))), (6, .int (nI (3 + (x % 30)))), (5, .int (nI 0)), (0, .ref (Q 0)), (1, .ref (Q 1)), (2, .ref (Q 2)), (3, .ref (Q 3)), (4, .int (nI x))] dL_isRefused_1052 (by decide) rfl ?_
            refine r_iinc (nI (k + 1)) [(14, .int (nI (k + 1))), (13, .int (nI 1)), (11, .long (alA A)), (10, .int (nI ((B 1 3) + (x % 30)))), (9, .int (nI ((B 1 2) + (x % 30)))), (8, .int (nI ((B 1 1) + (x % 30)))), (7, .int (nI ((B 1 0) + (x % 30)))), (6, .int (nI (3 + (x % 30)))), (5, .int (nI 0)), (0, .ref (Q 0)), (1, .ref (Q 1)), (2, .ref (Q 2)), (3, .ref (Q 3)), (4, .int (nI x))] dL_isRefused_1054 1 rfl (nI_add k 1) (by decide) rfl ?_
            refine r_goto 816 dL_isRefused_1057 (by decide) ?_
            exact WP.loc [0, 1, 2, 3, 4, 5, 6, 7, 8, 9, 10, 11, 12, 13] rfl (WP.bud (by omega) (by omega) (ih (k + 1) _ ⟨hL, by omega⟩ (by omega)))
          · have hcl0 : cla A k 0 < A 9 0 := ((hI.ro k (by omega)).2 0 (by omega)).1
            have hcm : x % B 1 1 < A 9 0 := by rw [← hm1]; exact Nat.mod_lt _ (by omega)
            refine r_aload_n dL_isRefused_1026 rfl 9 rfl ?_
            refine r_bipush (v := (nI 9)) dL_isRefused_1027 (by decide) ?_
            refine r_iload dL_isRefused_1029 0 rfl ?_
            refine r_iload dL_isRefused_1031 13 rfl ?_
            refine r_aload_n dL_isRefused_1033 rfl 10 rfl ?_
            refine r_iconst (v := (nI 1)) dL_isRefused_1034 (by decide) ?_
            refine n_iald dL_isRefused_1035 hL.r1 (by omega) (by decide) ?_
            refine n_irem dL_isRefused_1036 (by omega) (by omega) (by omega) ?_
            refine r_iconst (v := (nI 0)) dL_isRefused_1037 (by decide) ?_
            refine r_iconst (v := (nI 0)) dL_isRefused_1038 (by decide) ?_
            refine r_callSW (st := []) [.ref (Q 0), .int (nI 9), .int (nI k), .int (nI (x % (B 1 1))), .int (nI 0), .int (nI 0)] (180 * (A 15 0 - (k + 1)) + 2260) (3600 * (A 15 0 - (k + 1)) + 45200) dL_isRefused_1039 kL_act nL_act lRL_88 (R_put_2 hL hI hk2 hcm (by omega)) rfl rfl (Nat.le_of_ble_eq_true rfl) (by omega) (by omega) (fun _ _ h => h.elim) ?_
            refine cx_det (st2 := [.int (-1663000)]) rfl ?_
            refine r_ldc dL_isRefused_1042 con_82 ?_
            refine r_icmp_ne 1051 dL_isRefused_1044 (by decide) (fun c20 => absurd c20 (fun q => q rfl)) (fun c20 => ?_)
            refine r_iconst (v := (nI 1)) dL_isRefused_1047 (by decide) ?_
            refine r_goto 1052 dL_isRefused_1048 (by decide) ?_
            refine r_istore [(13, .int (nI 1)), (14, .int (nI k)), (11, .long (alA A)), (10, .int (nI ((B 1 3) + (x % 30)))), (9, .int (nI ((B 1 2) + (x % 30)))), (8, .int (nI ((B 1 1) + (x % 30)))), (7, .int (nI ((B 1 0) + (x % 30)))), (6, .int (nI (3 + (x % 30)))), (5, .int (nI 0)), (0, .ref (Q 0)), (1, .ref (Q 1)), (2, .ref (Q 2)), (3, .ref (Q 3)), (4, .int (nI x))] dL_isRefused_1052 (by decide) rfl ?_
            refine r_iinc (nI (k + 1)) [(14, .int (nI (k + 1))), (13, .int (nI 1)), (11, .long (alA A)), (10, .int (nI ((B 1 3) + (x % 30)))), (9, .int (nI ((B 1 2) + (x % 30)))), (8, .int (nI ((B 1 1) + (x % 30)))), (7, .int (nI ((B 1 0) + (x % 30)))), (6, .int (nI (3 + (x % 30)))), (5, .int (nI 0)), (0, .ref (Q 0)), (1, .ref (Q 1)), (2, .ref (Q 2)), (3, .ref (Q 3)), (4, .int (nI x))] dL_isRefused_1054 1 rfl (nI_add k 1) (by decide) rfl ?_
            refine r_goto 816 dL_isRefused_1057 (by decide) ?_
            exact WP.loc [0, 1, 2, 3, 4, 5, 6, 7, 8, 9, 10, 11, 12, 13] rfl (WP.bud (by omega) (by omega) (ih (k + 1) _ ⟨hL, by omega⟩ (by omega)))
        · have h17 : 0 < A 17 k := by omega
          have hl1 : B 3 (7 * k + 1) = cla A k 0 := hR.l1 (i := k) (k := 0) (by omega) h17
          have hcl : cla A k 0 < A 9 0 := ((hI.ro k (by omega)).2 0 h17).1
          have hcin : hsB (rg A 16 (6 * k) 6) (A 17 k) (nI (cla A k 0)) = true := hlB_in hq2 h17
          refine r_aload_n dL_isRefused_990 rfl 9 rfl ?_
          refine r_bipush (v := (nI 9)) dL_isRefused_991 (by decide) ?_
          refine r_iload dL_isRefused_993 0 rfl ?_
          refine r_aload_n dL_isRefused_995 rfl 12 rfl ?_
          refine r_bipush (v := (nI 7)) dL_isRefused_996 (by decide) ?_
          refine r_iload dL_isRefused_998 0 rfl ?_
          refine n_imul dL_isRefused_1000 ?_
          refine r_iconst (v := (nI 1)) dL_isRefused_1001 (by decide) ?_
          refine n_iadd dL_isRefused_1002 ?_
          refine n_iald dL_isRefused_1003 hL.r3 (by omega) (by decide) ?_
          refine r_top (nI (cla A k 0)) (by rw [hl1]) ?_
          refine r_iconst (v := (nI 0)) dL_isRefused_1004 (by decide) ?_
          refine r_iconst (v := (nI 0)) dL_isRefused_1005 (by decide) ?_
          refine r_callSW (st := []) [.ref (Q 0), .int (nI 9), .int (nI k), .int (nI (cla A k 0)), .int (nI 0), .int (nI 0)] (180 * (A 15 0 - (k + 1)) + 2260) (3600 * (A 15 0 - (k + 1)) + 45200) dL_isRefused_1006 kL_act nL_act lRL_88 (R_put_2a hL hI hk2 hcl hcin) rfl rfl (Nat.le_of_ble_eq_true rfl) (by omega) (by omega) (fun _ _ h => h.elim) ?_
          refine cx_det (st2 := [.int (-1663000)]) rfl ?_
          refine r_ldc dL_isRefused_1009 con_82 ?_
          refine r_icmp_ne 1051 dL_isRefused_1011 (by decide) (fun c21 => absurd c21 (fun q => q rfl)) (fun c21 => ?_)
          refine r_aload_n dL_isRefused_1014 rfl 12 rfl ?_
          refine r_bipush (v := (nI 7)) dL_isRefused_1015 (by decide) ?_
          refine r_iload dL_isRefused_1017 0 rfl ?_
          refine n_imul dL_isRefused_1019 ?_
          refine n_iald dL_isRefused_1020 hL.r3 (by omega) (by decide) ?_
          refine r_bipush (v := (nI 6)) dL_isRefused_1021 (by decide) ?_
          refine n_icmp_lt 1047 dL_isRefused_1023 (by decide) (by omega) (by omega) (fun c1023 => ?_) (fun c1023 => ?_)
          · refine r_iconst (v := (nI 1)) dL_isRefused_1047 (by decide) ?_
            refine r_goto 1052 dL_isRefused_1048 (by decide) ?_
            refine r_istore [(13, .int (nI 1)), (14, .int (nI k)), (11, .long (alA A)), (10, .int (nI ((B 1 3) + (x % 30)))), (9, .int (nI ((B 1 2) + (x % 30)))), (8, .int (nI ((B 1 1) + (x % 30)))), (7, .int (nI ((B 1 0) + (x % 30)))), (6, .int (nI (3 + (x % 30)))), (5, .int (nI 0)), (0, .ref (Q 0)), (1, .ref (Q 1)), (2, .ref (Q 2)), (3, .ref (Q 3)), (4, .int (nI x))] dL_isRefused_1052 (by decide) rfl ?_
            refine r_iinc (nI (k + 1)) [(14, .int (nI (k + 1))), (13, .int (nI 1)), (11, .long (alA A)), (10, .int (nI ((B 1 3) + (x % 30)))), (9, .int (nI ((B 1 2) + (x % 30)))), (8, .int (nI ((B 1 1) + (x % 30)))), (7, .int (nI ((B 1 0) + (x % 30)))), (6, .int (nI (3 + (x % 30)))), (5, .int (nI 0)), (0, .ref (Q 0)), (1, .ref (Q 1)), (2, .ref (Q 2)), (3, .ref (Q 3)), (4, .int (nI x))] dL_isRefused_1054 1 rfl (nI_add k 1) (by decide) rfl ?_
            refine r_goto 816 dL_isRefused_1057 (by decide) ?_
            exact WP.loc [0, 1, 2, 3, 4, 5, 6, 7, 8, 9, 10, 11, 12, 13] rfl (WP.bud (by omega) (by omega) (ih (k + 1) _ ⟨hL, by omega⟩ (by omega)))
          · have hcl0 : cla A k 0 < A 9 0 := ((hI.ro k (by omega)).2 0 (by omega)).1
            have hcm : x % B 1 1 < A 9 0 := by rw [← hm1]; exact Nat.mod_lt _ (by omega)
            refine r_aload_n dL_isRefused_1026 rfl 9 rfl ?_
            refine r_bipush (v := (nI 9)) dL_isRefused_1027 (by decide) ?_
            refine r_iload dL_isRefused_1029 0 rfl ?_
            refine r_iload dL_isRefused_1031 13 rfl ?_
            refine r_aload_n dL_isRefused_1033 rfl 10 rfl ?_
            refine r_iconst (v := (nI 1)) dL_isRefused_1034 (by decide) ?_
            refine n_iald dL_isRefused_1035 hL.r1 (by omega) (by decide) ?_
            refine n_irem dL_isRefused_1036 (by omega) (by omega) (by omega) ?_
            refine r_iconst (v := (nI 0)) dL_isRefused_1037 (by decide) ?_
            refine r_iconst (v := (nI 0)) dL_isRefused_1038 (by decide) ?_
            refine r_callSW (st := []) [.ref (Q 0), .int (nI 9), .int (nI k), .int (nI (x % (B 1 1))), .int (nI 0), .int (nI 0)] (180 * (A 15 0 - (k + 1)) + 2240) (3600 * (A 15 0 - (k + 1)) + 44800) dL_isRefused_1039 kL_act nL_act lRL_88 (R_put_2 hL hI hk2 hcm (by omega)) rfl rfl (Nat.le_of_ble_eq_true rfl) (by omega) (by omega) (fun _ _ h => h.elim) ?_
            refine cx_det (st2 := [.int (-1663000)]) rfl ?_
            refine r_ldc dL_isRefused_1042 con_82 ?_
            refine r_icmp_ne 1051 dL_isRefused_1044 (by decide) (fun c23 => absurd c23 (fun q => q rfl)) (fun c23 => ?_)
            refine r_iconst (v := (nI 1)) dL_isRefused_1047 (by decide) ?_
            refine r_goto 1052 dL_isRefused_1048 (by decide) ?_
            refine r_istore [(13, .int (nI 1)), (14, .int (nI k)), (11, .long (alA A)), (10, .int (nI ((B 1 3) + (x % 30)))), (9, .int (nI ((B 1 2) + (x % 30)))), (8, .int (nI ((B 1 1) + (x % 30)))), (7, .int (nI ((B 1 0) + (x % 30)))), (6, .int (nI (3 + (x % 30)))), (5, .int (nI 0)), (0, .ref (Q 0)), (1, .ref (Q 1)), (2, .ref (Q 2)), (3, .ref (Q 3)), (4, .int (nI x))] dL_isRefused_1052 (by decide) rfl ?_
            refine r_iinc (nI (k + 1)) [(14, .int (nI (k + 1))), (13, .int (nI 1)), (11, .long (alA A)), (10, .int (nI ((B 1 3) + (x % 30)))), (9, .int (nI ((B 1 2) + (x % 30)))), (8, .int (nI ((B 1 1) + (x % 30)))), (7, .int (nI ((B 1 0) + (x % 30)))), (6, .int (nI (3 + (x % 30)))), (5, .int (nI 0)), (0, .ref (Q 0)), (1, .ref (Q 1)), (2, .ref (Q 2)), (3, .ref (Q 3)), (4, .int (nI x))] dL_isRefused_1054 1 rfl (nI_add k 1) (by decide) rfl ?_
            refine r_goto 816 dL_isRefused_1057 (by decide) ?_
            exact WP.loc [0, 1, 2, 3, 4, 5, 6, 7, 8, 9, 10, 11, 12, 13] rfl (WP.bud (by omega) (by omega) (ih (k + 1) _ ⟨hL, by omega⟩ (by omega)))
set_option maxRecDepth 100000 in
set_option maxHeartbeats 4000000 in
theorem l_rf_cl_hi {d b0 : Nat} {Q : Nat → Nat} {A B : ST} (hI : Inv A) (hR : Rl A B) {x : Nat} (hx : x < 2 ^ 31) : ∀ (fu : Nat) (k : Nat) (G : GH), (LW Q A B G ∧ k ≤ A 9 0) → A 9 0 - k < fu → WP mL_isRefused (d + 11) b0 (fun r G' => r = some (.int (nI 1)) ∧ LW Q A B G') NoX G (180 * (A 9 0 - k) + 3320) (3600 * (A 9 0 - k) + 66400) 586 [(14, .int (nI k)), (13, .int (nI 1)), (11, .long (alA A)), (10, .int (nI ((B 1 3) + (x % 30)))), (9, .int (nI ((B 1 2) + (x % 30)))), (8, .int (nI ((B 1 1) + (x % 30)))), (7, .int (nI ((B 1 0) + (x % 30)))), (6, .int (nI (3 + (x % 30)))), (5, .int (nI 0)), (0, .ref (Q 0)), (1, .ref (Q 1)), (2, .ref (Q 2)), (3, .ref (Q 3)), (4, .int (nI x))] [] := by
  intro fu
  induction fu with
  | zero => intro k G hinv hn; exact absurd hn (Nat.not_lt_zero _)
  | succ fu ih =>
    intro k G hinv hn
    obtain ⟨hL, hk⟩ := hinv
    have hm0 := hR.m0
    have hm1 := hR.m1
    have hm2 := hR.m2
    have hm3 := hR.m3
    have hm4 := hR.m4
    have hn9 := hR.n9
    have hb0 := hI.b0
    have hb2 := hI.b2
    have hb15 := hI.b15
    have hb18 := hI.b18
    have hlo := lo_r (Nat.mod_lt x (show 0 < 30 by decide))
    obtain ⟨hlo1, hlo2, hlo3⟩ := hlo
    refine r_iload dL_isRefused_586 0 rfl ?_
    refine r_aload_n dL_isRefused_588 rfl 10 rfl ?_
    refine r_iconst (v := (nI 1)) dL_isRefused_589 (by decide) ?_
    refine n_iald dL_isRefused_590 hL.r1 (by omega) (by decide) ?_
    refine n_icmp_ge 813 dL_isRefused_591 (by decide) (by omega) (by omega) (fun ce => ?_) (fun ce => ?_)
    · refine r_iconst (v := (nI 0)) dL_isRefused_813 (by decide) ?_
      refine r_istore [(14, .int (nI 0)), (13, .int (nI 1)), (11, .long (alA A)), (10, .int (nI ((B 1 3) + (x % 30)))), (9, .int (nI ((B 1 2) + (x % 30)))), (8, .int (nI ((B 1 1) + (x % 30)))), (7, .int (nI ((B 1 0) + (x % 30)))), (6, .int (nI (3 + (x % 30)))), (5, .int (nI 0)), (0, .ref (Q 0)), (1, .ref (Q 1)), (2, .ref (Q 2)), (3, .ref (Q 3)), (4, .int (nI x))] dL_isRefused_814 (by decide) rfl ?_
      exact WP.loc [0, 1, 2, 3, 4, 5, 6, 7, 8, 9, 10, 11, 12, 13] rfl (WP.bud (by omega) (by omega) (l_rf_let_hi hI hR hx (A 15 0 + 1) 0 _ ⟨hL, Nat.zero_le _⟩ (by omega)))
    · have hk2 : k < A 9 0 := by omega
      have hx3 : x % 3 < 3 := Nat.mod_lt _ (by decide)
      have ec1 := hR.c1 (k := k) (g := x % 3) (by omega) hx3
      have et : (B 2 (7 * k + 1 + x % 3) = 0 ↔ A 12 (3 * k + x % 3) = 0) ∧ B 2 (7 * k + 1 + x % 3) ≤ 1 := by
        rw [ec1]; split
        · exact ⟨by simp [*], by omega⟩
        · exact ⟨by simp [*], by omega⟩
      refine WP.bud (bc' := 180 * (A 9 0 - (k + 1)) + 3500) (bs' := 3600 * (A 9 0 - (k + 1)) + 70000) (by omega) (by omega) ?_
      refine r_iload dL_isRefused_594 1 rfl ?_
      refine n_if_eq 813 dL_isRefused_596 (by decide) (by omega) (fun c2 => absurd c2 (by decide)) (fun c2 => ?_)
      refine r_aload_n dL_isRefused_599 rfl 9 rfl ?_
      refine r_iconst (v := (nI 4)) dL_isRefused_600 (by decide) ?_
      refine r_iload dL_isRefused_601 0 rfl ?_
      refine r_iload dL_isRefused_603 7 rfl ?_
      refine r_iconst (v := (nI 0)) dL_isRefused_605 (by decide) ?_
      refine r_iconst (v := (nI 0)) dL_isRefused_606 (by decide) ?_
      refine r_callSW (st := []) [.ref (Q 0), .int (nI 4), .int (nI k), .int (nI (3 + (x % 30))), .int (nI 0), .int (nI 0)] (180 * (A 9 0 - (k + 1)) + 3480) (3600 * (A 9 0 - (k + 1)) + 69600) dL_isRefused_607 kL_act nL_act lRL_88 (R_text_1 hL hI (and_f2 (inB_ge (by omega) (by omega)))) rfl rfl (Nat.le_of_ble_eq_true rfl) (by omega) (by omega) (fun _ _ h => h.elim) ?_
      refine cx_det (st2 := [.int (-1661000)]) rfl ?_
      refine r_ldc dL_isRefused_610 con_76 ?_
      refine r_icmp_ne 804 dL_isRefused_612 (by decide) (fun c3 => absurd c3 (fun q => q rfl)) (fun c3 => ?_)
      refine r_aload_n dL_isRefused_615 rfl 9 rfl ?_
      refine r_iconst (v := (nI 5)) dL_isRefused_616 (by decide) ?_
      refine r_iload dL_isRefused_617 0 rfl ?_
      refine r_iload dL_isRefused_619 7 rfl ?_
      refine r_iconst (v := (nI 0)) dL_isRefused_621 (by decide) ?_
      refine r_iconst (v := (nI 0)) dL_isRefused_622 (by decide) ?_
      refine r_callSW (st := []) [.ref (Q 0), .int (nI 5), .int (nI k), .int (nI (3 + (x % 30))), .int (nI 0), .int (nI 0)] (180 * (A 9 0 - (k + 1)) + 3460) (3600 * (A 9 0 - (k + 1)) + 69200) dL_isRefused_623 kL_act nL_act lRL_88 (R_approve_1 hL hI (and_f2 (inB_ge (by omega) (by omega)))) rfl rfl (Nat.le_of_ble_eq_true rfl) (by omega) (by omega) (fun _ _ h => h.elim) ?_
      refine cx_det (st2 := [.int (-1661000)]) rfl ?_
      refine r_ldc dL_isRefused_626 con_76 ?_
      refine r_icmp_ne 804 dL_isRefused_628 (by decide) (fun c4 => absurd c4 (fun q => q rfl)) (fun c4 => ?_)
      refine r_aload_n dL_isRefused_631 rfl 9 rfl ?_
      refine r_bipush (v := (nI 6)) dL_isRefused_632 (by decide) ?_
      refine r_iload dL_isRefused_634 0 rfl ?_
      refine r_iload dL_isRefused_636 5 rfl ?_
      refine r_bipush (v := (nI 9)) dL_isRefused_638 (by decide) ?_
      refine r_bipush (v := (nI 9)) dL_isRefused_640 (by decide) ?_
      refine r_callSW (st := []) [.ref (Q 0), .int (nI 6), .int (nI k), .int (nI ((B 1 1) + (x % 30))), .int (nI 9), .int (nI 9)] (180 * (A 9 0 - (k + 1)) + 3440) (3600 * (A 9 0 - (k + 1)) + 68800) dL_isRefused_642 kL_act nL_act lRL_88 (R_relate_1b hL hI hk2 (inB_ge (by omega) (by omega))) rfl rfl (Nat.le_of_ble_eq_true rfl) (by omega) (by omega) (fun _ _ h => h.elim) ?_
      refine cx_det (st2 := [.int (-1661000)]) rfl ?_
      refine r_ldc dL_isRefused_645 con_76 ?_
      refine r_icmp_ne 804 dL_isRefused_647 (by decide) (fun c5 => absurd c5 (fun q => q rfl)) (fun c5 => ?_)
      refine r_aload_n dL_isRefused_650 rfl 9 rfl ?_
      refine r_bipush (v := (nI 6)) dL_isRefused_651 (by decide) ?_
      refine r_iload dL_isRefused_653 0 rfl ?_
      refine r_iload dL_isRefused_655 0 rfl ?_
      refine r_iload dL_isRefused_657 13 rfl ?_
      refine r_iconst (v := (nI 4)) dL_isRefused_659 (by decide) ?_
      refine n_irem dL_isRefused_660 (by omega) (by omega) (by omega) ?_
      refine r_iconst (v := (nI 1)) dL_isRefused_661 (by decide) ?_
      refine r_callSW (st := []) [.ref (Q 0), .int (nI 6), .int (nI k), .int (nI k), .int (nI (x % 4)), .int (nI 1)] (180 * (A 9 0 - (k + 1)) + 3420) (3600 * (A 9 0 - (k + 1)) + 68400) dL_isRefused_662 kL_act nL_act lRL_88 (R_relate_2a hL hI hk2) rfl rfl (Nat.le_of_ble_eq_true rfl) (by omega) (by omega) (fun _ _ h => h.elim) ?_
      refine cx_det (st2 := [.int (-1662000)]) rfl ?_
      refine r_ldc dL_isRefused_665 con_79 ?_
      refine r_icmp_ne 804 dL_isRefused_667 (by decide) (fun c6 => absurd c6 (fun q => q rfl)) (fun c6 => ?_)
      refine r_aload_n dL_isRefused_670 rfl 10 rfl ?_
      refine r_iconst (v := (nI 1)) dL_isRefused_671 (by decide) ?_
      refine n_iald dL_isRefused_672 hL.r1 (by omega) (by decide) ?_
      refine r_iconst (v := (nI 2)) dL_isRefused_673 (by decide) ?_
      refine n_icmp_lt 739 dL_isRefused_674 (by decide) (by omega) (by omega) (fun c674 => ?_) (fun c674 => ?_)
      · refine r_aload_n dL_isRefused_739 rfl 9 rfl ?_
        obtain ⟨fshq8, hq8⟩ := hL.r0
        refine r_callV (st := []) [] (180 * (A 9 0 - (k + 1)) + 3400) (3600 * (A 9 0 - (k + 1)) + 68000) dL_isRefused_740 kX8_fault nX8_fault lRL_83 hq8 rfl (L_fault hL hI) rfl rfl (Nat.le_of_ble_eq_true rfl) (by omega) (by omega) (fun _ _ h => h.elim) ?_
        intro r G9 hr
        obtain ⟨rfl, hL10⟩ := hr
        show WP mL_isRefused _ _ _ _ _ _ _ 743 [(14, .int (nI k)), (13, .int (nI 1)), (11, .long (alA A)), (10, .int (nI ((B 1 3) + (x % 30)))), (9, .int (nI ((B 1 2) + (x % 30)))), (8, .int (nI ((B 1 1) + (x % 30)))), (7, .int (nI ((B 1 0) + (x % 30)))), (6, .int (nI (3 + (x % 30)))), (5, .int (nI 0)), (0, .ref (Q 0)), (1, .ref (Q 1)), (2, .ref (Q 2)), (3, .ref (Q 3)), (4, .int (nI x))] [.int (ffS (rg A 1 0 60) (A 0 0))]
        refine r_iconst (v := (-1)) dL_isRefused_743 (by decide) ?_
        refine r_icmp_eq 765 dL_isRefused_744 (by decide) (fun c744 => ?_) (fun c744 => ?_)
        · refine r_aload_n dL_isRefused_765 rfl 11 rfl ?_
          refine r_bipush (v := (nI 7)) dL_isRefused_766 (by decide) ?_
          refine r_iload dL_isRefused_768 0 rfl ?_
          refine n_imul dL_isRefused_770 ?_
          refine r_iconst (v := (nI 1)) dL_isRefused_771 (by decide) ?_
          refine n_iadd dL_isRefused_772 ?_
          refine r_iload dL_isRefused_773 13 rfl ?_
          refine r_iconst (v := (nI 3)) dL_isRefused_775 (by decide) ?_
          refine n_irem dL_isRefused_776 (by omega) (by omega) (by omega) ?_
          refine n_iadd dL_isRefused_777 ?_
          refine n_iald dL_isRefused_778 hL10.r2 (by omega) (by decide) ?_
          refine n_if_gt 800 dL_isRefused_779 (by decide) (by omega) (fun c779 => ?_) (fun c779 => ?_)
          · refine r_iconst (v := (nI 1)) dL_isRefused_800 (by decide) ?_
            refine r_goto 805 dL_isRefused_801 (by decide) ?_
            refine r_istore [(13, .int (nI 1)), (14, .int (nI k)), (11, .long (alA A)), (10, .int (nI ((B 1 3) + (x % 30)))), (9, .int (nI ((B 1 2) + (x % 30)))), (8, .int (nI ((B 1 1) + (x % 30)))), (7, .int (nI ((B 1 0) + (x % 30)))), (6, .int (nI (3 + (x % 30)))), (5, .int (nI 0)), (0, .ref (Q 0)), (1, .ref (Q 1)), (2, .ref (Q 2)), (3, .ref (Q 3)), (4, .int (nI x))] dL_isRefused_805 (by decide) rfl ?_
            refine r_iinc (nI (k + 1)) [(14, .int (nI (k + 1))), (13, .int (nI 1)), (11, .long (alA A)), (10, .int (nI ((B 1 3) + (x % 30)))), (9, .int (nI ((B 1 2) + (x % 30)))), (8, .int (nI ((B 1 1) + (x % 30)))), (7, .int (nI ((B 1 0) + (x % 30)))), (6, .int (nI (3 + (x % 30)))), (5, .int (nI 0)), (0, .ref (Q 0)), (1, .ref (Q 1)), (2, .ref (Q 2)), (3, .ref (Q 3)), (4, .int (nI x))] dL_isRefused_807 1 rfl (nI_add k 1) (by decide) rfl ?_
            refine r_goto 586 dL_isRefused_810 (by decide) ?_
            exact WP.loc [0, 1, 2, 3, 4, 5, 6, 7, 8, 9, 10, 11, 12, 13] rfl (WP.bud (by omega) (by omega) (ih (k + 1) _ ⟨hL10, by omega⟩ (by omega)))
          · refine r_aload_n dL_isRefused_782 rfl 9 rfl ?_
            refine r_iconst (v := (nI 5)) dL_isRefused_783 (by decide) ?_
            refine r_iload dL_isRefused_784 0 rfl ?_
            refine r_iload dL_isRefused_786 13 rfl ?_
            refine r_iconst (v := (nI 3)) dL_isRefused_788 (by decide) ?_
            refine n_irem dL_isRefused_789 (by omega) (by omega) (by omega) ?_
            refine r_iconst (v := (nI 0)) dL_isRefused_790 (by decide) ?_
            refine r_iconst (v := (nI 0)) dL_isRefused_791 (by decide) ?_
            refine r_callSW (st := []) [.ref (Q 0), .int (nI 5), .int (nI k), .int (nI (x % 3)), .int (nI 0), .int (nI 0)] (180 * (A 9 0 - (k + 1)) + 3380) (3600 * (A 9 0 - (k + 1)) + 67600) dL_isRefused_792 kL_act nL_act lRL_88 (R_approve_2 hL10 hI hk2 hx3 (by omega)) rfl rfl (Nat.le_of_ble_eq_true rfl) (by omega) (by omega) (fun _ _ h => h.elim) ?_
            refine cx_det (st2 := [.int (-1663000)]) rfl ?_
            refine r_ldc dL_isRefused_795 con_82 ?_
            refine r_icmp_ne 804 dL_isRefused_797 (by decide) (fun c13 => absurd c13 (fun q => q rfl)) (fun c13 => ?_)
            refine r_iconst (v := (nI 1)) dL_isRefused_800 (by decide) ?_
            refine r_goto 805 dL_isRefused_801 (by decide) ?_
            refine r_istore [(13, .int (nI 1)), (14, .int (nI k)), (11, .long (alA A)), (10, .int (nI ((B 1 3) + (x % 30)))), (9, .int (nI ((B 1 2) + (x % 30)))), (8, .int (nI ((B 1 1) + (x % 30)))), (7, .int (nI ((B 1 0) + (x % 30)))), (6, .int (nI (3 + (x % 30)))), (5, .int (nI 0)), (0, .ref (Q 0)), (1, .ref (Q 1)), (2, .ref (Q 2)), (3, .ref (Q 3)), (4, .int (nI x))] dL_isRefused_805 (by decide) rfl ?_
            refine r_iinc (nI (k + 1)) [(14, .int (nI (k + 1))), (13, .int (nI 1)), (11, .long (alA A)), (10, .int (nI ((B 1 3) + (x % 30)))), (9, .int (nI ((B 1 2) + (x % 30)))), (8, .int (nI ((B 1 1) + (x % 30)))), (7, .int (nI ((B 1 0) + (x % 30)))), (6, .int (nI (3 + (x % 30)))), (5, .int (nI 0)), (0, .ref (Q 0)), (1, .ref (Q 1)), (2, .ref (Q 2)), (3, .ref (Q 3)), (4, .int (nI x))] dL_isRefused_807 1 rfl (nI_add k 1) (by decide) rfl ?_
            refine r_goto 586 dL_isRefused_810 (by decide) ?_
            exact WP.loc [0, 1, 2, 3, 4, 5, 6, 7, 8, 9, 10, 11, 12, 13] rfl (WP.bud (by omega) (by omega) (ih (k + 1) _ ⟨hL10, by omega⟩ (by omega)))
        · refine r_aload_n dL_isRefused_747 rfl 9 rfl ?_
          refine r_iconst (v := (nI 4)) dL_isRefused_748 (by decide) ?_
          refine r_iload dL_isRefused_749 0 rfl ?_
          refine r_iload dL_isRefused_751 13 rfl ?_
          refine r_iconst (v := (nI 3)) dL_isRefused_753 (by decide) ?_
          refine n_irem dL_isRefused_754 (by omega) (by omega) (by omega) ?_
          refine r_iconst (v := (nI 0)) dL_isRefused_755 (by decide) ?_
          refine r_iconst (v := (nI 0)) dL_isRefused_756 (by decide) ?_
          refine r_callSW (st := []) [.ref (Q 0), .int (nI 4), .int (nI k), .int (nI (x % 3)), .int (nI 0), .int (nI 0)] (180 * (A 9 0 - (k + 1)) + 3380) (3600 * (A 9 0 - (k + 1)) + 67600) dL_isRefused_757 kL_act nL_act lRL_88 (R_text_2 hL10 hI hk2 hx3 c744) rfl rfl (Nat.le_of_ble_eq_true rfl) (by omega) (by omega) (fun _ _ h => h.elim) ?_
          refine cx_det (st2 := [.int (-1663000)]) rfl ?_
          refine r_ldc dL_isRefused_760 con_82 ?_
          refine r_icmp_ne 804 dL_isRefused_762 (by decide) (fun c14 => absurd c14 (fun q => q rfl)) (fun c14 => ?_)
          refine r_aload_n dL_isRefused_765 rfl 11 rfl ?_
          refine r_bipush (v := (nI 7)) dL_isRefused_766 (by decide) ?_
          refine r_iload dL_isRefused_768 0 rfl ?_
          refine n_imul dL_isRefused_770 ?_
          refine r_iconst (v := (nI 1)) dL_isRefused_771 (by decide) ?_
          refine n_iadd dL_isRefused_772 ?_
          refine r_iload dL_isRefused_773 13 rfl ?_
          refine r_iconst (v := (nI 3)) dL_isRefused_775 (by decide) ?_
          refine n_irem dL_isRefused_776 (by omega) (by omega) (by omega) ?_
          refine n_iadd dL_isRefused_777 ?_
          refine n_iald dL_isRefused_778 hL10.r2 (by omega) (by decide) ?_
          refine n_if_gt 800 dL_isRefused_779 (by decide) (by omega) (fun c779 => ?_) (fun c779 => ?_)
          · refine r_iconst (v := (nI 1)) dL_isRefused_800 (by decide) ?_
            refine r_goto 805 dL_isRefused_801 (by decide) ?_
            refine r_istore [(13, .int (nI 1)), (14, .int (nI k)), (11, .long (alA A)), (10, .int (nI ((B 1 3) + (x % 30)))), (9, .int (nI ((B 1 2) + (x % 30)))), (8, .int (nI ((B 1 1) + (x % 30)))), (7, .int (nI ((B 1 0) + (x % 30)))), (6, .int (nI (3 + (x % 30)))), (5, .int (nI 0)), (0, .ref (Q 0)), (1, .ref (Q 1)), (2, .ref (Q 2)), (3, .ref (Q 3)), (4, .int (nI x))] dL_isRefused_805 (by decide) rfl ?_
            refine r_iinc (nI (k + 1)) [(14, .int (nI (k + 1))), (13, .int (nI 1)), (11, .long (alA A)), (10, .int (nI ((B 1 3) + (x % 30)))), (9, .int (nI ((B 1 2) + (x % 30)))), (8, .int (nI ((B 1 1) + (x % 30)))), (7, .int (nI ((B 1 0) + (x % 30)))), (6, .int (nI (3 + (x % 30)))), (5, .int (nI 0)), (0, .ref (Q 0)), (1, .ref (Q 1)), (2, .ref (Q 2)), (3, .ref (Q 3)), (4, .int (nI x))] dL_isRefused_807 1 rfl (nI_add k 1) (by decide) rfl ?_
            refine r_goto 586 dL_isRefused_810 (by decide) ?_
            exact WP.loc [0, 1, 2, 3, 4, 5, 6, 7, 8, 9, 10, 11, 12, 13] rfl (WP.bud (by omega) (by omega) (ih (k + 1) _ ⟨hL10, by omega⟩ (by omega)))
          · refine r_aload_n dL_isRefused_782 rfl 9 rfl ?_
            refine r_iconst (v := (nI 5)) dL_isRefused_783 (by decide) ?_
            refine r_iload dL_isRefused_784 0 rfl ?_
            refine r_iload dL_isRefused_786 13 rfl ?_
            refine r_iconst (v := (nI 3)) dL_isRefused_788 (by decide) ?_
            refine n_irem dL_isRefused_789 (by omega) (by omega) (by omega) ?_
            refine r_iconst (v := (nI 0)) dL_isRefused_790 (by decide) ?_
            refine r_iconst (v := (nI 0)) dL_isRefused_791 (by decide) ?_
            refine r_callSW (st := []) [.ref (Q 0), .int (nI 5), .int (nI k), .int (nI (x % 3)), .int (nI 0), .int (nI 0)] (180 * (A 9 0 - (k + 1)) + 3360) (3600 * (A 9 0 - (k + 1)) + 67200) dL_isRefused_792 kL_act nL_act lRL_88 (R_approve_2 hL10 hI hk2 hx3 (by omega)) rfl rfl (Nat.le_of_ble_eq_true rfl) (by omega) (by omega) (fun _ _ h => h.elim) ?_
            refine cx_det (st2 := [.int (-1663000)]) rfl ?_
            refine r_ldc dL_isRefused_795 con_82 ?_
            refine r_icmp_ne 804 dL_isRefused_797 (by decide) (fun c16 => absurd c16 (fun q => q rfl)) (fun c16 => ?_)
            refine r_iconst (v := (nI 1)) dL_isRefused_800 (by decide) ?_
            refine r_goto 805 dL_isRefused_801 (by decide) ?_
            refine r_istore [(13, .int (nI 1)), (14, .int (nI k)), (11, .long (alA A)), (10, .int (nI ((B 1 3) + (x % 30)))), (9, .int (nI ((B 1 2) + (x % 30)))), (8, .int (nI ((B 1 1) + (x % 30)))), (7, .int (nI ((B 1 0) + (x % 30)))), (6, .int (nI (3 + (x % 30)))), (5, .int (nI 0)), (0, .ref (Q 0)), (1, .ref (Q 1)), (2, .ref (Q 2)), (3, .ref (Q 3)), (4, .int (nI x))] dL_isRefused_805 (by decide) rfl ?_
            refine r_iinc (nI (k + 1)) [(14, .int (nI (k + 1))), (13, .int (nI 1)), (11, .long (alA A)), (10, .int (nI ((B 1 3) + (x % 30)))), (9, .int (nI ((B 1 2) + (x % 30)))), (8, .int (nI ((B 1 1) + (x % 30)))), (7, .int (nI ((B 1 0) + (x % 30)))), (6, .int (nI (3 + (x % 30)))), (5, .int (nI 0)), (0, .ref (Q 0)), (1, .ref (Q 1)), (2, .ref (Q 2)), (3, .ref (Q 3)), (4, .int (nI x))] dL_isRefused_807 1 rfl (nI_add k 1) (by decide) rfl ?_
            refine r_goto 586 dL_isRefused_810 (by decide) ?_
            exact WP.loc [0, 1, 2, 3, 4, 5, 6, 7, 8, 9, 10, 11, 12, 13] rfl (WP.bud (by omega) (by omega) (ih (k + 1) _ ⟨hL10, by omega⟩ (by omega)))
      · have ho : (k + 1) % B 1 1 < A 9 0 := by rw [← hm1]; exact Nat.mod_lt _ (by omega)
        have hne : k ≠ (k + 1) % B 1 1 := by
          by_cases q : k + 1 < B 1 1
          · rw [Nat.mod_eq_of_lt q]; omega
          · rw [show k + 1 = B 1 1 by omega, Nat.mod_self]; omega
        refine r_aload_n dL_isRefused_677 rfl 9 rfl ?_
        refine r_bipush (v := (nI 6)) dL_isRefused_678 (by decide) ?_
        refine r_iload dL_isRefused_680 0 rfl ?_
        refine r_iload dL_isRefused_682 0 rfl ?_
        refine r_iconst (v := (nI 1)) dL_isRefused_684 (by decide) ?_
        refine n_iadd dL_isRefused_685 ?_
        refine r_aload_n dL_isRefused_686 rfl 10 rfl ?_
        refine r_iconst (v := (nI 1)) dL_isRefused_687 (by decide) ?_
        refine n_iald dL_isRefused_688 hL.r1 (by omega) (by decide) ?_
        refine n_irem dL_isRefused_689 (by omega) (by omega) (by omega) ?_
        refine r_iload dL_isRefused_690 8 rfl ?_
        refine n_if_eq 699 dL_isRefused_692 (by decide) (by omega) (fun c17 => ?_) (fun c17 => absurd c17 (by decide))
        refine r_iconst (v := (nI 4)) dL_isRefused_699 (by decide) ?_
        refine r_iload dL_isRefused_700 13 rfl ?_
        refine r_bipush (v := (nI 30)) dL_isRefused_702 (by decide) ?_
        refine n_irem dL_isRefused_704 (by omega) (by omega) (by omega) ?_
        refine n_iadd dL_isRefused_705 ?_
        refine r_iconst (v := (nI 1)) dL_isRefused_706 (by decide) ?_
        refine r_callSW (st := []) [.ref (Q 0), .int (nI 6), .int (nI k), .int (nI ((k + 1) % (B 1 1))), .int (nI (4 + (x % 30))), .int (nI 1)] (180 * (A 9 0 - (k + 1)) + 3400) (3600 * (A 9 0 - (k + 1)) + 68000) dL_isRefused_707 kL_act nL_act lRL_88 (R_relate_2b hL hI hk2 ho hne (inB_ge (by omega) (by omega))) rfl rfl (Nat.le_of_ble_eq_true rfl) (by omega) (by omega) (fun _ _ h => h.elim) ?_
        refine cx_det (st2 := [.int (-1662000)]) rfl ?_
        refine r_ldc dL_isRefused_710 con_79 ?_
        refine r_icmp_ne 804 dL_isRefused_712 (by decide) (fun c18 => absurd c18 (fun q => q rfl)) (fun c18 => ?_)
        refine r_aload_n dL_isRefused_715 rfl 9 rfl ?_
        refine r_bipush (v := (nI 6)) dL_isRefused_716 (by decide) ?_
        refine r_iload dL_isRefused_718 0 rfl ?_
        refine r_iload dL_isRefused_720 0 rfl ?_
        refine r_iconst (v := (nI 1)) dL_isRefused_722 (by decide) ?_
        refine n_iadd dL_isRefused_723 ?_
        refine r_aload_n dL_isRefused_724 rfl 10 rfl ?_
        refine r_iconst (v := (nI 1)) dL_isRefused_725 (by decide) ?_
        refine n_iald dL_isRefused_726 hL.r1 (by omega) (by decide) ?_
        refine n_irem dL_isRefused_727 (by omega) (by omega) (by omega) ?_
        refine r_iconst (v := (nI 0)) dL_isRefused_728 (by decide) ?_
        refine r_iload dL_isRefused_729 7 rfl ?_
        refine r_callSW (st := []) [.ref (Q 0), .int (nI 6), .int (nI k), .int (nI ((k + 1) % (B 1 1))), .int (nI 0), .int (nI (3 + (x % 30)))] (180 * (A 9 0 - (k + 1)) + 3380) (3600 * (A 9 0 - (k + 1)) + 67600) dL_isRefused_731 kL_act nL_act lRL_88 (R_relate_2d hL hI hk2 ho hne (k := 0) (by decide) (nI_pos (by omega)) (hi_2 (by omega))) rfl rfl (Nat.le_of_ble_eq_true rfl) (by omega) (by omega) (fun _ _ h => h.elim) ?_
        refine cx_det (st2 := [.int (-1662000)]) rfl ?_
        refine r_ldc dL_isRefused_734 con_79 ?_
        refine r_icmp_ne 804 dL_isRefused_736 (by decide) (fun c19 => absurd c19 (fun q => q rfl)) (fun c19 => ?_)
        refine r_aload_n dL_isRefused_739 rfl 9 rfl ?_
        obtain ⟨fshq20, hq20⟩ := hL.r0
        refine r_callV (st := []) [] (180 * (A 9 0 - (k + 1)) + 3360) (3600 * (A 9 0 - (k + 1)) + 67200) dL_isRefused_740 kX8_fault nX8_fault lRL_83 hq20 rfl (L_fault hL hI) rfl rfl (Nat.le_of_ble_eq_true rfl) (by omega) (by omega) (fun _ _ h => h.elim) ?_
        intro r G21 hr
        obtain ⟨rfl, hL22⟩ := hr
        show WP mL_isRefused _ _ _ _ _ _ _ 743 [(14, .int (nI k)), (13, .int (nI 1)), (11, .long (alA A)), (10, .int (nI ((B 1 3) + (x % 30)))), (9, .int (nI ((B 1 2) + (x % 30)))), (8, .int (nI ((B 1 1) + (x % 30)))), (7, .int (nI ((B 1 0) + (x % 30)))), (6, .int (nI (3 + (x % 30)))), (5, .int (nI 0)), (0, .ref (Q 0)), (1, .ref (Q 1)), (2, .ref (Q 2)), (3, .ref (Q 3)), (4, .int (nI x))] [.int (ffS (rg A 1 0 60) (A 0 0))]
        refine r_iconst (v := (-1)) dL_isRefused_743 (by decide) ?_
        refine r_icmp_eq 765 dL_isRefused_744 (by decide) (fun c744 => ?_) (fun c744 => ?_)
        · refine r_aload_n dL_isRefused_765 rfl 11 rfl ?_
          refine r_bipush (v := (nI 7)) dL_isRefused_766 (by decide) ?_
          refine r_iload dL_isRefused_768 0 rfl ?_
          refine n_imul dL_isRefused_770 ?_
          refine r_iconst (v := (nI 1)) dL_isRefused_771 (by decide) ?_
          refine n_iadd dL_isRefused_772 ?_
          refine r_iload dL_isRefused_773 13 rfl ?_
          refine r_iconst (v := (nI 3)) dL_isRefused_775 (by decide) ?_
          refine n_irem dL_isRefused_776 (by omega) (by omega) (by omega) ?_
          refine n_iadd dL_isRefused_777 ?_
          refine n_iald dL_isRefused_778 hL22.r2 (by omega) (by decide) ?_
          refine n_if_gt 800 dL_isRefused_779 (by decide) (by omega) (fun c779 => ?_) (fun c779 => ?_)
          · refine r_iconst (v := (nI 1)) dL_isRefused_800 (by decide) ?_
            refine r_goto 805 dL_isRefused_801 (by decide) ?_
            refine r_istore [(13, .int (nI 1)), (14, .int (nI k)), (11, .long (alA A)), (10, .int (nI ((B 1 3) + (x % 30)))), (9, .int (nI ((B 1 2) + (x % 30)))), (8, .int (nI ((B 1 1) + (x % 30)))), (7, .int (nI ((B 1 0) + (x % 30)))), (6, .int (nI (3 + (x % 30)))), (5, .int (nI 0)), (0, .ref (Q 0)), (1, .ref (Q 1)), (2, .ref (Q 2)), (3, .ref (Q 3)), (4, .int (nI x))] dL_isRefused_805 (by decide) rfl ?_
            refine r_iinc (nI (k + 1)) [(14, .int (nI (k + 1))), (13, .int (nI 1)), (11, .long (alA A)), (10, .int (nI ((B 1 3) + (x % 30)))), (9, .int (nI ((B 1 2) + (x % 30)))), (8, .int (nI ((B 1 1) + (x % 30)))), (7, .int (nI ((B 1 0) + (x % 30)))), (6, .int (nI (3 + (x % 30)))), (5, .int (nI 0)), (0, .ref (Q 0)), (1, .ref (Q 1)), (2, .ref (Q 2)), (3, .ref (Q 3)), (4, .int (nI x))] dL_isRefused_807 1 rfl (nI_add k 1) (by decide) rfl ?_
            refine r_goto 586 dL_isRefused_810 (by decide) ?_
            exact WP.loc [0, 1, 2, 3, 4, 5, 6, 7, 8, 9, 10, 11, 12, 13] rfl (WP.bud (by omega) (by omega) (ih (k + 1) _ ⟨hL22, by omega⟩ (by omega)))
          · refine r_aload_n dL_isRefused_782 rfl 9 rfl ?_
            refine r_iconst (v := (nI 5)) dL_isRefused_783 (by decide) ?_
            refine r_iload dL_isRefused_784 0 rfl ?_
            refine r_iload dL_isRefused_786 13 rfl ?_
            refine r_iconst (v := (nI 3)) dL_isRefused_788 (by decide) ?_
            refine n_irem dL_isRefused_789 (by omega) (by omega) (by omega) ?_
            refine r_iconst (v := (nI 0)) dL_isRefused_790 (by decide) ?_
            refine r_iconst (v := (nI 0)) dL_isRefused_791 (by decide) ?_
            refine r_callSW (st := []) [.ref (Q 0), .int (nI 5), .int (nI k), .int (nI (x % 3)), .int (nI 0), .int (nI 0)] (180 * (A 9 0 - (k + 1)) + 3340) (3600 * (A 9 0 - (k + 1)) + 66800) dL_isRefused_792 kL_act nL_act lRL_88 (R_approve_2 hL22 hI hk2 hx3 (by omega)) rfl rfl (Nat.le_of_ble_eq_true rfl) (by omega) (by omega) (fun _ _ h => h.elim) ?_
            refine cx_det (st2 := [.int (-1663000)]) rfl ?_
            refine r_ldc dL_isRefused_795 con_82 ?_
            refine r_icmp_ne 804 dL_isRefused_797 (by decide) (fun c25 => absurd c25 (fun q => q rfl)) (fun c25 => ?_)
            refine r_iconst (v := (nI 1)) dL_isRefused_800 (by decide) ?_
            refine r_goto 805 dL_isRefused_801 (by decide) ?_
            refine r_istore [(13, .int (nI 1)), (14, .int (nI k)), (11, .long (alA A)), (10, .int (nI ((B 1 3) + (x % 30)))), (9, .int (nI ((B 1 2) + (x % 30)))), (8, .int (nI ((B 1 1) + (x % 30)))), (7, .int (nI ((B 1 0) + (x % 30)))), (6, .int (nI (3 + (x % 30)))), (5, .int (nI 0)), (0, .ref (Q 0)), (1, .ref (Q 1)), (2, .ref (Q 2)), (3, .ref (Q 3)), (4, .int (nI x))] dL_isRefused_805 (by decide) rfl ?_
            refine r_iinc (nI (k + 1)) [(14, .int (nI (k + 1))), (13, .int (nI 1)), (11, .long (alA A)), (10, .int (nI ((B 1 3) + (x % 30)))), (9, .int (nI ((B 1 2) + (x % 30)))), (8, .int (nI ((B 1 1) + (x % 30)))), (7, .int (nI ((B 1 0) + (x % 30)))), (6, .int (nI (3 + (x % 30)))), (5, .int (nI 0)), (0, .ref (Q 0)), (1, .ref (Q 1)), (2, .ref (Q 2)), (3, .ref (Q 3)), (4, .int (nI x))] dL_isRefused_807 1 rfl (nI_add k 1) (by decide) rfl ?_
            refine r_goto 586 dL_isRefused_810 (by decide) ?_
            exact WP.loc [0, 1, 2, 3, 4, 5, 6, 7, 8, 9, 10, 11, 12, 13] rfl (WP.bud (by omega) (by omega) (ih (k + 1) _ ⟨hL22, by omega⟩ (by omega)))
        · refine r_aload_n dL_isRefused_747 rfl 9 rfl ?_
          refine r_iconst (v := (nI 4)) dL_isRefused_748 (by decide) ?_
          refine r_iload dL_isRefused_749 0 rfl ?_
          refine r_iload dL_isRefused_751 13 rfl ?_
          refine r_iconst (v := (nI 3)) dL_isRefused_753 (by decide) ?_
          refine n_irem dL_isRefused_754 (by omega) (by omega) (by omega) ?_
          refine r_iconst (v := (nI 0)) dL_isRefused_755 (by decide) ?_
          refine r_iconst (v := (nI 0)) dL_isRefused_756 (by decide) ?_
          refine r_callSW (st := []) [.ref (Q 0), .int (nI 4), .int (nI k), .int (nI (x % 3)), .int (nI 0), .int (nI 0)] (180 * (A 9 0 - (k + 1)) + 3340) (3600 * (A 9 0 - (k + 1)) + 66800) dL_isRefused_757 kL_act nL_act lRL_88 (R_text_2 hL22 hI hk2 hx3 c744) rfl rfl (Nat.le_of_ble_eq_true rfl) (by omega) (by omega) (fun _ _ h => h.elim) ?_
          refine cx_det (st2 := [.int (-1663000)]) rfl ?_
          refine r_ldc dL_isRefused_760 con_82 ?_
          refine r_icmp_ne 804 dL_isRefused_762 (by decide) (fun c26 => absurd c26 (fun q => q rfl)) (fun c26 => ?_)
          refine r_aload_n dL_isRefused_765 rfl 11 rfl ?_
          refine r_bipush (v := (nI 7)) dL_isRefused_766 (by decide) ?_
          refine r_iload dL_isRefused_768 0 rfl ?_
          refine n_imul dL_isRefused_770 ?_
          refine r_iconst (v := (nI 1)) dL_isRefused_771 (by decide) ?_
          refine n_iadd dL_isRefused_772 ?_
          refine r_iload dL_isRefused_773 13 rfl ?_
          refine r_iconst (v := (nI 3)) dL_isRefused_775 (by decide) ?_
          refine n_irem dL_isRefused_776 (by omega) (by omega) (by omega) ?_
          refine n_iadd dL_isRefused_777 ?_
          refine n_iald dL_isRefused_778 hL22.r2 (by omega) (by decide) ?_
          refine n_if_gt 800 dL_isRefused_779 (by decide) (by omega) (fun c779 => ?_) (fun c779 => ?_)
          · refine r_iconst (v := (nI 1)) dL_isRefused_800 (by decide) ?_
            refine r_goto 805 dL_isRefused_801 (by decide) ?_
            refine r_istore [(13, .int (nI 1)), (14, .int (nI k)), (11, .long (alA A)), (10, .int (nI ((B 1 3) + (x % 30)))), (9, .int (nI ((B 1 2) + (x % 30)))), (8, .int (nI ((B 1 1) + (x % 30)))), (7, .int (nI ((B 1 0) + (x % 30)))), (6, .int (nI (3 + (x % 30)))), (5, .int (nI 0)), (0, .ref (Q 0)), (1, .ref (Q 1)), (2, .ref (Q 2)), (3, .ref (Q 3)), (4, .int (nI x))] dL_isRefused_805 (by decide) rfl ?_
            refine r_iinc (nI (k + 1)) [(14, .int (nI (k + 1))), (13, .int (nI 1)), (11, .long (alA A)), (10, .int (nI ((B 1 3) + (x % 30)))), (9, .int (nI ((B 1 2) + (x % 30)))), (8, .int (nI ((B 1 1) + (x % 30)))), (7, .int (nI ((B 1 0) + (x % 30)))), (6, .int (nI (3 + (x % 30)))), (5, .int (nI 0)), (0, .ref (Q 0)), (1, .ref (Q 1)), (2, .ref (Q 2)), (3, .ref (Q 3)), (4, .int (nI x))] dL_isRefused_807 1 rfl (nI_add k 1) (by decide) rfl ?_
            refine r_goto 586 dL_isRefused_810 (by decide) ?_
            exact WP.loc [0, 1, 2, 3, 4, 5, 6, 7, 8, 9, 10, 11, 12, 13] rfl (WP.bud (by omega) (by omega) (ih (k + 1) _ ⟨hL22, by omega⟩ (by omega)))
          · refine r_aload_n dL_isRefused_782 rfl 9 rfl ?_
            refine r_iconst (v := (nI 5)) dL_isRefused_783 (by decide) ?_
            refine r_iload dL_isRefused_784 0 rfl ?_
            refine r_iload dL_isRefused_786 13 rfl ?_
            refine r_iconst (v := (nI 3)) dL_isRefused_788 (by decide) ?_
            refine n_irem dL_isRefused_789 (by omega) (by omega) (by omega) ?_
            refine r_iconst (v := (nI 0)) dL_isRefused_790 (by decide) ?_
            refine r_iconst (v := (nI 0)) dL_isRefused_791 (by decide) ?_
            refine r_callSW (st := []) [.ref (Q 0), .int (nI 5), .int (nI k), .int (nI (x % 3)), .int (nI 0), .int (nI 0)] (180 * (A 9 0 - (k + 1)) + 3320) (3600 * (A 9 0 - (k + 1)) + 66400) dL_isRefused_792 kL_act nL_act lRL_88 (R_approve_2 hL22 hI hk2 hx3 (by omega)) rfl rfl (Nat.le_of_ble_eq_true rfl) (by omega) (by omega) (fun _ _ h => h.elim) ?_
            refine cx_det (st2 := [.int (-1663000)]) rfl ?_
            refine r_ldc dL_isRefused_795 con_82 ?_
            refine r_icmp_ne 804 dL_isRefused_797 (by decide) (fun c28 => absurd c28 (fun q => q rfl)) (fun c28 => ?_)
            refine r_iconst (v := (nI 1)) dL_isRefused_800 (by decide) ?_
            refine r_goto 805 dL_isRefused_801 (by decide) ?_
            refine r_istore [(13, .int (nI 1)), (14, .int (nI k)), (11, .long (alA A)), (10, .int (nI ((B 1 3) + (x % 30)))), (9, .int (nI ((B 1 2) + (x % 30)))), (8, .int (nI ((B 1 1) + (x % 30)))), (7, .int (nI ((B 1 0) + (x % 30)))), (6, .int (nI (3 + (x % 30)))), (5, .int (nI 0)), (0, .ref (Q 0)), (1, .ref (Q 1)), (2, .ref (Q 2)), (3, .ref (Q 3)), (4, .int (nI x))] dL_isRefused_805 (by decide) rfl ?_
            refine r_iinc (nI (k + 1)) [(14, .int (nI (k + 1))), (13, .int (nI 1)), (11, .long (alA A)), (10, .int (nI ((B 1 3) + (x % 30)))), (9, .int (nI ((B 1 2) + (x % 30)))), (8, .int (nI ((B 1 1) + (x % 30)))), (7, .int (nI ((B 1 0) + (x % 30)))), (6, .int (nI (3 + (x % 30)))), (5, .int (nI 0)), (0, .ref (Q 0)), (1, .ref (Q 1)), (2, .ref (Q 2)), (3, .ref (Q 3)), (4, .int (nI x))] dL_isRefused_807 1 rfl (nI_add k 1) (by decide) rfl ?_
            refine r_goto 586 dL_isRefused_810 (by decide) ?_
            exact WP.loc [0, 1, 2, 3, 4, 5, 6, 7, 8, 9, 10, 11, 12, 13] rfl (WP.bud (by omega) (by omega) (ih (k + 1) _ ⟨hL22, by omega⟩ (by omega)))
set_option maxRecDepth 100000 in
set_option maxHeartbeats 4000000 in
theorem l_rf_hi {d b0 : Nat} {G : GH} {Q : Nat → Nat} {A B : ST} (hL : LW Q A B G) (hI : Inv A) (hR : Rl A B) {x : Nat} (hx : x < 2 ^ 31) : WP mL_isRefused (d + 11) b0 (fun r G' => r = some (.int (nI 1)) ∧ LW Q A B G') NoX G 7600 152000 14 [(5, .int (nI 0)), (0, .ref (Q 0)), (1, .ref (Q 1)), (2, .ref (Q 2)), (3, .ref (Q 3)), (4, .int (nI x))] [] := by
  have hm0 := hR.m0
  have hm1 := hR.m1
  have hm2 := hR.m2
  have hm3 := hR.m3
  have hm4 := hR.m4
  have hn9 := hR.n9
  have hb0 := hI.b0
  have hb2 := hI.b2
  have hb15 := hI.b15
  have hb18 := hI.b18
  have hlo := lo_r (Nat.mod_lt x (show 0 < 30 by decide))
  obtain ⟨hlo1, hlo2, hlo3⟩ := hlo
  have hx3 : x % 3 < 3 := Nat.mod_lt _ (by decide)
  refine r_iload dL_isRefused_14 0 rfl ?_
  refine n_if_eq 29 dL_isRefused_16 (by decide) (by omega) (fun c1 => ?_) (fun c1 => absurd c1 (by decide))
  refine r_iconst (v := (nI 3)) dL_isRefused_29 (by decide) ?_
  refine r_iload dL_isRefused_30 5 rfl ?_
  refine r_bipush (v := (nI 30)) dL_isRefused_32 (by decide) ?_
  refine n_irem dL_isRefused_34 (by omega) (by omega) (by omega) ?_
  refine n_iadd dL_isRefused_35 ?_
  refine r_istore [(6, .int (nI (3 + (x % 30)))), (5, .int (nI 0)), (0, .ref (Q 0)), (1, .ref (Q 1)), (2, .ref (Q 2)), (3, .ref (Q 3)), (4, .int (nI x))] dL_isRefused_36 (by decide) rfl ?_
  refine r_iload dL_isRefused_38 1 rfl ?_
  refine n_if_eq 53 dL_isRefused_40 (by decide) (by omega) (fun c2 => ?_) (fun c2 => absurd c2 (by decide))
  refine r_aload_n dL_isRefused_53 rfl 3 rfl ?_
  refine r_iconst (v := (nI 0)) dL_isRefused_54 (by decide) ?_
  refine n_iald dL_isRefused_55 hL.r1 (by omega) (by decide) ?_
  refine r_iload dL_isRefused_56 6 rfl ?_
  refine r_bipush (v := (nI 30)) dL_isRefused_58 (by decide) ?_
  refine n_irem dL_isRefused_60 (by omega) (by omega) (by omega) ?_
  refine n_iadd dL_isRefused_61 ?_
  refine r_istore [(7, .int (nI ((B 1 0) + (x % 30)))), (6, .int (nI (3 + (x % 30)))), (5, .int (nI 0)), (0, .ref (Q 0)), (1, .ref (Q 1)), (2, .ref (Q 2)), (3, .ref (Q 3)), (4, .int (nI x))] dL_isRefused_62 (by decide) rfl ?_
  refine r_iload dL_isRefused_64 2 rfl ?_
  refine n_if_eq 79 dL_isRefused_66 (by decide) (by omega) (fun c3 => ?_) (fun c3 => absurd c3 (by decide))
  refine r_aload_n dL_isRefused_79 rfl 4 rfl ?_
  refine r_iconst (v := (nI 1)) dL_isRefused_80 (by decide) ?_
  refine n_iald dL_isRefused_81 hL.r1 (by omega) (by decide) ?_
  refine r_iload dL_isRefused_82 7 rfl ?_
  refine r_bipush (v := (nI 30)) dL_isRefused_84 (by decide) ?_
  refine n_irem dL_isRefused_86 (by omega) (by omega) (by omega) ?_
  refine n_iadd dL_isRefused_87 ?_
  refine r_istore [(8, .int (nI ((B 1 1) + (x % 30)))), (7, .int (nI ((B 1 0) + (x % 30)))), (6, .int (nI (3 + (x % 30)))), (5, .int (nI 0)), (0, .ref (Q 0)), (1, .ref (Q 1)), (2, .ref (Q 2)), (3, .ref (Q 3)), (4, .int (nI x))] dL_isRefused_88 (by decide) rfl ?_
  refine r_iload dL_isRefused_90 3 rfl ?_
  refine n_if_eq 105 dL_isRefused_92 (by decide) (by omega) (fun c4 => ?_) (fun c4 => absurd c4 (by decide))
  refine r_aload_n dL_isRefused_105 rfl 5 rfl ?_
  refine r_iconst (v := (nI 2)) dL_isRefused_106 (by decide) ?_
  refine n_iald dL_isRefused_107 hL.r1 (by omega) (by decide) ?_
  refine r_iload dL_isRefused_108 8 rfl ?_
  refine r_bipush (v := (nI 30)) dL_isRefused_110 (by decide) ?_
  refine n_irem dL_isRefused_112 (by omega) (by omega) (by omega) ?_
  refine n_iadd dL_isRefused_113 ?_
  refine r_istore [(9, .int (nI ((B 1 2) + (x % 30)))), (8, .int (nI ((B 1 1) + (x % 30)))), (7, .int (nI ((B 1 0) + (x % 30)))), (6, .int (nI (3 + (x % 30)))), (5, .int (nI 0)), (0, .ref (Q 0)), (1, .ref (Q 1)), (2, .ref (Q 2)), (3, .ref (Q 3)), (4, .int (nI x))] dL_isRefused_114 (by decide) rfl ?_
  refine r_iload dL_isRefused_116 4 rfl ?_
  refine n_if_eq 131 dL_isRefused_118 (by decide) (by omega) (fun c5 => ?_) (fun c5 => absurd c5 (by decide))
  refine r_aload_n dL_isRefused_131 rfl 6 rfl ?_
  refine r_iconst (v := (nI 3)) dL_isRefused_132 (by decide) ?_
  refine n_iald dL_isRefused_133 hL.r1 (by omega) (by decide) ?_
  refine r_iload dL_isRefused_134 9 rfl ?_
  refine r_bipush (v := (nI 30)) dL_isRefused_136 (by decide) ?_
  refine n_irem dL_isRefused_138 (by omega) (by omega) (by omega) ?_
  refine n_iadd dL_isRefused_139 ?_
  refine r_istore [(10, .int (nI ((B 1 3) + (x % 30)))), (9, .int (nI ((B 1 2) + (x % 30)))), (8, .int (nI ((B 1 1) + (x % 30)))), (7, .int (nI ((B 1 0) + (x % 30)))), (6, .int (nI (3 + (x % 30)))), (5, .int (nI 0)), (0, .ref (Q 0)), (1, .ref (Q 1)), (2, .ref (Q 2)), (3, .ref (Q 3)), (4, .int (nI x))] dL_isRefused_140 (by decide) rfl ?_
  refine r_aload_n dL_isRefused_142 rfl 6 rfl ?_
  refine r_aload_n dL_isRefused_143 rfl 7 rfl ?_
  refine r_callS (st := []) [.ref (Q 0), .ref (Q 1)] 5400 108000 dL_isRefused_144 kL_all nL_all lRL_96 (l_all hL hI hR) rfl rfl (Nat.le_of_ble_eq_true rfl) (by omega) (by omega) (fun _ _ h => h.elim) ?_
  intro r G6 hr
  obtain ⟨rfl, hL7⟩ := hr
  show WP mL_isRefused _ _ _ _ _ _ _ 147 [(10, .int (nI ((B 1 3) + (x % 30)))), (9, .int (nI ((B 1 2) + (x % 30)))), (8, .int (nI ((B 1 1) + (x % 30)))), (7, .int (nI ((B 1 0) + (x % 30)))), (6, .int (nI (3 + (x % 30)))), (5, .int (nI 0)), (0, .ref (Q 0)), (1, .ref (Q 1)), (2, .ref (Q 2)), (3, .ref (Q 3)), (4, .int (nI x))] [.long (alA A)]
  refine r_lstore [(11, .long (alA A)), (10, .int (nI ((B 1 3) + (x % 30)))), (9, .int (nI ((B 1 2) + (x % 30)))), (8, .int (nI ((B 1 1) + (x % 30)))), (7, .int (nI ((B 1 0) + (x % 30)))), (6, .int (nI (3 + (x % 30)))), (5, .int (nI 0)), (0, .ref (Q 0)), (1, .ref (Q 1)), (2, .ref (Q 2)), (3, .ref (Q 3)), (4, .int (nI x))] dL_isRefused_147 (by decide) rfl ?_
  refine r_aload_n dL_isRefused_149 rfl 7 rfl ?_
  refine r_iconst (v := (nI 2)) dL_isRefused_150 (by decide) ?_
  refine r_iload dL_isRefused_151 5 rfl ?_
  refine r_iconst (v := (-1)) dL_isRefused_153 (by decide) ?_
  refine r_bipush (v := (nI 9)) dL_isRefused_154 (by decide) ?_
  refine r_iconst (v := (nI 0)) dL_isRefused_156 (by decide) ?_
  refine r_callSW (st := []) [.ref (Q 0), .int (nI 2), .int (nI (3 + (x % 30))), .int (-1), .int (nI 9), .int (nI 0)] 5380 107600 dL_isRefused_157 kL_act nL_act lRL_88 (R_form_1a hL7 hI (inB_ge (by omega) (by omega))) rfl rfl (Nat.le_of_ble_eq_true rfl) (by omega) (by omega) (fun _ _ h => h.elim) ?_
  refine cx_det (st2 := [.int (-1661000)]) rfl ?_
  refine r_ldc dL_isRefused_160 con_76 ?_
  refine r_icmp_ne 580 dL_isRefused_162 (by decide) (fun c8 => absurd c8 (fun q => q rfl)) (fun c8 => ?_)
  refine r_aload_n dL_isRefused_165 rfl 7 rfl ?_
  refine r_iconst (v := (nI 2)) dL_isRefused_166 (by decide) ?_
  refine r_iconst (v := (nI 0)) dL_isRefused_167 (by decide) ?_
  refine r_iload dL_isRefused_168 6 rfl ?_
  refine n_if_eq 184 dL_isRefused_170 (by decide) (by omega) (fun c9 => ?_) (fun c9 => absurd c9 (by decide))
  refine r_aload_n dL_isRefused_184 rfl 8 rfl ?_
  refine r_iconst (v := (nI 0)) dL_isRefused_185 (by decide) ?_
  refine n_iald dL_isRefused_186 hL7.r1 (by omega) (by decide) ?_
  refine r_iload dL_isRefused_187 11 rfl ?_
  refine r_bipush (v := (nI 30)) dL_isRefused_189 (by decide) ?_
  refine n_irem dL_isRefused_191 (by omega) (by omega) (by omega) ?_
  refine n_iadd dL_isRefused_192 ?_
  refine r_bipush (v := (nI 9)) dL_isRefused_193 (by decide) ?_
  refine r_iconst (v := (nI 0)) dL_isRefused_195 (by decide) ?_
  refine r_callSW (st := []) [.ref (Q 0), .int (nI 2), .int (nI 0), .int (nI ((B 1 0) + (x % 30))), .int (nI 9), .int (nI 0)] 5360 107200 dL_isRefused_196 kL_act nL_act lRL_88 (R_form_1b hL7 hI (l := 0) (by decide) (nI_nm (by omega)) (inB_ge (by omega) (by omega))) rfl rfl (Nat.le_of_ble_eq_true rfl) (by omega) (by omega) (fun _ _ h => h.elim) ?_
  refine cx_det (st2 := [.int (-1661000)]) rfl ?_
  refine r_ldc dL_isRefused_199 con_76 ?_
  refine r_icmp_ne 580 dL_isRefused_201 (by decide) (fun c10 => absurd c10 (fun q => q rfl)) (fun c10 => ?_)
  refine r_aload_n dL_isRefused_204 rfl 7 rfl ?_
  refine r_iconst (v := (nI 2)) dL_isRefused_205 (by decide) ?_
  refine r_iload dL_isRefused_206 11 rfl ?_
  refine r_iconst (v := (nI 3)) dL_isRefused_208 (by decide) ?_
  refine n_irem dL_isRefused_209 (by omega) (by omega) (by omega) ?_
  refine r_iconst (v := (-1)) dL_isRefused_210 (by decide) ?_
  refine r_iload dL_isRefused_211 6 rfl ?_
  refine n_if_eq 226 dL_isRefused_213 (by decide) (by omega) (fun c11 => ?_) (fun c11 => absurd c11 (by decide))
  refine r_bipush (v := (nI 8)) dL_isRefused_226 (by decide) ?_
  refine r_iconst (v := (nI 0)) dL_isRefused_228 (by decide) ?_
  refine r_callSW (st := []) [.ref (Q 0), .int (nI 2), .int (nI (x % 3)), .int (-1), .int (nI 8), .int (nI 0)] 5340 106800 dL_isRefused_229 kL_act nL_act lRL_88 (R_form_2a hL7 hI hx3 (inB_ge (k := 8) (by decide) (by decide))) rfl rfl (Nat.le_of_ble_eq_true rfl) (by omega) (by omega) (fun _ _ h => h.elim) ?_
  refine cx_det (st2 := [.int (-1662000)]) rfl ?_
  refine r_ldc dL_isRefused_232 con_79 ?_
  refine r_icmp_ne 580 dL_isRefused_234 (by decide) (fun c12 => absurd c12 (fun q => q rfl)) (fun c12 => ?_)
  refine r_aload_n dL_isRefused_237 rfl 7 rfl ?_
  refine r_iconst (v := (nI 3)) dL_isRefused_238 (by decide) ?_
  refine r_iload dL_isRefused_239 6 rfl ?_
  refine n_if_eq 255 dL_isRefused_241 (by decide) (by omega) (fun c13 => ?_) (fun c13 => absurd c13 (by decide))
  refine r_bipush (v := (nI 8)) dL_isRefused_255 (by decide) ?_
  refine r_iconst (v := (nI 0)) dL_isRefused_257 (by decide) ?_
  refine r_iconst (v := (nI 0)) dL_isRefused_258 (by decide) ?_
  refine r_iconst (v := (nI 0)) dL_isRefused_259 (by decide) ?_
  refine r_callSW (st := []) [.ref (Q 0), .int (nI 3), .int (nI 8), .int (nI 0), .int (nI 0), .int (nI 0)] 5320 106400 dL_isRefused_260 kL_act nL_act lRL_88 (R_clause hL7 hI (nI_nm (k := 8) (by decide)) (inB_ge (k := 8) (by decide) (by decide))) rfl rfl (Nat.le_of_ble_eq_true rfl) (by omega) (by omega) (fun _ _ h => h.elim) ?_
  refine cx_det (st2 := [.int (-1662000)]) rfl ?_
  refine r_ldc dL_isRefused_263 con_79 ?_
  refine r_icmp_ne 580 dL_isRefused_265 (by decide) (fun c14 => absurd c14 (fun q => q rfl)) (fun c14 => ?_)
  refine r_aload_n dL_isRefused_268 rfl 7 rfl ?_
  refine r_iconst (v := (nI 4)) dL_isRefused_269 (by decide) ?_
  refine r_iload dL_isRefused_270 3 rfl ?_
  refine r_iconst (v := (nI 0)) dL_isRefused_272 (by decide) ?_
  refine r_iconst (v := (nI 0)) dL_isRefused_273 (by decide) ?_
  refine r_iconst (v := (nI 0)) dL_isRefused_274 (by decide) ?_
  refine r_callSW (st := []) [.ref (Q 0), .int (nI 4), .int (nI ((B 1 1) + (x % 30))), .int (nI 0), .int (nI 0), .int (nI 0)] 5300 106000 dL_isRefused_275 kL_act nL_act lRL_88 (R_text_1 hL7 hI (and_f1 (inB_ge (by omega) (by omega)))) rfl rfl (Nat.le_of_ble_eq_true rfl) (by omega) (by omega) (fun _ _ h => h.elim) ?_
  refine cx_det (st2 := [.int (-1661000)]) rfl ?_
  refine r_ldc dL_isRefused_278 con_76 ?_
  refine r_icmp_ne 580 dL_isRefused_280 (by decide) (fun c15 => absurd c15 (fun q => q rfl)) (fun c15 => ?_)
  refine r_aload_n dL_isRefused_283 rfl 7 rfl ?_
  refine r_iconst (v := (nI 5)) dL_isRefused_284 (by decide) ?_
  refine r_iload dL_isRefused_285 3 rfl ?_
  refine r_iconst (v := (nI 0)) dL_isRefused_287 (by decide) ?_
  refine r_iconst (v := (nI 0)) dL_isRefused_288 (by decide) ?_
  refine r_iconst (v := (nI 0)) dL_isRefused_289 (by decide) ?_
  refine r_callSW (st := []) [.ref (Q 0), .int (nI 5), .int (nI ((B 1 1) + (x % 30))), .int (nI 0), .int (nI 0), .int (nI 0)] 5280 105600 dL_isRefused_290 kL_act nL_act lRL_88 (R_approve_1 hL7 hI (and_f1 (inB_ge (by omega) (by omega)))) rfl rfl (Nat.le_of_ble_eq_true rfl) (by omega) (by omega) (fun _ _ h => h.elim) ?_
  refine cx_det (st2 := [.int (-1661000)]) rfl ?_
  refine r_ldc dL_isRefused_293 con_76 ?_
  refine r_icmp_ne 580 dL_isRefused_295 (by decide) (fun c16 => absurd c16 (fun q => q rfl)) (fun c16 => ?_)
  refine r_aload_n dL_isRefused_298 rfl 7 rfl ?_
  refine r_bipush (v := (nI 6)) dL_isRefused_299 (by decide) ?_
  refine r_iload dL_isRefused_301 3 rfl ?_
  refine r_iload dL_isRefused_303 3 rfl ?_
  refine r_bipush (v := (nI 9)) dL_isRefused_305 (by decide) ?_
  refine r_bipush (v := (nI 9)) dL_isRefused_307 (by decide) ?_
  refine r_callSW (st := []) [.ref (Q 0), .int (nI 6), .int (nI ((B 1 1) + (x % 30))), .int (nI ((B 1 1) + (x % 30))), .int (nI 9), .int (nI 9)] 5260 105200 dL_isRefused_309 kL_act nL_act lRL_88 (R_relate_1a hL7 hI (inB_ge (by omega) (by omega))) rfl rfl (Nat.le_of_ble_eq_true rfl) (by omega) (by omega) (fun _ _ h => h.elim) ?_
  refine cx_det (st2 := [.int (-1661000)]) rfl ?_
  refine r_ldc dL_isRefused_312 con_76 ?_
  refine r_icmp_ne 580 dL_isRefused_314 (by decide) (fun c17 => absurd c17 (fun q => q rfl)) (fun c17 => ?_)
  refine r_aload_n dL_isRefused_317 rfl 7 rfl ?_
  refine r_bipush (v := (nI 7)) dL_isRefused_318 (by decide) ?_
  refine r_iload dL_isRefused_320 3 rfl ?_
  refine r_iconst (v := (nI 0)) dL_isRefused_322 (by decide) ?_
  refine r_iconst (v := (nI 0)) dL_isRefused_323 (by decide) ?_
  refine r_iconst (v := (nI 0)) dL_isRefused_324 (by decide) ?_
  refine r_callSW (st := []) [.ref (Q 0), .int (nI 7), .int (nI ((B 1 1) + (x % 30))), .int (nI 0), .int (nI 0), .int (nI 0)] 5240 104800 dL_isRefused_325 kL_act nL_act lRL_88 (R_isLinked hL7 hI (inB_ge (by omega) (by omega))) rfl rfl (Nat.le_of_ble_eq_true rfl) (by omega) (by omega) (fun _ _ h => h.elim) ?_
  refine cx_det (st2 := [.int (-1661000)]) rfl ?_
  refine r_ldc dL_isRefused_328 con_76 ?_
  refine r_icmp_ne 580 dL_isRefused_330 (by decide) (fun c18 => absurd c18 (fun q => q rfl)) (fun c18 => ?_)
  refine r_aload_n dL_isRefused_333 rfl 7 rfl ?_
  refine r_bipush (v := (nI 9)) dL_isRefused_334 (by decide) ?_
  refine r_iload dL_isRefused_336 2 rfl ?_
  refine r_iconst (v := (nI 0)) dL_isRefused_338 (by decide) ?_
  refine r_iconst (v := (nI 0)) dL_isRefused_339 (by decide) ?_
  refine r_iconst (v := (nI 0)) dL_isRefused_340 (by decide) ?_
  refine r_callSW (st := []) [.ref (Q 0), .int (nI 9), .int (nI ((B 1 2) + (x % 30))), .int (nI 0), .int (nI 0), .int (nI 0)] 5220 104400 dL_isRefused_341 kL_act nL_act lRL_88 (R_put_1a hL7 hI (inB_ge (by omega) (by omega))) rfl rfl (Nat.le_of_ble_eq_true rfl) (by omega) (by omega) (fun _ _ h => h.elim) ?_
  refine cx_det (st2 := [.int (-1661000)]) rfl ?_
  refine r_ldc dL_isRefused_344 con_76 ?_
  refine r_icmp_ne 580 dL_isRefused_346 (by decide) (fun c19 => absurd c19 (fun q => q rfl)) (fun c19 => ?_)
  refine r_aload_n dL_isRefused_349 rfl 7 rfl ?_
  refine r_bipush (v := (nI 10)) dL_isRefused_350 (by decide) ?_
  refine r_iload dL_isRefused_352 4 rfl ?_
  refine r_sipush (v := (nI 999)) dL_isRefused_354 (by decide) ?_
  refine r_iconst (v := (nI 0)) dL_isRefused_357 (by decide) ?_
  refine r_iconst (v := (nI 0)) dL_isRefused_358 (by decide) ?_
  refine r_callSW (st := []) [.ref (Q 0), .int (nI 10), .int (nI ((B 1 0) + (x % 30))), .int (nI 999), .int (nI 0), .int (nI 0)] 5200 104000 dL_isRefused_359 kL_act nL_act lRL_88 (R_data_1 hL7 hI (inB_ge (by omega) (by omega))) rfl rfl (Nat.le_of_ble_eq_true rfl) (by omega) (by omega) (fun _ _ h => h.elim) ?_
  refine cx_det (st2 := [.int (-1661000)]) rfl ?_
  refine r_ldc dL_isRefused_362 con_76 ?_
  refine r_icmp_ne 580 dL_isRefused_364 (by decide) (fun c20 => absurd c20 (fun q => q rfl)) (fun c20 => ?_)
  refine r_aload_n dL_isRefused_367 rfl 7 rfl ?_
  refine r_bipush (v := (nI 11)) dL_isRefused_368 (by decide) ?_
  refine r_iload dL_isRefused_370 1 rfl ?_
  refine r_iconst (v := (nI 0)) dL_isRefused_372 (by decide) ?_
  refine r_iconst (v := (nI 0)) dL_isRefused_373 (by decide) ?_
  refine r_iconst (v := (nI 0)) dL_isRefused_374 (by decide) ?_
  refine r_callSW (st := []) [.ref (Q 0), .int (nI 11), .int (nI ((B 1 3) + (x % 30))), .int (nI 0), .int (nI 0), .int (nI 0)] 5180 103600 dL_isRefused_375 kL_act nL_act lRL_88 (R_fill hL7 hI (inB_ge (by omega) (by omega))) rfl rfl (Nat.le_of_ble_eq_true rfl) (by omega) (by omega) (fun _ _ h => h.elim) ?_
  refine cx_det (st2 := [.int (-1661000)]) rfl ?_
  refine r_ldc dL_isRefused_378 con_76 ?_
  refine r_icmp_ne 580 dL_isRefused_380 (by decide) (fun c21 => absurd c21 (fun q => q rfl)) (fun c21 => ?_)
  refine r_aload_n dL_isRefused_383 rfl 7 rfl ?_
  refine r_bipush (v := (nI 12)) dL_isRefused_384 (by decide) ?_
  refine r_iload dL_isRefused_386 5 rfl ?_
  refine r_sipush (v := (nI 9999)) dL_isRefused_388 (by decide) ?_
  refine r_iconst (v := (nI 0)) dL_isRefused_391 (by decide) ?_
  refine r_iconst (v := (nI 0)) dL_isRefused_392 (by decide) ?_
  refine r_callSW (st := []) [.ref (Q 0), .int (nI 12), .int (nI (3 + (x % 30))), .int (nI 9999), .int (nI 0), .int (nI 0)] 5160 103200 dL_isRefused_393 kL_act nL_act lRL_88 (R_price_1 hL7 hI (inB_ge (by omega) (by omega))) rfl rfl (Nat.le_of_ble_eq_true rfl) (by omega) (by omega) (fun _ _ h => h.elim) ?_
  refine cx_det (st2 := [.int (-1661000)]) rfl ?_
  refine r_ldc dL_isRefused_396 con_76 ?_
  refine r_icmp_ne 580 dL_isRefused_398 (by decide) (fun c22 => absurd c22 (fun q => q rfl)) (fun c22 => ?_)
  refine r_aload_n dL_isRefused_401 rfl 7 rfl ?_
  refine r_bipush (v := (nI 12)) dL_isRefused_402 (by decide) ?_
  refine r_iload dL_isRefused_404 11 rfl ?_
  refine r_iconst (v := (nI 3)) dL_isRefused_406 (by decide) ?_
  refine n_irem dL_isRefused_407 (by omega) (by omega) (by omega) ?_
  refine r_iload dL_isRefused_408 6 rfl ?_
  refine n_if_eq 423 dL_isRefused_410 (by decide) (by omega) (fun c23 => ?_) (fun c23 => absurd c23 (by decide))
  refine r_sipush (v := (nI 1001)) dL_isRefused_423 (by decide) ?_
  refine r_iconst (v := (nI 0)) dL_isRefused_426 (by decide) ?_
  refine r_iconst (v := (nI 0)) dL_isRefused_427 (by decide) ?_
  refine r_callSW (st := []) [.ref (Q 0), .int (nI 12), .int (nI (x % 3)), .int (nI 1001), .int (nI 0), .int (nI 0)] 5140 102800 dL_isRefused_428 kL_act nL_act lRL_88 (R_price_2b hL7 hI hx3 (show ¬ nI 1001 < 0 by decide) (show ¬ nI 1001 ≤ 1000 by decide)) rfl rfl (Nat.le_of_ble_eq_true rfl) (by omega) (by omega) (fun _ _ h => h.elim) ?_
  refine cx_det (st2 := [.int (-1662000)]) rfl ?_
  refine r_ldc dL_isRefused_431 con_79 ?_
  refine r_icmp_ne 580 dL_isRefused_433 (by decide) (fun c24 => absurd c24 (fun q => q rfl)) (fun c24 => ?_)
  refine r_aload_n dL_isRefused_436 rfl 7 rfl ?_
  refine r_bipush (v := (nI 13)) dL_isRefused_437 (by decide) ?_
  refine r_iload dL_isRefused_439 2 rfl ?_
  refine r_iconst (v := (nI 0)) dL_isRefused_441 (by decide) ?_
  refine r_iconst (v := (nI 0)) dL_isRefused_442 (by decide) ?_
  refine r_bipush (v := (nI 9)) dL_isRefused_443 (by decide) ?_
  refine r_callSW (st := []) [.ref (Q 0), .int (nI 13), .int (nI ((B 1 2) + (x % 30))), .int (nI 0), .int (nI 0), .int (nI 9)] 5120 102400 dL_isRefused_445 kL_act nL_act lRL_88 (R_faultOf hL7 hI (inB_ge (by omega) (by omega))) rfl rfl (Nat.le_of_ble_eq_true rfl) (by omega) (by omega) (fun _ _ h => h.elim) ?_
  refine cx_det (st2 := [.int (-1661000)]) rfl ?_
  refine r_ldc dL_isRefused_448 con_76 ?_
  refine r_icmp_ne 580 dL_isRefused_450 (by decide) (fun c25 => absurd c25 (fun q => q rfl)) (fun c25 => ?_)
  refine r_aload_n dL_isRefused_453 rfl 7 rfl ?_
  refine r_bipush (v := (nI 14)) dL_isRefused_454 (by decide) ?_
  refine r_iload dL_isRefused_456 2 rfl ?_
  refine r_iconst (v := (nI 0)) dL_isRefused_458 (by decide) ?_
  refine r_iconst (v := (nI 0)) dL_isRefused_459 (by decide) ?_
  refine r_iconst (v := (nI 0)) dL_isRefused_460 (by decide) ?_
  refine r_callSW (st := []) [.ref (Q 0), .int (nI 14), .int (nI ((B 1 2) + (x % 30))), .int (nI 0), .int (nI 0), .int (nI 0)] 5100 102000 dL_isRefused_461 kL_act nL_act lRL_88 (R_sign hL7 hI (inB_ge (by omega) (by omega))) rfl rfl (Nat.le_of_ble_eq_true rfl) (by omega) (by omega) (fun _ _ h => h.elim) ?_
  refine cx_det (st2 := [.int (-1661000)]) rfl ?_
  refine r_ldc dL_isRefused_464 con_76 ?_
  refine r_icmp_ne 580 dL_isRefused_466 (by decide) (fun c26 => absurd c26 (fun q => q rfl)) (fun c26 => ?_)
  refine r_aload_n dL_isRefused_469 rfl 7 rfl ?_
  refine r_bipush (v := (nI 15)) dL_isRefused_470 (by decide) ?_
  refine r_iload dL_isRefused_472 2 rfl ?_
  refine r_iconst (v := (nI 0)) dL_isRefused_474 (by decide) ?_
  refine r_iconst (v := (nI 0)) dL_isRefused_475 (by decide) ?_
  refine r_iconst (v := (nI 0)) dL_isRefused_476 (by decide) ?_
  refine r_callSW (st := []) [.ref (Q 0), .int (nI 15), .int (nI ((B 1 2) + (x % 30))), .int (nI 0), .int (nI 0), .int (nI 0)] 5080 101600 dL_isRefused_477 kL_act nL_act lRL_88 (R_signAnew hL7 hI (inB_ge (by omega) (by omega))) rfl rfl (Nat.le_of_ble_eq_true rfl) (by omega) (by omega) (fun _ _ h => h.elim) ?_
  refine cx_det (st2 := [.int (-1661000)]) rfl ?_
  refine r_ldc dL_isRefused_480 con_76 ?_
  refine r_icmp_ne 580 dL_isRefused_482 (by decide) (fun c27 => absurd c27 (fun q => q rfl)) (fun c27 => ?_)
  refine r_aload_n dL_isRefused_485 rfl 7 rfl ?_
  refine r_bipush (v := (nI 16)) dL_isRefused_486 (by decide) ?_
  refine r_iload dL_isRefused_488 2 rfl ?_
  refine r_iconst (v := (nI 0)) dL_isRefused_490 (by decide) ?_
  refine r_iconst (v := (nI 0)) dL_isRefused_491 (by decide) ?_
  refine r_iconst (v := (nI 0)) dL_isRefused_492 (by decide) ?_
  refine r_callSW (st := []) [.ref (Q 0), .int (nI 16), .int (nI ((B 1 2) + (x % 30))), .int (nI 0), .int (nI 0), .int (nI 0)] 5060 101200 dL_isRefused_493 kL_act nL_act lRL_88 (R_costs hL7 hI (inB_ge (by omega) (by omega))) rfl rfl (Nat.le_of_ble_eq_true rfl) (by omega) (by omega) (fun _ _ h => h.elim) ?_
  refine cx_det (st2 := [.int (-1661000)]) rfl ?_
  refine r_ldc dL_isRefused_496 con_76 ?_
  refine r_icmp_ne 580 dL_isRefused_498 (by decide) (fun c28 => absurd c28 (fun q => q rfl)) (fun c28 => ?_)
  refine r_aload_n dL_isRefused_501 rfl 7 rfl ?_
  refine r_bipush (v := (nI 17)) dL_isRefused_502 (by decide) ?_
  refine r_iload dL_isRefused_504 2 rfl ?_
  refine r_iconst (v := (nI 0)) dL_isRefused_506 (by decide) ?_
  refine r_iconst (v := (nI 0)) dL_isRefused_507 (by decide) ?_
  refine r_iconst (v := (nI 0)) dL_isRefused_508 (by decide) ?_
  refine r_callSW (st := []) [.ref (Q 0), .int (nI 17), .int (nI ((B 1 2) + (x % 30))), .int (nI 0), .int (nI 0), .int (nI 0)] 5040 100800 dL_isRefused_509 kL_act nL_act lRL_88 (R_sample_1a hL7 hI (inB_ge (by omega) (by omega))) rfl rfl (Nat.le_of_ble_eq_true rfl) (by omega) (by omega) (fun _ _ h => h.elim) ?_
  refine cx_det (st2 := [.int (-1661000)]) rfl ?_
  refine r_ldc dL_isRefused_512 con_76 ?_
  refine r_icmp_ne 580 dL_isRefused_514 (by decide) (fun c29 => absurd c29 (fun q => q rfl)) (fun c29 => ?_)
  refine r_aload_n dL_isRefused_517 rfl 8 rfl ?_
  refine r_iconst (v := (nI 4)) dL_isRefused_518 (by decide) ?_
  refine n_iald dL_isRefused_519 hL7.r1 (by omega) (by decide) ?_
  refine r_bipush (v := (nI 60)) dL_isRefused_520 (by decide) ?_
  refine n_icmp_lt 540 dL_isRefused_522 (by decide) (by omega) (by omega) (fun c522 => ?_) (fun c522 => ?_)
  · refine r_aload_n dL_isRefused_540 rfl 8 rfl ?_
    refine r_iconst (v := (nI 4)) dL_isRefused_541 (by decide) ?_
    refine n_iald dL_isRefused_542 hL7.r1 (by omega) (by decide) ?_
    refine n_if_le 562 dL_isRefused_543 (by decide) (by omega) (fun c543 => ?_) (fun c543 => ?_)
    · refine r_aload_n dL_isRefused_562 rfl 7 rfl ?_
      refine r_iconst (v := (nI 1)) dL_isRefused_563 (by decide) ?_
      refine r_iconst (v := (nI 0)) dL_isRefused_564 (by decide) ?_
      refine r_iconst (v := (nI 0)) dL_isRefused_565 (by decide) ?_
      refine r_iconst (v := (nI 0)) dL_isRefused_566 (by decide) ?_
      refine r_iconst (v := (nI 0)) dL_isRefused_567 (by decide) ?_
      refine r_callSW (st := []) [.ref (Q 0), .int (nI 1), .int (nI 0), .int (nI 0), .int (nI 0), .int (nI 0)] 5020 100400 dL_isRefused_568 kL_act nL_act lRL_88 (R_word_a hL7 hI (ltB_no (by omega))) rfl rfl (Nat.le_of_ble_eq_true rfl) (by omega) (by omega) (fun _ _ h => h.elim) ?_
      refine cx_det (st2 := [.int (-1663000)]) rfl ?_
      refine r_ldc dL_isRefused_571 con_82 ?_
      refine r_icmp_ne 580 dL_isRefused_573 (by decide) (fun c32 => absurd c32 (fun q => q rfl)) (fun c32 => ?_)
      refine r_iconst (v := (nI 1)) dL_isRefused_576 (by decide) ?_
      refine r_goto 581 dL_isRefused_577 (by decide) ?_
      refine r_istore [(13, .int (nI 1)), (11, .long (alA A)), (10, .int (nI ((B 1 3) + (x % 30)))), (9, .int (nI ((B 1 2) + (x % 30)))), (8, .int (nI ((B 1 1) + (x % 30)))), (7, .int (nI ((B 1 0) + (x % 30)))), (6, .int (nI (3 + (x % 30)))), (5, .int (nI 0)), (0, .ref (Q 0)), (1, .ref (Q 1)), (2, .ref (Q 2)), (3, .ref (Q 3)), (4, .int (nI x))] dL_isRefused_581 (by decide) rfl ?_
      refine r_iconst (v := (nI 0)) dL_isRefused_583 (by decide) ?_
      refine r_istore [(14, .int (nI 0)), (13, .int (nI 1)), (11, .long (alA A)), (10, .int (nI ((B 1 3) + (x % 30)))), (9, .int (nI ((B 1 2) + (x % 30)))), (8, .int (nI ((B 1 1) + (x % 30)))), (7, .int (nI ((B 1 0) + (x % 30)))), (6, .int (nI (3 + (x % 30)))), (5, .int (nI 0)), (0, .ref (Q 0)), (1, .ref (Q 1)), (2, .ref (Q 2)), (3, .ref (Q 3)), (4, .int (nI x))] dL_isRefused_584 (by decide) rfl ?_
      exact WP.loc [0, 1, 2, 3, 4, 5, 6, 7, 8, 9, 10, 11, 12, 13] rfl (WP.bud (by omega) (by omega) (l_rf_cl_hi hI hR hx (A 9 0 + 1) 0 _ ⟨hL7, Nat.zero_le _⟩ (by omega)))
    · refine r_aload_n dL_isRefused_546 rfl 8 rfl ?_
      refine r_iconst (v := (nI 4)) dL_isRefused_547 (by decide) ?_
      refine n_iald dL_isRefused_548 hL7.r1 (by omega) (by decide) ?_
      refine r_bipush (v := (nI 11)) dL_isRefused_549 (by decide) ?_
      refine n_icmp_ge 562 dL_isRefused_551 (by decide) (by omega) (by omega) (fun c551 => ?_) (fun c551 => ?_)
      · refine r_aload_n dL_isRefused_562 rfl 7 rfl ?_
        refine r_iconst (v := (nI 1)) dL_isRefused_563 (by decide) ?_
        refine r_iconst (v := (nI 0)) dL_isRefused_564 (by decide) ?_
        refine r_iconst (v := (nI 0)) dL_isRefused_565 (by decide) ?_
        refine r_iconst (v := (nI 0)) dL_isRefused_566 (by decide) ?_
        refine r_iconst (v := (nI 0)) dL_isRefused_567 (by decide) ?_
        refine r_callSW (st := []) [.ref (Q 0), .int (nI 1), .int (nI 0), .int (nI 0), .int (nI 0), .int (nI 0)] 5020 100400 dL_isRefused_568 kL_act nL_act lRL_88 (R_word_a hL7 hI (ltB_no (by omega))) rfl rfl (Nat.le_of_ble_eq_true rfl) (by omega) (by omega) (fun _ _ h => h.elim) ?_
        refine cx_det (st2 := [.int (-1663000)]) rfl ?_
        refine r_ldc dL_isRefused_571 con_82 ?_
        refine r_icmp_ne 580 dL_isRefused_573 (by decide) (fun c34 => absurd c34 (fun q => q rfl)) (fun c34 => ?_)
        refine r_iconst (v := (nI 1)) dL_isRefused_576 (by decide) ?_
        refine r_goto 581 dL_isRefused_577 (by decide) ?_
        refine r_istore [(13, .int (nI 1)), (11, .long (alA A)), (10, .int (nI ((B 1 3) + (x % 30)))), (9, .int (nI ((B 1 2) + (x % 30)))), (8, .int (nI ((B 1 1) + (x % 30)))), (7, .int (nI ((B 1 0) + (x % 30)))), (6, .int (nI (3 + (x % 30)))), (5, .int (nI 0)), (0, .ref (Q 0)), (1, .ref (Q 1)), (2, .ref (Q 2)), (3, .ref (Q 3)), (4, .int (nI x))] dL_isRefused_581 (by decide) rfl ?_
        refine r_iconst (v := (nI 0)) dL_isRefused_583 (by decide) ?_
        refine r_istore [(14, .int (nI 0)), (13, .int (nI 1)), (11, .long (alA A)), (10, .int (nI ((B 1 3) + (x % 30)))), (9, .int (nI ((B 1 2) + (x % 30)))), (8, .int (nI ((B 1 1) + (x % 30)))), (7, .int (nI ((B 1 0) + (x % 30)))), (6, .int (nI (3 + (x % 30)))), (5, .int (nI 0)), (0, .ref (Q 0)), (1, .ref (Q 1)), (2, .ref (Q 2)), (3, .ref (Q 3)), (4, .int (nI x))] dL_isRefused_584 (by decide) rfl ?_
        exact WP.loc [0, 1, 2, 3, 4, 5, 6, 7, 8, 9, 10, 11, 12, 13] rfl (WP.bud (by omega) (by omega) (l_rf_cl_hi hI hR hx (A 9 0 + 1) 0 _ ⟨hL7, Nat.zero_le _⟩ (by omega)))
      · refine r_aload_n dL_isRefused_554 rfl 8 rfl ?_
        refine r_iconst (v := (nI 0)) dL_isRefused_555 (by decide) ?_
        refine n_iald dL_isRefused_556 hL7.r1 (by omega) (by decide) ?_
        refine r_bipush (v := (nI 12)) dL_isRefused_557 (by decide) ?_
        refine n_icmp_lt 576 dL_isRefused_559 (by decide) (by omega) (by omega) (fun c559 => ?_) (fun c559 => ?_)
        · refine r_iconst (v := (nI 1)) dL_isRefused_576 (by decide) ?_
          refine r_goto 581 dL_isRefused_577 (by decide) ?_
          refine r_istore [(13, .int (nI 1)), (11, .long (alA A)), (10, .int (nI ((B 1 3) + (x % 30)))), (9, .int (nI ((B 1 2) + (x % 30)))), (8, .int (nI ((B 1 1) + (x % 30)))), (7, .int (nI ((B 1 0) + (x % 30)))), (6, .int (nI (3 + (x % 30)))), (5, .int (nI 0)), (0, .ref (Q 0)), (1, .ref (Q 1)), (2, .ref (Q 2)), (3, .ref (Q 3)), (4, .int (nI x))] dL_isRefused_581 (by decide) rfl ?_
          refine r_iconst (v := (nI 0)) dL_isRefused_583 (by decide) ?_
          refine r_istore [(14, .int (nI 0)), (13, .int (nI 1)), (11, .long (alA A)), (10, .int (nI ((B 1 3) + (x % 30)))), (9, .int (nI ((B 1 2) + (x % 30)))), (8, .int (nI ((B 1 1) + (x % 30)))), (7, .int (nI ((B 1 0) + (x % 30)))), (6, .int (nI (3 + (x % 30)))), (5, .int (nI 0)), (0, .ref (Q 0)), (1, .ref (Q 1)), (2, .ref (Q 2)), (3, .ref (Q 3)), (4, .int (nI x))] dL_isRefused_584 (by decide) rfl ?_
          exact WP.loc [0, 1, 2, 3, 4, 5, 6, 7, 8, 9, 10, 11, 12, 13] rfl (WP.bud (by omega) (by omega) (l_rf_cl_hi hI hR hx (A 9 0 + 1) 0 _ ⟨hL7, Nat.zero_le _⟩ (by omega)))
        · refine r_aload_n dL_isRefused_562 rfl 7 rfl ?_
          refine r_iconst (v := (nI 1)) dL_isRefused_563 (by decide) ?_
          refine r_iconst (v := (nI 0)) dL_isRefused_564 (by decide) ?_
          refine r_iconst (v := (nI 0)) dL_isRefused_565 (by decide) ?_
          refine r_iconst (v := (nI 0)) dL_isRefused_566 (by decide) ?_
          refine r_iconst (v := (nI 0)) dL_isRefused_567 (by decide) ?_
          refine r_callSW (st := []) [.ref (Q 0), .int (nI 1), .int (nI 0), .int (nI 0), .int (nI 0), .int (nI 0)] 5020 100400 dL_isRefused_568 kL_act nL_act lRL_88 (R_word hL7 hI (by omega)) rfl rfl (Nat.le_of_ble_eq_true rfl) (by omega) (by omega) (fun _ _ h => h.elim) ?_
          refine cx_det (st2 := [.int (-1663000)]) rfl ?_
          refine r_ldc dL_isRefused_571 con_82 ?_
          refine r_icmp_ne 580 dL_isRefused_573 (by decide) (fun c36 => absurd c36 (fun q => q rfl)) (fun c36 => ?_)
          refine r_iconst (v := (nI 1)) dL_isRefused_576 (by decide) ?_
          refine r_goto 581 dL_isRefused_577 (by decide) ?_
          refine r_istore [(13, .int (nI 1)), (11, .long (alA A)), (10, .int (nI ((B 1 3) + (x % 30)))), (9, .int (nI ((B 1 2) + (x % 30)))), (8, .int (nI ((B 1 1) + (x % 30)))), (7, .int (nI ((B 1 0) + (x % 30)))), (6, .int (nI (3 + (x % 30)))), (5, .int (nI 0)), (0, .ref (Q 0)), (1, .ref (Q 1)), (2, .ref (Q 2)), (3, .ref (Q 3)), (4, .int (nI x))] dL_isRefused_581 (by decide) rfl ?_
          refine r_iconst (v := (nI 0)) dL_isRefused_583 (by decide) ?_
          refine r_istore [(14, .int (nI 0)), (13, .int (nI 1)), (11, .long (alA A)), (10, .int (nI ((B 1 3) + (x % 30)))), (9, .int (nI ((B 1 2) + (x % 30)))), (8, .int (nI ((B 1 1) + (x % 30)))), (7, .int (nI ((B 1 0) + (x % 30)))), (6, .int (nI (3 + (x % 30)))), (5, .int (nI 0)), (0, .ref (Q 0)), (1, .ref (Q 1)), (2, .ref (Q 2)), (3, .ref (Q 3)), (4, .int (nI x))] dL_isRefused_584 (by decide) rfl ?_
          exact WP.loc [0, 1, 2, 3, 4, 5, 6, 7, 8, 9, 10, 11, 12, 13] rfl (WP.bud (by omega) (by omega) (l_rf_cl_hi hI hR hx (A 9 0 + 1) 0 _ ⟨hL7, Nat.zero_le _⟩ (by omega)))
  · refine r_aload_n dL_isRefused_525 rfl 7 rfl ?_
    refine r_iconst (v := (nI 0)) dL_isRefused_526 (by decide) ?_
    refine r_bipush (v := (nI 97)) dL_isRefused_527 (by decide) ?_
    refine r_iconst (v := (nI 0)) dL_isRefused_529 (by decide) ?_
    refine r_iconst (v := (nI 0)) dL_isRefused_530 (by decide) ?_
    refine r_iconst (v := (nI 0)) dL_isRefused_531 (by decide) ?_
    refine r_callSW (st := []) [.ref (Q 0), .int (nI 0), .int (nI 97), .int (nI 0), .int (nI 0), .int (nI 0)] 5020 100400 dL_isRefused_532 kL_act nL_act lRL_88 (R_type hL7 hI (c := 97) (by decide) (by omega)) rfl rfl (Nat.le_of_ble_eq_true rfl) (by omega) (by omega) (fun _ _ h => h.elim) ?_
    refine cx_det (st2 := [.int (-1663000)]) rfl ?_
    refine r_ldc dL_isRefused_535 con_82 ?_
    refine r_icmp_ne 580 dL_isRefused_537 (by decide) (fun c37 => absurd c37 (fun q => q rfl)) (fun c37 => ?_)
    refine r_aload_n dL_isRefused_540 rfl 8 rfl ?_
    refine r_iconst (v := (nI 4)) dL_isRefused_541 (by decide) ?_
    refine n_iald dL_isRefused_542 hL7.r1 (by omega) (by decide) ?_
    refine n_if_le 562 dL_isRefused_543 (by decide) (by omega) (fun c543 => ?_) (fun c543 => ?_)
    · refine r_aload_n dL_isRefused_562 rfl 7 rfl ?_
      refine r_iconst (v := (nI 1)) dL_isRefused_563 (by decide) ?_
      refine r_iconst (v := (nI 0)) dL_isRefused_564 (by decide) ?_
      refine r_iconst (v := (nI 0)) dL_isRefused_565 (by decide) ?_
      refine r_iconst (v := (nI 0)) dL_isRefused_566 (by decide) ?_
      refine r_iconst (v := (nI 0)) dL_isRefused_567 (by decide) ?_
      refine r_callSW (st := []) [.ref (Q 0), .int (nI 1), .int (nI 0), .int (nI 0), .int (nI 0), .int (nI 0)] 5000 100000 dL_isRefused_568 kL_act nL_act lRL_88 (R_word_a hL7 hI (ltB_no (by omega))) rfl rfl (Nat.le_of_ble_eq_true rfl) (by omega) (by omega) (fun _ _ h => h.elim) ?_
      refine cx_det (st2 := [.int (-1663000)]) rfl ?_
      refine r_ldc dL_isRefused_571 con_82 ?_
      refine r_icmp_ne 580 dL_isRefused_573 (by decide) (fun c39 => absurd c39 (fun q => q rfl)) (fun c39 => ?_)
      refine r_iconst (v := (nI 1)) dL_isRefused_576 (by decide) ?_
      refine r_goto 581 dL_isRefused_577 (by decide) ?_
      refine r_istore [(13, .int (nI 1)), (11, .long (alA A)), (10, .int (nI ((B 1 3) + (x % 30)))), (9, .int (nI ((B 1 2) + (x % 30)))), (8, .int (nI ((B 1 1) + (x % 30)))), (7, .int (nI ((B 1 0) + (x % 30)))), (6, .int (nI (3 + (x % 30)))), (5, .int (nI 0)), (0, .ref (Q 0)), (1, .ref (Q 1)), (2, .ref (Q 2)), (3, .ref (Q 3)), (4, .int (nI x))] dL_isRefused_581 (by decide) rfl ?_
      refine r_iconst (v := (nI 0)) dL_isRefused_583 (by decide) ?_
      refine r_istore [(14, .int (nI 0)), (13, .int (nI 1)), (11, .long (alA A)), (10, .int (nI ((B 1 3) + (x % 30)))), (9, .int (nI ((B 1 2) + (x % 30)))), (8, .int (nI ((B 1 1) + (x % 30)))), (7, .int (nI ((B 1 0) + (x % 30)))), (6, .int (nI (3 + (x % 30)))), (5, .int (nI 0)), (0, .ref (Q 0)), (1, .ref (Q 1)), (2, .ref (Q 2)), (3, .ref (Q 3)), (4, .int (nI x))] dL_isRefused_584 (by decide) rfl ?_
      exact WP.loc [0, 1, 2, 3, 4, 5, 6, 7, 8, 9, 10, 11, 12, 13] rfl (WP.bud (by omega) (by omega) (l_rf_cl_hi hI hR hx (A 9 0 + 1) 0 _ ⟨hL7, Nat.zero_le _⟩ (by omega)))
    · refine r_aload_n dL_isRefused_546 rfl 8 rfl ?_
      refine r_iconst (v := (nI 4)) dL_isRefused_547 (by decide) ?_
      refine n_iald dL_isRefused_548 hL7.r1 (by omega) (by decide) ?_
      refine r_bipush (v := (nI 11)) dL_isRefused_549 (by decide) ?_
      refine n_icmp_ge 562 dL_isRefused_551 (by decide) (by omega) (by omega) (fun c551 => ?_) (fun c551 => ?_)
      · refine r_aload_n dL_isRefused_562 rfl 7 rfl ?_
        refine r_iconst (v := (nI 1)) dL_isRefused_563 (by decide) ?_
        refine r_iconst (v := (nI 0)) dL_isRefused_564 (by decide) ?_
        refine r_iconst (v := (nI 0)) dL_isRefused_565 (by decide) ?_
        refine r_iconst (v := (nI 0)) dL_isRefused_566 (by decide) ?_
        refine r_iconst (v := (nI 0)) dL_isRefused_567 (by decide) ?_
        refine r_callSW (st := []) [.ref (Q 0), .int (nI 1), .int (nI 0), .int (nI 0), .int (nI 0), .int (nI 0)] 5000 100000 dL_isRefused_568 kL_act nL_act lRL_88 (R_word_a hL7 hI (ltB_no (by omega))) rfl rfl (Nat.le_of_ble_eq_true rfl) (by omega) (by omega) (fun _ _ h => h.elim) ?_
        refine cx_det (st2 := [.int (-1663000)]) rfl ?_
        refine r_ldc dL_isRefused_571 con_82 ?_
        refine r_icmp_ne 580 dL_isRefused_573 (by decide) (fun c41 => absurd c41 (fun q => q rfl)) (fun c41 => ?_)
        refine r_iconst (v := (nI 1)) dL_isRefused_576 (by decide) ?_
        refine r_goto 581 dL_isRefused_577 (by decide) ?_
        refine r_istore [(13, .int (nI 1)), (11, .long (alA A)), (10, .int (nI ((B 1 3) + (x % 30)))), (9, .int (nI ((B 1 2) + (x % 30)))), (8, .int (nI ((B 1 1) + (x % 30)))), (7, .int (nI ((B 1 0) + (x % 30)))), (6, .int (nI (3 + (x % 30)))), (5, .int (nI 0)), (0, .ref (Q 0)), (1, .ref (Q 1)), (2, .ref (Q 2)), (3, .ref (Q 3)), (4, .int (nI x))] dL_isRefused_581 (by decide) rfl ?_
        refine r_iconst (v := (nI 0)) dL_isRefused_583 (by decide) ?_
        refine r_istore [(14, .int (nI 0)), (13, .int (nI 1)), (11, .long (alA A)), (10, .int (nI ((B 1 3) + (x % 30)))), (9, .int (nI ((B 1 2) + (x % 30)))), (8, .int (nI ((B 1 1) + (x % 30)))), (7, .int (nI ((B 1 0) + (x % 30)))), (6, .int (nI (3 + (x % 30)))), (5, .int (nI 0)), (0, .ref (Q 0)), (1, .ref (Q 1)), (2, .ref (Q 2)), (3, .ref (Q 3)), (4, .int (nI x))] dL_isRefused_584 (by decide) rfl ?_
        exact WP.loc [0, 1, 2, 3, 4, 5, 6, 7, 8, 9, 10, 11, 12, 13] rfl (WP.bud (by omega) (by omega) (l_rf_cl_hi hI hR hx (A 9 0 + 1) 0 _ ⟨hL7, Nat.zero_le _⟩ (by omega)))
      · refine r_aload_n dL_isRefused_554 rfl 8 rfl ?_
        refine r_iconst (v := (nI 0)) dL_isRefused_555 (by decide) ?_
        refine n_iald dL_isRefused_556 hL7.r1 (by omega) (by decide) ?_
        refine r_bipush (v := (nI 12)) dL_isRefused_557 (by decide) ?_
        refine n_icmp_lt 576 dL_isRefused_559 (by decide) (by omega) (by omega) (fun c559 => ?_) (fun c559 => ?_)
        · refine r_iconst (v := (nI 1)) dL_isRefused_576 (by decide) ?_
          refine r_goto 581 dL_isRefused_577 (by decide) ?_
          refine r_istore [(13, .int (nI 1)), (11, .long (alA A)), (10, .int (nI ((B 1 3) + (x % 30)))), (9, .int (nI ((B 1 2) + (x % 30)))), (8, .int (nI ((B 1 1) + (x % 30)))), (7, .int (nI ((B 1 0) + (x % 30)))), (6, .int (nI (3 + (x % 30)))), (5, .int (nI 0)), (0, .ref (Q 0)), (1, .ref (Q 1)), (2, .ref (Q 2)), (3, .ref (Q 3)), (4, .int (nI x))] dL_isRefused_581 (by decide) rfl ?_
          refine r_iconst (v := (nI 0)) dL_isRefused_583 (by decide) ?_
          refine r_istore [(14, .int (nI 0)), (13, .int (nI 1)), (11, .long (alA A)), (10, .int (nI ((B 1 3) + (x % 30)))), (9, .int (nI ((B 1 2) + (x % 30)))), (8, .int (nI ((B 1 1) + (x % 30)))), (7, .int (nI ((B 1 0) + (x % 30)))), (6, .int (nI (3 + (x % 30)))), (5, .int (nI 0)), (0, .ref (Q 0)), (1, .ref (Q 1)), (2, .ref (Q 2)), (3, .ref (Q 3)), (4, .int (nI x))] dL_isRefused_584 (by decide) rfl ?_
          exact WP.loc [0, 1, 2, 3, 4, 5, 6, 7, 8, 9, 10, 11, 12, 13] rfl (WP.bud (by omega) (by omega) (l_rf_cl_hi hI hR hx (A 9 0 + 1) 0 _ ⟨hL7, Nat.zero_le _⟩ (by omega)))
        · refine r_aload_n dL_isRefused_562 rfl 7 rfl ?_
          refine r_iconst (v := (nI 1)) dL_isRefused_563 (by decide) ?_
          refine r_iconst (v := (nI 0)) dL_isRefused_564 (by decide) ?_
          refine r_iconst (v := (nI 0)) dL_isRefused_565 (by decide) ?_
          refine r_iconst (v := (nI 0)) dL_isRefused_566 (by decide) ?_
          refine r_iconst (v := (nI 0)) dL_isRefused_567 (by decide) ?_
          refine r_callSW (st := []) [.ref (Q 0), .int (nI 1), .int (nI 0), .int (nI 0), .int (nI 0), .int (nI 0)] 5000 100000 dL_isRefused_568 kL_act nL_act lRL_88 (R_word hL7 hI (by omega)) rfl rfl (Nat.le_of_ble_eq_true rfl) (by omega) (by omega) (fun _ _ h => h.elim) ?_
          refine cx_det (st2 := [.int (-1663000)]) rfl ?_
          refine r_ldc dL_isRefused_571 con_82 ?_
          refine r_icmp_ne 580 dL_isRefused_573 (by decide) (fun c43 => absurd c43 (fun q => q rfl)) (fun c43 => ?_)
          refine r_iconst (v := (nI 1)) dL_isRefused_576 (by decide) ?_
          refine r_goto 581 dL_isRefused_577 (by decide) ?_
          refine r_istore [(13, .int (nI 1)), (11, .long (alA A)), (10, .int (nI ((B 1 3) + (x % 30)))), (9, .int (nI ((B 1 2) + (x % 30)))), (8, .int (nI ((B 1 1) + (x % 30)))), (7, .int (nI ((B 1 0) + (x % 30)))), (6, .int (nI (3 + (x % 30)))), (5, .int (nI 0)), (0, .ref (Q 0)), (1, .ref (Q 1)), (2, .ref (Q 2)), (3, .ref (Q 3)), (4, .int (nI x))] dL_isRefused_581 (by decide) rfl ?_
          refine r_iconst (v := (nI 0)) dL_isRefused_583 (by decide) ?_
          refine r_istore [(14, .int (nI 0)), (13, .int (nI 1)), (11, .long (alA A)), (10, .int (nI ((B 1 3) + (x % 30)))), (9, .int (nI ((B 1 2) + (x % 30)))), (8, .int (nI ((B 1 1) + (x % 30)))), (7, .int (nI ((B 1 0) + (x % 30)))), (6, .int (nI (3 + (x % 30)))), (5, .int (nI 0)), (0, .ref (Q 0)), (1, .ref (Q 1)), (2, .ref (Q 2)), (3, .ref (Q 3)), (4, .int (nI x))] dL_isRefused_584 (by decide) rfl ?_
          exact WP.loc [0, 1, 2, 3, 4, 5, 6, 7, 8, 9, 10, 11, 12, 13] rfl (WP.bud (by omega) (by omega) (l_rf_cl_hi hI hR hx (A 9 0 + 1) 0 _ ⟨hL7, Nat.zero_le _⟩ (by omega)))
set_option maxRecDepth 100000 in
set_option maxHeartbeats 4000000 in
theorem l_isRefused {d b0 : Nat} {G : GH} {Q : Nat → Nat} {A B : ST} (hL : LW Q A B G) (hI : Inv A) (hR : Rl A B) {x : Nat} (hx : x < 2 ^ 31) : CT mL_isRefused (d + 11) b0 G [.ref (Q 0), .ref (Q 1), .ref (Q 2), .ref (Q 3), .int (nI x)] 7600 152000 (fun r G' => r = some (.int (nI 1)) ∧ LW Q A B G') NoX := by
  refine CT.intro (by decide +kernel) rfl (Nat.le_of_ble_eq_true rfl) ?_
  show WP mL_isRefused _ _ _ _ _ _ _ 0 [(0, .ref (Q 0)), (1, .ref (Q 1)), (2, .ref (Q 2)), (3, .ref (Q 3)), (4, .int (nI x))] []
  refine r_iload dL_isRefused_0 4 rfl ?_
  refine r_iconst (v := (nI 2)) dL_isRefused_2 (by decide) ?_
  refine n_irem dL_isRefused_3 (by omega) (by omega) (by omega) ?_
  refine n_if_ne 11 dL_isRefused_4 (by decide) (by omega) (fun c4 => ?_) (fun c4 => ?_)
  · refine r_iconst (v := (nI 0)) dL_isRefused_11 (by decide) ?_
    refine r_istore [(5, .int (nI 0)), (0, .ref (Q 0)), (1, .ref (Q 1)), (2, .ref (Q 2)), (3, .ref (Q 3)), (4, .int (nI x))] dL_isRefused_12 (by decide) rfl ?_
    exact WP.loc [0, 1, 2, 3, 4, 5] rfl (l_rf_hi hL hI hR hx)
  · refine r_iconst (v := (nI 1)) dL_isRefused_7 (by decide) ?_
    refine r_goto 12 dL_isRefused_8 (by decide) ?_
    refine r_istore [(5, .int (nI 1)), (0, .ref (Q 0)), (1, .ref (Q 1)), (2, .ref (Q 2)), (3, .ref (Q 3)), (4, .int (nI x))] dL_isRefused_12 (by decide) rfl ?_
    exact WP.loc [0, 1, 2, 3, 4, 5] rfl (l_rf_lo hL hI hR hx)
