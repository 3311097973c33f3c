def s_X8_isBelow (a0 a1 : Int32) : Int32 := if a0 < 0 then 0 else if a1 ≤ a0 then 0 else 1
set_option maxRecDepth 100000 in
set_option maxHeartbeats 4000000 in
theorem c_X8_isBelow {d b0 : Nat} {G : GH} (a0 a1 : Int32) : CTd mX8_isBelow d b0 G [.int a0, .int a1] 0 0 (some (.int (s_X8_isBelow a0 a1))) G := by
  refine CT.intro (by decide +kernel) rfl (Nat.le_of_ble_eq_true rfl) ?_
  show WP mX8_isBelow _ _ _ _ _ 0 0 0 [(0, .int a0), (1, .int a1)] []
  refine r_iload_n dX8_isBelow_0 rfl 0 rfl ?_
  refine r_if_lt 13 dX8_isBelow_1 (by decide) (fun c_1 => ?_) (fun c_1 => ?_)
  · refine r_iconst (v := 0) dX8_isBelow_13 (by decide) ?_
    refine r_ret .boolean dX8_isBelow_14 rfl rfl ?_
    exact ⟨by unfold s_X8_isBelow; rw [if_pos c_1], rfl⟩
  · refine r_iload_n dX8_isBelow_4 rfl 0 rfl ?_
    refine r_iload_n dX8_isBelow_5 rfl 1 rfl ?_
    refine r_icmp_ge 13 dX8_isBelow_6 (by decide) (fun c_2 => ?_) (fun c_2 => ?_)
    · refine r_iconst (v := 0) dX8_isBelow_13 (by decide) ?_
      refine r_ret .boolean dX8_isBelow_14 rfl rfl ?_
      exact ⟨by unfold s_X8_isBelow; rw [if_neg c_1, if_pos c_2], rfl⟩
    · refine r_iconst (v := 1) dX8_isBelow_9 (by decide) ?_
      refine r_goto 14 dX8_isBelow_10 (by decide) ?_
      refine r_ret .boolean dX8_isBelow_14 rfl rfl ?_
      exact ⟨by unfold s_X8_isBelow; rw [if_neg c_1, if_neg c_2], rfl⟩
theorem nb_X8_isBelow {a0 a1 : Int32} : isZ (s_X8_isBelow a0 a1) := by
  unfold s_X8_isBelow
  repeat' (first | refine isZ_ite ?_ ?_ | exact isZ_0 | exact isZ_1)
def s_X8_isSmall (a0 : Int32) : Int32 := if a0 < 97 then 0 else if 122 < a0 then 0 else 1
set_option maxRecDepth 100000 in
set_option maxHeartbeats 4000000 in
theorem c_X8_isSmall {d b0 : Nat} {G : GH} (a0 : Int32) : CTd mX8_isSmall d b0 G [.int a0] 0 0 (some (.int (s_X8_isSmall a0))) G := by
  refine CT.intro (by decide +kernel) rfl (Nat.le_of_ble_eq_true rfl) ?_
  show WP mX8_isSmall _ _ _ _ _ 0 0 0 [(0, .int a0)] []
  refine r_iload_n dX8_isSmall_0 rfl 0 rfl ?_
  refine r_bipush (v := 97) dX8_isSmall_1 (by decide) ?_
  refine r_icmp_lt 16 dX8_isSmall_3 (by decide) (fun c_1 => ?_) (fun c_1 => ?_)
  · refine r_iconst (v := 0) dX8_isSmall_16 (by decide) ?_
    refine r_ret .boolean dX8_isSmall_17 rfl rfl ?_
    exact ⟨by unfold s_X8_isSmall; rw [if_pos c_1], rfl⟩
  · refine r_iload_n dX8_isSmall_6 rfl 0 rfl ?_
    refine r_bipush (v := 122) dX8_isSmall_7 (by decide) ?_
    refine r_icmp_gt 16 dX8_isSmall_9 (by decide) (fun c_2 => ?_) (fun c_2 => ?_)
    · refine r_iconst (v := 0) dX8_isSmall_16 (by decide) ?_
      refine r_ret .boolean dX8_isSmall_17 rfl rfl ?_
      exact ⟨by unfold s_X8_isSmall; rw [if_neg c_1, if_pos c_2], rfl⟩
    · refine r_iconst (v := 1) dX8_isSmall_12 (by decide) ?_
      refine r_goto 17 dX8_isSmall_13 (by decide) ?_
      refine r_ret .boolean dX8_isSmall_17 rfl rfl ?_
      exact ⟨by unfold s_X8_isSmall; rw [if_neg c_1, if_neg c_2], rfl⟩
theorem nb_X8_isSmall {a0 : Int32} : isZ (s_X8_isSmall a0) := by
  unfold s_X8_isSmall
  repeat' (first | refine isZ_ite ?_ ?_ | exact isZ_0 | exact isZ_1)
def s_X8_isLanguage (a0 : Int32) : Int32 := s_X8_isBelow a0 3
set_option maxRecDepth 100000 in
set_option maxHeartbeats 4000000 in
theorem c_X8_isLanguage {d b0 : Nat} {G : GH} (a0 : Int32) : CTd mX8_isLanguage (d + 1) b0 G [.int a0] 0 0 (some (.int (s_X8_isLanguage a0))) G := by
  refine CT.intro (by decide +kernel) rfl (Nat.le_of_ble_eq_true rfl) ?_
  show WP mX8_isLanguage _ _ _ _ _ 0 0 0 [(0, .int a0)] []
  refine r_iload_n dX8_isLanguage_0 rfl 0 rfl ?_
  refine r_iconst (v := 3) dX8_isLanguage_1 (by decide) ?_
  refine r_callS (st := []) [.int a0, .int 3] 0 0 dX8_isLanguage_2 kX8_isBelow nX8_isBelow lRX8_104 (c_X8_isBelow a0 3) rfl rfl (by decide) (Nat.le_refl _) (Nat.le_refl _) (fun _ _ h => h.elim) ?_
  refine cx_det (st2 := [.int (s_X8_isBelow a0 3)]) rfl ?_
  refine r_ret .boolean dX8_isLanguage_5 rfl (nb_X8_isBelow) ?_
  exact ⟨by unfold s_X8_isLanguage; rfl, rfl⟩
theorem nb_X8_isLanguage {a0 : Int32} : isZ (s_X8_isLanguage a0) := by
  unfold s_X8_isLanguage
  repeat' (first | refine isZ_ite ?_ ?_ | exact nb_X8_isBelow | exact isZ_0 | exact isZ_1)
def s_X8_isVowel (a0 : Int32) : Int32 := if a0 = 97 then 1 else if a0 = 101 then 1 else if a0 = 105 then 1 else if a0 = 111 then 1 else if a0 = 117 then 1 else 0
set_option maxRecDepth 100000 in
set_option maxHeartbeats 4000000 in
theorem c_X8_isVowel {d b0 : Nat} {G : GH} (a0 : Int32) : CTd mX8_isVowel d b0 G [.int a0] 0 0 (some (.int (s_X8_isVowel a0))) G := by
  refine CT.intro (by decide +kernel) rfl (Nat.le_of_ble_eq_true rfl) ?_
  show WP mX8_isVowel _ _ _ _ _ 0 0 0 [(0, .int a0)] []
  refine r_iload_n dX8_isVowel_0 rfl 0 rfl ?_
  refine r_bipush (v := 97) dX8_isVowel_1 (by decide) ?_
  refine r_icmp_eq 30 dX8_isVowel_3 (by decide) (fun c_1 => ?_) (fun c_1 => ?_)
  · refine r_iconst (v := 1) dX8_isVowel_30 (by decide) ?_
    refine r_goto 35 dX8_isVowel_31 (by decide) ?_
    refine r_ret .boolean dX8_isVowel_35 rfl rfl ?_
    exact ⟨by unfold s_X8_isVowel; rw [if_pos c_1], rfl⟩
  · refine r_iload_n dX8_isVowel_6 rfl 0 rfl ?_
    refine r_bipush (v := 101) dX8_isVowel_7 (by decide) ?_
    refine r_icmp_eq 30 dX8_isVowel_9 (by decide) (fun c_2 => ?_) (fun c_2 => ?_)
    · refine r_iconst (v := 1) dX8_isVowel_30 (by decide) ?_
      refine r_goto 35 dX8_isVowel_31 (by decide) ?_
      refine r_ret .boolean dX8_isVowel_35 rfl rfl ?_
      exact ⟨by unfold s_X8_isVowel; rw [if_neg c_1, if_pos c_2], rfl⟩
    · refine r_iload_n dX8_isVowel_12 rfl 0 rfl ?_
      refine r_bipush (v := 105) dX8_isVowel_13 (by decide) ?_
      refine r_icmp_eq 30 dX8_isVowel_15 (by decide) (fun c_3 => ?_) (fun c_3 => ?_)
      · refine r_iconst (v := 1) dX8_isVowel_30 (by decide) ?_
        refine r_goto 35 dX8_isVowel_31 (by decide) ?_
        refine r_ret .boolean dX8_isVowel_35 rfl rfl ?_
        exact ⟨by unfold s_X8_isVowel; rw [if_neg c_1, if_neg c_2, if_pos c_3], rfl⟩
      · refine r_iload_n dX8_isVowel_18 rfl 0 rfl ?_
        refine r_bipush (v := 111) dX8_isVowel_19 (by decide) ?_
        refine r_icmp_eq 30 dX8_isVowel_21 (by decide) (fun c_4 => ?_) (fun c_4 => ?_)
        · refine r_iconst (v := 1) dX8_isVowel_30 (by decide) ?_
          refine r_goto 35 dX8_isVowel_31 (by decide) ?_
          refine r_ret .boolean dX8_isVowel_35 rfl rfl ?_
          exact ⟨by unfold s_X8_isVowel; rw [if_neg c_1, if_neg c_2, if_neg c_3, if_pos c_4], rfl⟩
        · refine r_iload_n dX8_isVowel_24 rfl 0 rfl ?_
          refine r_bipush (v := 117) dX8_isVowel_25 (by decide) ?_
          refine r_icmp_ne 34 dX8_isVowel_27 (by decide) (fun c_5 => ?_) (fun c_5 => ?_)
          · refine r_iconst (v := 0) dX8_isVowel_34 (by decide) ?_
            refine r_ret .boolean dX8_isVowel_35 rfl rfl ?_
            exact ⟨by unfold s_X8_isVowel; rw [if_neg c_1, if_neg c_2, if_neg c_3, if_neg c_4, if_neg c_5], rfl⟩
          · refine r_iconst (v := 1) dX8_isVowel_30 (by decide) ?_
            refine r_goto 35 dX8_isVowel_31 (by decide) ?_
            refine r_ret .boolean dX8_isVowel_35 rfl rfl ?_
            exact ⟨by unfold s_X8_isVowel; rw [if_neg c_1, if_neg c_2, if_neg c_3, if_neg c_4, if_pos c_5], rfl⟩
theorem nb_X8_isVowel {a0 : Int32} : isZ (s_X8_isVowel a0) := by
  unfold s_X8_isVowel
  repeat' (first | refine isZ_ite ?_ ?_ | exact isZ_0 | exact isZ_1)
def s_X8_caseOf (a0 : Int32) : Int32 := if a0 = 110 then 0 else if a0 = 103 then 1 else if a0 = 100 then 2 else if a0 = 97 then 3 else (-1)
set_option maxRecDepth 100000 in
set_option maxHeartbeats 4000000 in
theorem c_X8_caseOf {d b0 : Nat} {G : GH} (a0 : Int32) : CTd mX8_caseOf d b0 G [.int a0] 0 0 (some (.int (s_X8_caseOf a0))) G := by
  refine CT.intro (by decide +kernel) rfl (Nat.le_of_ble_eq_true rfl) ?_
  show WP mX8_caseOf _ _ _ _ _ 0 0 0 [(0, .int a0)] []
  refine r_iload_n dX8_caseOf_0 rfl 0 rfl ?_
  refine r_bipush (v := 110) dX8_caseOf_1 (by decide) ?_
  refine r_icmp_ne 10 dX8_caseOf_3 (by decide) (fun c_1 => ?_) (fun c_1 => ?_)
  · refine r_iload_n dX8_caseOf_10 rfl 0 rfl ?_
    refine r_bipush (v := 103) dX8_caseOf_11 (by decide) ?_
    refine r_icmp_ne 20 dX8_caseOf_13 (by decide) (fun c_2 => ?_) (fun c_2 => ?_)
    · refine r_iload_n dX8_caseOf_20 rfl 0 rfl ?_
      refine r_bipush (v := 100) dX8_caseOf_21 (by decide) ?_
      refine r_icmp_ne 30 dX8_caseOf_23 (by decide) (fun c_3 => ?_) (fun c_3 => ?_)
      · refine r_iload_n dX8_caseOf_30 rfl 0 rfl ?_
        refine r_bipush (v := 97) dX8_caseOf_31 (by decide) ?_
        refine r_icmp_ne 40 dX8_caseOf_33 (by decide) (fun c_4 => ?_) (fun c_4 => ?_)
        · refine r_iconst (v := (-1)) dX8_caseOf_40 (by decide) ?_
          refine r_ireti dX8_caseOf_41 rfl ?_
          exact ⟨by unfold s_X8_caseOf; rw [if_neg c_1, if_neg c_2, if_neg c_3, if_neg c_4], rfl⟩
        · refine r_iconst (v := 3) dX8_caseOf_36 (by decide) ?_
          refine r_goto 41 dX8_caseOf_37 (by decide) ?_
          refine r_ireti dX8_caseOf_41 rfl ?_
          exact ⟨by unfold s_X8_caseOf; rw [if_neg c_1, if_neg c_2, if_neg c_3, if_pos c_4], rfl⟩
      · refine r_iconst (v := 2) dX8_caseOf_26 (by decide) ?_
        refine r_goto 41 dX8_caseOf_27 (by decide) ?_
        refine r_ireti dX8_caseOf_41 rfl ?_
        exact ⟨by unfold s_X8_caseOf; rw [if_neg c_1, if_neg c_2, if_pos c_3], rfl⟩
    · refine r_iconst (v := 1) dX8_caseOf_16 (by decide) ?_
      refine r_goto 41 dX8_caseOf_17 (by decide) ?_
      refine r_ireti dX8_caseOf_41 rfl ?_
      exact ⟨by unfold s_X8_caseOf; rw [if_neg c_1, if_pos c_2], rfl⟩
  · refine r_iconst (v := 0) dX8_caseOf_6 (by decide) ?_
    refine r_goto 41 dX8_caseOf_7 (by decide) ?_
    refine r_ireti dX8_caseOf_41 rfl ?_
    exact ⟨by unfold s_X8_caseOf; rw [if_pos c_1], rfl⟩
def s_X8_numberOf (a0 : Int32) : Int32 := if a0 = 115 then 0 else if a0 = 112 then 1 else (-1)
set_option maxRecDepth 100000 in
set_option maxHeartbeats 4000000 in
theorem c_X8_numberOf {d b0 : Nat} {G : GH} (a0 : Int32) : CTd mX8_numberOf d b0 G [.int a0] 0 0 (some (.int (s_X8_numberOf a0))) G := by
  refine CT.intro (by decide +kernel) rfl (Nat.le_of_ble_eq_true rfl) ?_
  show WP mX8_numberOf _ _ _ _ _ 0 0 0 [(0, .int a0)] []
  refine r_iload_n dX8_numberOf_0 rfl 0 rfl ?_
  refine r_bipush (v := 115) dX8_numberOf_1 (by decide) ?_
  refine r_icmp_ne 10 dX8_numberOf_3 (by decide) (fun c_1 => ?_) (fun c_1 => ?_)
  · refine r_iload_n dX8_numberOf_10 rfl 0 rfl ?_
    refine r_bipush (v := 112) dX8_numberOf_11 (by decide) ?_
    refine r_icmp_ne 20 dX8_numberOf_13 (by decide) (fun c_2 => ?_) (fun c_2 => ?_)
    · refine r_iconst (v := (-1)) dX8_numberOf_20 (by decide) ?_
      refine r_ireti dX8_numberOf_21 rfl ?_
      exact ⟨by unfold s_X8_numberOf; rw [if_neg c_1, if_neg c_2], rfl⟩
    · refine r_iconst (v := 1) dX8_numberOf_16 (by decide) ?_
      refine r_goto 21 dX8_numberOf_17 (by decide) ?_
      refine r_ireti dX8_numberOf_21 rfl ?_
      exact ⟨by unfold s_X8_numberOf; rw [if_neg c_1, if_pos c_2], rfl⟩
  · refine r_iconst (v := 0) dX8_numberOf_6 (by decide) ?_
    refine r_goto 21 dX8_numberOf_7 (by decide) ?_
    refine r_ireti dX8_numberOf_21 rfl ?_
    exact ⟨by unfold s_X8_numberOf; rw [if_pos c_1], rfl⟩
def s_X8_slotOf (a0 : Int32) : Int32 := if a0 < 48 then (-1) else if 53 ≤ a0 then (-1) else a0 - 48
set_option maxRecDepth 100000 in
set_option maxHeartbeats 4000000 in
theorem c_X8_slotOf {d b0 : Nat} {G : GH} (a0 : Int32) : CTd mX8_slotOf d b0 G [.int a0] 0 0 (some (.int (s_X8_slotOf a0))) G := by
  refine CT.intro (by decide +kernel) rfl (Nat.le_of_ble_eq_true rfl) ?_
  show WP mX8_slotOf _ _ _ _ _ 0 0 0 [(0, .int a0)] []
  refine r_iload_n dX8_slotOf_0 rfl 0 rfl ?_
  refine r_bipush (v := 48) dX8_slotOf_1 (by decide) ?_
  refine r_icmp_lt 19 dX8_slotOf_3 (by decide) (fun c_1 => ?_) (fun c_1 => ?_)
  · refine r_iconst (v := (-1)) dX8_slotOf_19 (by decide) ?_
    refine r_ireti dX8_slotOf_20 rfl ?_
    exact ⟨by unfold s_X8_slotOf; rw [if_pos c_1], rfl⟩
  · refine r_iload_n dX8_slotOf_6 rfl 0 rfl ?_
    refine r_bipush (v := 53) dX8_slotOf_7 (by decide) ?_
    refine r_icmp_ge 19 dX8_slotOf_9 (by decide) (fun c_2 => ?_) (fun c_2 => ?_)
    · refine r_iconst (v := (-1)) dX8_slotOf_19 (by decide) ?_
      refine r_ireti dX8_slotOf_20 rfl ?_
      exact ⟨by unfold s_X8_slotOf; rw [if_neg c_1, if_pos c_2], rfl⟩
    · refine r_iload_n dX8_slotOf_12 rfl 0 rfl ?_
      refine r_bipush (v := 48) dX8_slotOf_13 (by decide) ?_
      refine r_isub dX8_slotOf_15 ?_
      refine r_goto 20 dX8_slotOf_16 (by decide) ?_
      refine r_ireti dX8_slotOf_20 rfl ?_
      exact ⟨by unfold s_X8_slotOf; rw [if_neg c_1, if_neg c_2], rfl⟩
def s_X8_isOpenBehind (a0 a1 : Int32) : Int32 := if a0 = 46 then 1 else if a1 = 0 then 0 else if (s_X8_isSmall a0) = 0 then 1 else 0
set_option maxRecDepth 100000 in
set_option maxHeartbeats 4000000 in
theorem c_X8_isOpenBehind {d b0 : Nat} {G : GH} (a0 a1 : Int32) : CTd mX8_isOpenBehind (d + 1) b0 G [.int a0, .int a1] 0 0 (some (.int (s_X8_isOpenBehind a0 a1))) G := by
  refine CT.intro (by decide +kernel) rfl (Nat.le_of_ble_eq_true rfl) ?_
  show WP mX8_isOpenBehind _ _ _ _ _ 0 0 0 [(0, .int a0), (1, .int a1)] []
  refine r_iload_n dX8_isOpenBehind_0 rfl 0 rfl ?_
  refine r_bipush (v := 46) dX8_isOpenBehind_1 (by decide) ?_
  refine r_icmp_eq 17 dX8_isOpenBehind_3 (by decide) (fun c_1 => ?_) (fun c_1 => ?_)
  · refine r_iconst (v := 1) dX8_isOpenBehind_17 (by decide) ?_
    refine r_goto 22 dX8_isOpenBehind_18 (by decide) ?_
    refine r_ret .boolean dX8_isOpenBehind_22 rfl rfl ?_
    exact ⟨by unfold s_X8_isOpenBehind; rw [if_pos c_1], rfl⟩
  · refine r_iload_n dX8_isOpenBehind_6 rfl 1 rfl ?_
    refine r_if_eq 21 dX8_isOpenBehind_7 (by decide) (fun c_2 => ?_) (fun c_2 => ?_)
    · refine r_iconst (v := 0) dX8_isOpenBehind_21 (by decide) ?_
      refine r_ret .boolean dX8_isOpenBehind_22 rfl rfl ?_
      exact ⟨by unfold s_X8_isOpenBehind; rw [if_neg c_1, if_pos c_2], rfl⟩
    · refine r_iload_n dX8_isOpenBehind_10 rfl 0 rfl ?_
      refine r_callS (st := []) [.int a0] 0 0 dX8_isOpenBehind_11 kX8_isSmall nX8_isSmall lRX8_282 (c_X8_isSmall a0) rfl rfl (by decide) (Nat.le_refl _) (Nat.le_refl _) (fun _ _ h => h.elim) ?_
      refine cx_det (st2 := [.int (s_X8_isSmall a0)]) rfl ?_
      refine r_if_ne 21 dX8_isOpenBehind_14 (by decide) (fun c_3 => ?_) (fun c_3 => ?_)
      · refine r_iconst (v := 0) dX8_isOpenBehind_21 (by decide) ?_
        refine r_ret .boolean dX8_isOpenBehind_22 rfl rfl ?_
        exact ⟨by unfold s_X8_isOpenBehind; rw [if_neg c_1, if_neg c_2, if_neg c_3], rfl⟩
      · refine r_iconst (v := 1) dX8_isOpenBehind_17 (by decide) ?_
        refine r_goto 22 dX8_isOpenBehind_18 (by decide) ?_
        refine r_ret .boolean dX8_isOpenBehind_22 rfl rfl ?_
        exact ⟨by unfold s_X8_isOpenBehind; rw [if_neg c_1, if_neg c_2, if_pos c_3], rfl⟩
theorem nb_X8_isOpenBehind {a0 a1 : Int32} : isZ (s_X8_isOpenBehind a0 a1) := by
  unfold s_X8_isOpenBehind
  repeat' (first | refine isZ_ite ?_ ?_ | exact isZ_0 | exact isZ_1)
def s_X8_capital (a0 : Int32) : Int32 := if (s_X8_isSmall a0) = 0 then a0 else (((a0 - 97) + 65).toUInt32 % 65536).toInt32
set_option maxRecDepth 100000 in
set_option maxHeartbeats 4000000 in
theorem c_X8_capital {d b0 : Nat} {G : GH} (a0 : Int32) (ha0 : isC a0) : CTd mX8_capital (d + 1) b0 G [.int a0] 0 0 (some (.int (s_X8_capital a0))) G := by
  refine CT.intro (by decide +kernel) rfl (Nat.le_of_ble_eq_true rfl) ?_
  show WP mX8_capital _ _ _ _ _ 0 0 0 [(0, .int a0)] []
  refine r_iload_n dX8_capital_0 rfl 0 rfl ?_
  refine r_callS (st := []) [.int a0] 0 0 dX8_capital_1 kX8_isSmall nX8_isSmall lRX8_282 (c_X8_isSmall a0) rfl rfl (by decide) (Nat.le_refl _) (Nat.le_refl _) (fun _ _ h => h.elim) ?_
  refine cx_det (st2 := [.int (s_X8_isSmall a0)]) rfl ?_
  refine r_if_eq 18 dX8_capital_4 (by decide) (fun c_1 => ?_) (fun c_1 => ?_)
  · refine r_iload_n dX8_capital_18 rfl 0 rfl ?_
    refine r_ret .char dX8_capital_19 rfl ha0 ?_
    exact ⟨by unfold s_X8_capital; rw [if_pos c_1], rfl⟩
  · refine r_iload_n dX8_capital_7 rfl 0 rfl ?_
    refine r_bipush (v := 97) dX8_capital_8 (by decide) ?_
    refine r_isub dX8_capital_10 ?_
    refine r_bipush (v := 65) dX8_capital_11 (by decide) ?_
    refine r_iadd dX8_capital_13 ?_
    refine r_i2c dX8_capital_14 rfl ?_
    refine r_goto 19 dX8_capital_15 (by decide) ?_
    refine r_ret .char dX8_capital_19 rfl (pk_nc _) ?_
    exact ⟨by unfold s_X8_capital; rw [if_neg c_1], rfl⟩
theorem nb_X8_capital {a0 : Int32} (ha0 : isC a0) : isC (s_X8_capital a0) := by
  unfold s_X8_capital
  repeat' (first | refine isC_ite ?_ ?_ | assumption | exact pk_nc _)
def s_X8_canStand (a0 a1 : Int32) : Int32 := if a1 = 0 then if (s_X8_isSmall a0) = 0 then if a0 = 32 then 1 else if a0 = 46 then 1 else if a0 = 91 then 1 else 0 else 1 else if a1 = 1 then if (s_X8_slotOf a0) = (-1) then 0 else 1 else if a1 = 2 then if (s_X8_caseOf a0) = (-1) then 0 else 1 else if a1 = 3 then if (s_X8_numberOf a0) = (-1) then 0 else 1 else if a0 = 93 then 1 else 0
set_option maxRecDepth 100000 in
set_option maxHeartbeats 4000000 in
theorem c_X8_canStand {d b0 : Nat} {G : GH} (a0 a1 : Int32) : CTd mX8_canStand (d + 1) b0 G [.int a0, .int a1] 0 0 (some (.int (s_X8_canStand a0 a1))) G := by
  refine CT.intro (by decide +kernel) rfl (Nat.le_of_ble_eq_true rfl) ?_
  show WP mX8_canStand _ _ _ _ _ 0 0 0 [(0, .int a0), (1, .int a1)] []
  refine r_iload_n dX8_canStand_0 rfl 1 rfl ?_
  by_cases c_1 : a1 = 0
  · refine r_tin 32 dX8_canStand_1 (by rw [c_1]; decide) (by rw [c_1]; decide) (by rw [c_1]; rfl) (by decide) ?_
    refine r_iload_n dX8_canStand_32 rfl 0 rfl ?_
    refine r_callS (st := []) [.int a0] 0 0 dX8_canStand_33 kX8_isSmall nX8_isSmall lRX8_282 (c_X8_isSmall a0) rfl rfl (by decide) (Nat.le_refl _) (Nat.le_refl _) (fun _ _ h => h.elim) ?_
    refine cx_det (st2 := [.int (s_X8_isSmall a0)]) rfl ?_
    refine r_if_ne 57 dX8_canStand_36 (by decide) (fun c_2 => ?_) (fun c_2 => ?_)
    · refine r_iconst (v := 1) dX8_canStand_57 (by decide) ?_
      refine r_goto 62 dX8_canStand_58 (by decide) ?_
      refine r_ret .boolean dX8_canStand_62 rfl rfl ?_
      exact ⟨by unfold s_X8_canStand; rw [if_pos c_1, if_neg c_2], rfl⟩
    · refine r_iload_n dX8_canStand_39 rfl 0 rfl ?_
      refine r_bipush (v := 32) dX8_canStand_40 (by decide) ?_
      refine r_icmp_eq 57 dX8_canStand_42 (by decide) (fun c_3 => ?_) (fun c_3 => ?_)
      · refine r_iconst (v := 1) dX8_canStand_57 (by decide) ?_
        refine r_goto 62 dX8_canStand_58 (by decide) ?_
        refine r_ret .boolean dX8_canStand_62 rfl rfl ?_
        exact ⟨by unfold s_X8_canStand; rw [if_pos c_1, if_pos c_2, if_pos c_3], rfl⟩
      · refine r_iload_n dX8_canStand_45 rfl 0 rfl ?_
        refine r_bipush (v := 46) dX8_canStand_46 (by decide) ?_
        refine r_icmp_eq 57 dX8_canStand_48 (by decide) (fun c_4 => ?_) (fun c_4 => ?_)
        · refine r_iconst (v := 1) dX8_canStand_57 (by decide) ?_
          refine r_goto 62 dX8_canStand_58 (by decide) ?_
          refine r_ret .boolean dX8_canStand_62 rfl rfl ?_
          exact ⟨by unfold s_X8_canStand; rw [if_pos c_1, if_pos c_2, if_neg c_3, if_pos c_4], rfl⟩
        · refine r_iload_n dX8_canStand_51 rfl 0 rfl ?_
          refine r_bipush (v := 91) dX8_canStand_52 (by decide) ?_
          refine r_icmp_ne 61 dX8_canStand_54 (by decide) (fun c_5 => ?_) (fun c_5 => ?_)
          · refine r_iconst (v := 0) dX8_canStand_61 (by decide) ?_
            refine r_ret .boolean dX8_canStand_62 rfl rfl ?_
            exact ⟨by unfold s_X8_canStand; rw [if_pos c_1, if_pos c_2, if_neg c_3, if_neg c_4, if_neg c_5], rfl⟩
          · refine r_iconst (v := 1) dX8_canStand_57 (by decide) ?_
            refine r_goto 62 dX8_canStand_58 (by decide) ?_
            refine r_ret .boolean dX8_canStand_62 rfl rfl ?_
            exact ⟨by unfold s_X8_canStand; rw [if_pos c_1, if_pos c_2, if_neg c_3, if_neg c_4, if_pos c_5], rfl⟩
  by_cases c_6 : a1 = 1
  · refine r_tin 63 dX8_canStand_1 (by rw [c_6]; decide) (by rw [c_6]; decide) (by rw [c_6]; rfl) (by decide) ?_
    refine r_iload_n dX8_canStand_63 rfl 0 rfl ?_
    refine r_callS (st := []) [.int a0] 0 0 dX8_canStand_64 kX8_slotOf nX8_slotOf lRX8_290 (c_X8_slotOf a0) rfl rfl (by decide) (Nat.le_refl _) (Nat.le_refl _) (fun _ _ h => h.elim) ?_
    refine cx_det (st2 := [.int (s_X8_slotOf a0)]) rfl ?_
    refine r_iconst (v := (-1)) dX8_canStand_67 (by decide) ?_
    refine r_icmp_eq 75 dX8_canStand_68 (by decide) (fun c_7 => ?_) (fun c_7 => ?_)
    · refine r_iconst (v := 0) dX8_canStand_75 (by decide) ?_
      refine r_ret .boolean dX8_canStand_76 rfl rfl ?_
      exact ⟨by unfold s_X8_canStand; rw [if_neg c_1, if_pos c_6, if_pos c_7], rfl⟩
    · refine r_iconst (v := 1) dX8_canStand_71 (by decide) ?_
      refine r_goto 76 dX8_canStand_72 (by decide) ?_
      refine r_ret .boolean dX8_canStand_76 rfl rfl ?_
      exact ⟨by unfold s_X8_canStand; rw [if_neg c_1, if_pos c_6, if_neg c_7], rfl⟩
  by_cases c_8 : a1 = 2
  · refine r_tin 77 dX8_canStand_1 (by rw [c_8]; decide) (by rw [c_8]; decide) (by rw [c_8]; rfl) (by decide) ?_
    refine r_iload_n dX8_canStand_77 rfl 0 rfl ?_
    refine r_callS (st := []) [.int a0] 0 0 dX8_canStand_78 kX8_caseOf nX8_caseOf lRX8_294 (c_X8_caseOf a0) rfl rfl (by decide) (Nat.le_refl _) (Nat.le_refl _) (fun _ _ h => h.elim) ?_
    refine cx_det (st2 := [.int (s_X8_caseOf a0)]) rfl ?_
    refine r_iconst (v := (-1)) dX8_canStand_81 (by decide) ?_
    refine r_icmp_eq 89 dX8_canStand_82 (by decide) (fun c_9 => ?_) (fun c_9 => ?_)
    · refine r_iconst (v := 0) dX8_canStand_89 (by decide) ?_
      refine r_ret .boolean dX8_canStand_90 rfl rfl ?_
      exact ⟨by unfold s_X8_canStand; rw [if_neg c_1, if_neg c_6, if_pos c_8, if_pos c_9], rfl⟩
    · refine r_iconst (v := 1) dX8_canStand_85 (by decide) ?_
      refine r_goto 90 dX8_canStand_86 (by decide) ?_
      refine r_ret .boolean dX8_canStand_90 rfl rfl ?_
      exact ⟨by unfold s_X8_canStand; rw [if_neg c_1, if_neg c_6, if_pos c_8, if_neg c_9], rfl⟩
  by_cases c_10 : a1 = 3
  · refine r_tin 91 dX8_canStand_1 (by rw [c_10]; decide) (by rw [c_10]; decide) (by rw [c_10]; rfl) (by decide) ?_
    refine r_iload_n dX8_canStand_91 rfl 0 rfl ?_
    refine r_callS (st := []) [.int a0] 0 0 dX8_canStand_92 kX8_numberOf nX8_numberOf lRX8_297 (c_X8_numberOf a0) rfl rfl (by decide) (Nat.le_refl _) (Nat.le_refl _) (fun _ _ h => h.elim) ?_
    refine cx_det (st2 := [.int (s_X8_numberOf a0)]) rfl ?_
    refine r_iconst (v := (-1)) dX8_canStand_95 (by decide) ?_
    refine r_icmp_eq 103 dX8_canStand_96 (by decide) (fun c_11 => ?_) (fun c_11 => ?_)
    · refine r_iconst (v := 0) dX8_canStand_103 (by decide) ?_
      refine r_ret .boolean dX8_canStand_104 rfl rfl ?_
      exact ⟨by unfold s_X8_canStand; rw [if_neg c_1, if_neg c_6, if_neg c_8, if_pos c_10, if_pos c_11], rfl⟩
    · refine r_iconst (v := 1) dX8_canStand_99 (by decide) ?_
      refine r_goto 104 dX8_canStand_100 (by decide) ?_
      refine r_ret .boolean dX8_canStand_104 rfl rfl ?_
      exact ⟨by unfold s_X8_canStand; rw [if_neg c_1, if_neg c_6, if_neg c_8, if_pos c_10, if_neg c_11], rfl⟩
  refine r_tout 105 dX8_canStand_1 (cx_sw 4 (by decide) (fun k hk => by
    match k, hk with
    | 0, _ => exact c_1
    | 1, _ => exact c_6
    | 2, _ => exact c_8
    | 3, _ => exact c_10
    | k + 4, hk => exact absurd hk (by omega))) (by decide) ?_
  refine r_iload_n dX8_canStand_105 rfl 0 rfl ?_
  refine r_bipush (v := 93) dX8_canStand_106 (by decide) ?_
  refine r_icmp_ne 115 dX8_canStand_108 (by decide) (fun c_12 => ?_) (fun c_12 => ?_)
  · refine r_iconst (v := 0) dX8_canStand_115 (by decide) ?_
    refine r_ret .boolean dX8_canStand_116 rfl rfl ?_
    exact ⟨by unfold s_X8_canStand; rw [if_neg c_1, if_neg c_6, if_neg c_8, if_neg c_10, if_neg c_12], rfl⟩
  · refine r_iconst (v := 1) dX8_canStand_111 (by decide) ?_
    refine r_goto 116 dX8_canStand_112 (by decide) ?_
    refine r_ret .boolean dX8_canStand_116 rfl rfl ?_
    exact ⟨by unfold s_X8_canStand; rw [if_neg c_1, if_neg c_6, if_neg c_8, if_neg c_10, if_pos c_12], rfl⟩
theorem nb_X8_canStand {a0 a1 : Int32} : isZ (s_X8_canStand a0 a1) := by
  unfold s_X8_canStand
  repeat' (first | refine isZ_ite ?_ ?_ | exact isZ_0 | exact isZ_1)
def s_X9_isIn (a0 a1 a2 : Int32) : Int32 := if a0 < a1 then 0 else if a2 < a0 then 0 else 1
set_option maxRecDepth 100000 in
set_option maxHeartbeats 4000000 in
theorem c_X9_isIn {d b0 : Nat} {G : GH} (a0 a1 a2 : Int32) : CTd mX9_isIn d b0 G [.int a0, .int a1, .int a2] 0 0 (some (.int (s_X9_isIn a0 a1 a2))) G := by
  refine CT.intro (by decide +kernel) rfl (Nat.le_of_ble_eq_true rfl) ?_
  show WP mX9_isIn _ _ _ _ _ 0 0 0 [(0, .int a0), (1, .int a1), (2, .int a2)] []
  refine r_iload_n dX9_isIn_0 rfl 0 rfl ?_
  refine r_iload_n dX9_isIn_1 rfl 1 rfl ?_
  refine r_icmp_lt 14 dX9_isIn_2 (by decide) (fun c_1 => ?_) (fun c_1 => ?_)
  · refine r_iconst (v := 0) dX9_isIn_14 (by decide) ?_
    refine r_ret .boolean dX9_isIn_15 rfl rfl ?_
    exact ⟨by unfold s_X9_isIn; rw [if_pos c_1], rfl⟩
  · refine r_iload_n dX9_isIn_5 rfl 0 rfl ?_
    refine r_iload_n dX9_isIn_6 rfl 2 rfl ?_
    refine r_icmp_gt 14 dX9_isIn_7 (by decide) (fun c_2 => ?_) (fun c_2 => ?_)
    · refine r_iconst (v := 0) dX9_isIn_14 (by decide) ?_
      refine r_ret .boolean dX9_isIn_15 rfl rfl ?_
      exact ⟨by unfold s_X9_isIn; rw [if_neg c_1, if_pos c_2], rfl⟩
    · refine r_iconst (v := 1) dX9_isIn_10 (by decide) ?_
      refine r_goto 15 dX9_isIn_11 (by decide) ?_
      refine r_ret .boolean dX9_isIn_15 rfl rfl ?_
      exact ⟨by unfold s_X9_isIn; rw [if_neg c_1, if_neg c_2], rfl⟩
theorem nb_X9_isIn {a0 a1 a2 : Int32} : isZ (s_X9_isIn a0 a1 a2) := by
  unfold s_X9_isIn
  repeat' (first | refine isZ_ite ?_ ?_ | exact isZ_0 | exact isZ_1)
def s_X9_isSmall (a0 : Int32) : Int32 := if a0 < 97 then 0 else if 122 < a0 then 0 else 1
set_option maxRecDepth 100000 in
set_option maxHeartbeats 4000000 in
theorem c_X9_isSmall {d b0 : Nat} {G : GH} (a0 : Int32) : CTd mX9_isSmall d b0 G [.int a0] 0 0 (some (.int (s_X9_isSmall a0))) G := by
  refine CT.intro (by decide +kernel) rfl (Nat.le_of_ble_eq_true rfl) ?_
  show WP mX9_isSmall _ _ _ _ _ 0 0 0 [(0, .int a0)] []
  refine r_iload_n dX9_isSmall_0 rfl 0 rfl ?_
  refine r_bipush (v := 97) dX9_isSmall_1 (by decide) ?_
  refine r_icmp_lt 16 dX9_isSmall_3 (by decide) (fun c_1 => ?_) (fun c_1 => ?_)
  · refine r_iconst (v := 0) dX9_isSmall_16 (by decide) ?_
    refine r_ret .boolean dX9_isSmall_17 rfl rfl ?_
    exact ⟨by unfold s_X9_isSmall; rw [if_pos c_1], rfl⟩
  · refine r_iload_n dX9_isSmall_6 rfl 0 rfl ?_
    refine r_bipush (v := 122) dX9_isSmall_7 (by decide) ?_
    refine r_icmp_gt 16 dX9_isSmall_9 (by decide) (fun c_2 => ?_) (fun c_2 => ?_)
    · refine r_iconst (v := 0) dX9_isSmall_16 (by decide) ?_
      refine r_ret .boolean dX9_isSmall_17 rfl rfl ?_
      exact ⟨by unfold s_X9_isSmall; rw [if_neg c_1, if_pos c_2], rfl⟩
    · refine r_iconst (v := 1) dX9_isSmall_12 (by decide) ?_
      refine r_goto 17 dX9_isSmall_13 (by decide) ?_
      refine r_ret .boolean dX9_isSmall_17 rfl rfl ?_
      exact ⟨by unfold s_X9_isSmall; rw [if_neg c_1, if_neg c_2], rfl⟩
theorem nb_X9_isSmall {a0 : Int32} : isZ (s_X9_isSmall a0) := by
  unfold s_X9_isSmall
  repeat' (first | refine isZ_ite ?_ ?_ | exact isZ_0 | exact isZ_1)
def s_X9_isLanguage (a0 : Int32) : Int32 := s_X9_isIn a0 0 2
set_option maxRecDepth 100000 in
set_option maxHeartbeats 4000000 in
theorem c_X9_isLanguage {d b0 : Nat} {G : GH} (a0 : Int32) : CTd mX9_isLanguage (d + 1) b0 G [.int a0] 0 0 (some (.int (s_X9_isLanguage a0))) G := by
  refine CT.intro (by decide +kernel) rfl (Nat.le_of_ble_eq_true rfl) ?_
  show WP mX9_isLanguage _ _ _ _ _ 0 0 0 [(0, .int a0)] []
  refine r_iload_n dX9_isLanguage_0 rfl 0 rfl ?_
  refine r_iconst (v := 0) dX9_isLanguage_1 (by decide) ?_
  refine r_iconst (v := 2) dX9_isLanguage_2 (by decide) ?_
  refine r_callS (st := []) [.int a0, .int 0, .int 2] 0 0 dX9_isLanguage_3 kX9_isIn nX9_isIn lRX9_73 (c_X9_isIn a0 0 2) rfl rfl (by decide) (Nat.le_refl _) (Nat.le_refl _) (fun _ _ h => h.elim) ?_
  refine cx_det (st2 := [.int (s_X9_isIn a0 0 2)]) rfl ?_
  refine r_ret .boolean dX9_isLanguage_6 rfl (nb_X9_isIn) ?_
  exact ⟨by unfold s_X9_isLanguage; rfl, rfl⟩
theorem nb_X9_isLanguage {a0 : Int32} : isZ (s_X9_isLanguage a0) := by
  unfold s_X9_isLanguage
  repeat' (first | refine isZ_ite ?_ ?_ | exact nb_X9_isIn | exact isZ_0 | exact isZ_1)
def s_X9_isVowel (a0 : Int32) : Int32 := if a0 = 97 then 1 else if a0 = 101 then 1 else if a0 = 105 then 1 else if a0 = 111 then 1 else if a0 = 117 then 1 else 0
set_option maxRecDepth 100000 in
set_option maxHeartbeats 4000000 in
theorem c_X9_isVowel {d b0 : Nat} {G : GH} (a0 : Int32) : CTd mX9_isVowel d b0 G [.int a0] 0 0 (some (.int (s_X9_isVowel a0))) G := by
  refine CT.intro (by decide +kernel) rfl (Nat.le_of_ble_eq_true rfl) ?_
  show WP mX9_isVowel _ _ _ _ _ 0 0 0 [(0, .int a0)] []
  refine r_iload_n dX9_isVowel_0 rfl 0 rfl ?_
  refine r_bipush (v := 97) dX9_isVowel_1 (by decide) ?_
  refine r_icmp_eq 30 dX9_isVowel_3 (by decide) (fun c_1 => ?_) (fun c_1 => ?_)
  · refine r_iconst (v := 1) dX9_isVowel_30 (by decide) ?_
    refine r_goto 35 dX9_isVowel_31 (by decide) ?_
    refine r_ret .boolean dX9_isVowel_35 rfl rfl ?_
    exact ⟨by unfold s_X9_isVowel; rw [if_pos c_1], rfl⟩
  · refine r_iload_n dX9_isVowel_6 rfl 0 rfl ?_
    refine r_bipush (v := 101) dX9_isVowel_7 (by decide) ?_
    refine r_icmp_eq 30 dX9_isVowel_9 (by decide) (fun c_2 => ?_) (fun c_2 => ?_)
    · refine r_iconst (v := 1) dX9_isVowel_30 (by decide) ?_
      refine r_goto 35 dX9_isVowel_31 (by decide) ?_
      refine r_ret .boolean dX9_isVowel_35 rfl rfl ?_
      exact ⟨by unfold s_X9_isVowel; rw [if_neg c_1, if_pos c_2], rfl⟩
    · refine r_iload_n dX9_isVowel_12 rfl 0 rfl ?_
      refine r_bipush (v := 105) dX9_isVowel_13 (by decide) ?_
      refine r_icmp_eq 30 dX9_isVowel_15 (by decide) (fun c_3 => ?_) (fun c_3 => ?_)
      · refine r_iconst (v := 1) dX9_isVowel_30 (by decide) ?_
        refine r_goto 35 dX9_isVowel_31 (by decide) ?_
        refine r_ret .boolean dX9_isVowel_35 rfl rfl ?_
        exact ⟨by unfold s_X9_isVowel; rw [if_neg c_1, if_neg c_2, if_pos c_3], rfl⟩
      · refine r_iload_n dX9_isVowel_18 rfl 0 rfl ?_
        refine r_bipush (v := 111) dX9_isVowel_19 (by decide) ?_
        refine r_icmp_eq 30 dX9_isVowel_21 (by decide) (fun c_4 => ?_) (fun c_4 => ?_)
        · refine r_iconst (v := 1) dX9_isVowel_30 (by decide) ?_
          refine r_goto 35 dX9_isVowel_31 (by decide) ?_
          refine r_ret .boolean dX9_isVowel_35 rfl rfl ?_
          exact ⟨by unfold s_X9_isVowel; rw [if_neg c_1, if_neg c_2, if_neg c_3, if_pos c_4], rfl⟩
        · refine r_iload_n dX9_isVowel_24 rfl 0 rfl ?_
          refine r_bipush (v := 117) dX9_isVowel_25 (by decide) ?_
          refine r_icmp_ne 34 dX9_isVowel_27 (by decide) (fun c_5 => ?_) (fun c_5 => ?_)
          · refine r_iconst (v := 0) dX9_isVowel_34 (by decide) ?_
            refine r_ret .boolean dX9_isVowel_35 rfl rfl ?_
            exact ⟨by unfold s_X9_isVowel; rw [if_neg c_1, if_neg c_2, if_neg c_3, if_neg c_4, if_neg c_5], rfl⟩
          · refine r_iconst (v := 1) dX9_isVowel_30 (by decide) ?_
            refine r_goto 35 dX9_isVowel_31 (by decide) ?_
            refine r_ret .boolean dX9_isVowel_35 rfl rfl ?_
            exact ⟨by unfold s_X9_isVowel; rw [if_neg c_1, if_neg c_2, if_neg c_3, if_neg c_4, if_pos c_5], rfl⟩
theorem nb_X9_isVowel {a0 : Int32} : isZ (s_X9_isVowel a0) := by
  unfold s_X9_isVowel
  repeat' (first | refine isZ_ite ?_ ?_ | exact isZ_0 | exact isZ_1)
def s_X9_isCase (a0 : Int32) : Int32 := if a0 = 110 then 1 else if a0 = 103 then 1 else if a0 = 100 then 1 else if a0 = 97 then 1 else 0
set_option maxRecDepth 100000 in
set_option maxHeartbeats 4000000 in
theorem c_X9_isCase {d b0 : Nat} {G : GH} (a0 : Int32) : CTd mX9_isCase d b0 G [.int a0] 0 0 (some (.int (s_X9_isCase a0))) G := by
  refine CT.intro (by decide +kernel) rfl (Nat.le_of_ble_eq_true rfl) ?_
  show WP mX9_isCase _ _ _ _ _ 0 0 0 [(0, .int a0)] []
  refine r_iload_n dX9_isCase_0 rfl 0 rfl ?_
  refine r_bipush (v := 110) dX9_isCase_1 (by decide) ?_
  refine r_icmp_eq 24 dX9_isCase_3 (by decide) (fun c_1 => ?_) (fun c_1 => ?_)
  · refine r_iconst (v := 1) dX9_isCase_24 (by decide) ?_
    refine r_goto 29 dX9_isCase_25 (by decide) ?_
    refine r_ret .boolean dX9_isCase_29 rfl rfl ?_
    exact ⟨by unfold s_X9_isCase; rw [if_pos c_1], rfl⟩
  · refine r_iload_n dX9_isCase_6 rfl 0 rfl ?_
    refine r_bipush (v := 103) dX9_isCase_7 (by decide) ?_
    refine r_icmp_eq 24 dX9_isCase_9 (by decide) (fun c_2 => ?_) (fun c_2 => ?_)
    · refine r_iconst (v := 1) dX9_isCase_24 (by decide) ?_
      refine r_goto 29 dX9_isCase_25 (by decide) ?_
      refine r_ret .boolean dX9_isCase_29 rfl rfl ?_
      exact ⟨by unfold s_X9_isCase; rw [if_neg c_1, if_pos c_2], rfl⟩
    · refine r_iload_n dX9_isCase_12 rfl 0 rfl ?_
      refine r_bipush (v := 100) dX9_isCase_13 (by decide) ?_
      refine r_icmp_eq 24 dX9_isCase_15 (by decide) (fun c_3 => ?_) (fun c_3 => ?_)
      · refine r_iconst (v := 1) dX9_isCase_24 (by decide) ?_
        refine r_goto 29 dX9_isCase_25 (by decide) ?_
        refine r_ret .boolean dX9_isCase_29 rfl rfl ?_
        exact ⟨by unfold s_X9_isCase; rw [if_neg c_1, if_neg c_2, if_pos c_3], rfl⟩
      · refine r_iload_n dX9_isCase_18 rfl 0 rfl ?_
        refine r_bipush (v := 97) dX9_isCase_19 (by decide) ?_
        refine r_icmp_ne 28 dX9_isCase_21 (by decide) (fun c_4 => ?_) (fun c_4 => ?_)
        · refine r_iconst (v := 0) dX9_isCase_28 (by decide) ?_
          refine r_ret .boolean dX9_isCase_29 rfl rfl ?_
          exact ⟨by unfold s_X9_isCase; rw [if_neg c_1, if_neg c_2, if_neg c_3, if_neg c_4], rfl⟩
        · refine r_iconst (v := 1) dX9_isCase_24 (by decide) ?_
          refine r_goto 29 dX9_isCase_25 (by decide) ?_
          refine r_ret .boolean dX9_isCase_29 rfl rfl ?_
          exact ⟨by unfold s_X9_isCase; rw [if_neg c_1, if_neg c_2, if_neg c_3, if_pos c_4], rfl⟩
theorem nb_X9_isCase {a0 : Int32} : isZ (s_X9_isCase a0) := by
  unfold s_X9_isCase
  repeat' (first | refine isZ_ite ?_ ?_ | exact isZ_0 | exact isZ_1)
def s_X9_at (a0 a1 : Int32) : Int32 := (3 * a0) + a1
set_option maxRecDepth 100000 in
set_option maxHeartbeats 4000000 in
theorem c_X9_at {d b0 : Nat} {G : GH} (a0 a1 : Int32) : CTd mX9_at d b0 G [.int a0, .int a1] 0 0 (some (.int (s_X9_at a0 a1))) G := by
  refine CT.intro (by decide +kernel) rfl (Nat.le_of_ble_eq_true rfl) ?_
  show WP mX9_at _ _ _ _ _ 0 0 0 [(0, .int a0), (1, .int a1)] []
  refine r_iconst (v := 3) dX9_at_0 (by decide) ?_
  refine r_iload_n dX9_at_1 rfl 0 rfl ?_
  refine r_imul dX9_at_2 ?_
  refine r_iload_n dX9_at_3 rfl 1 rfl ?_
  refine r_iadd dX9_at_4 ?_
  refine r_ireti dX9_at_5 rfl ?_
  exact ⟨by unfold s_X9_at; rfl, rfl⟩
def s_X9_grammar (a0 a1 : Int32) : Int32 := if a0 = 110 then if a1 = 112 then (2 * 0) + 1 else (2 * 0) + 0 else if a0 = 103 then if a1 = 112 then (2 * 1) + 1 else (2 * 1) + 0 else if a0 = 100 then if a1 = 112 then (2 * 2) + 1 else (2 * 2) + 0 else if a1 = 112 then (2 * 3) + 1 else (2 * 3) + 0
set_option maxRecDepth 100000 in
set_option maxHeartbeats 4000000 in
theorem c_X9_grammar {d b0 : Nat} {G : GH} (a0 a1 : Int32) : CTd mX9_grammar d b0 G [.int a0, .int a1] 0 0 (some (.int (s_X9_grammar a0 a1))) G := by
  refine CT.intro (by decide +kernel) rfl (Nat.le_of_ble_eq_true rfl) ?_
  show WP mX9_grammar _ _ _ _ _ 0 0 0 [(0, .int a0), (1, .int a1)] []
  refine r_iconst (v := 2) dX9_grammar_0 (by decide) ?_
  refine r_iload_n dX9_grammar_1 rfl 0 rfl ?_
  refine r_bipush (v := 110) dX9_grammar_2 (by decide) ?_
  refine r_icmp_ne 11 dX9_grammar_4 (by decide) (fun c_1 => ?_) (fun c_1 => ?_)
  · refine r_iload_n dX9_grammar_11 rfl 0 rfl ?_
    refine r_bipush (v := 103) dX9_grammar_12 (by decide) ?_
    refine r_icmp_ne 21 dX9_grammar_14 (by decide) (fun c_2 => ?_) (fun c_2 => ?_)
    · refine r_iload_n dX9_grammar_21 rfl 0 rfl ?_
      refine r_bipush (v := 100) dX9_grammar_22 (by decide) ?_
      refine r_icmp_ne 31 dX9_grammar_24 (by decide) (fun c_3 => ?_) (fun c_3 => ?_)
      · refine r_iconst (v := 3) dX9_grammar_31 (by decide) ?_
        refine r_imul dX9_grammar_32 ?_
        refine r_iload_n dX9_grammar_33 rfl 1 rfl ?_
        refine r_bipush (v := 112) dX9_grammar_34 (by decide) ?_
        refine r_icmp_ne 43 dX9_grammar_36 (by decide) (fun c_4 => ?_) (fun c_4 => ?_)
        · refine r_iconst (v := 0) dX9_grammar_43 (by decide) ?_
          refine r_iadd dX9_grammar_44 ?_
          refine r_ireti dX9_grammar_45 rfl ?_
          exact ⟨by unfold s_X9_grammar; rw [if_neg c_1, if_neg c_2, if_neg c_3, if_neg c_4], rfl⟩
        · refine r_iconst (v := 1) dX9_grammar_39 (by decide) ?_
          refine r_goto 44 dX9_grammar_40 (by decide) ?_
          refine r_iadd dX9_grammar_44 ?_
          refine r_ireti dX9_grammar_45 rfl ?_
          exact ⟨by unfold s_X9_grammar; rw [if_neg c_1, if_neg c_2, if_neg c_3, if_pos c_4], rfl⟩
      · refine r_iconst (v := 2) dX9_grammar_27 (by decide) ?_
        refine r_goto 32 dX9_grammar_28 (by decide) ?_
        refine r_imul dX9_grammar_32 ?_
        refine r_iload_n dX9_grammar_33 rfl 1 rfl ?_
        refine r_bipush (v := 112) dX9_grammar_34 (by decide) ?_
        refine r_icmp_ne 43 dX9_grammar_36 (by decide) (fun c_5 => ?_) (fun c_5 => ?_)
        · refine r_iconst (v := 0) dX9_grammar_43 (by decide) ?_
          refine r_iadd dX9_grammar_44 ?_
          refine r_ireti dX9_grammar_45 rfl ?_
          exact ⟨by unfold s_X9_grammar; rw [if_neg c_1, if_neg c_2, if_pos c_3, if_neg c_5], rfl⟩
        · refine r_iconst (v := 1) dX9_grammar_39 (by decide) ?_
          refine r_goto 44 dX9_grammar_40 (by decide) ?_
          refine r_iadd dX9_grammar_44 ?_
          refine r_ireti dX9_grammar_45 rfl ?_
          exact ⟨by unfold s_X9_grammar; rw [if_neg c_1, if_neg c_2, if_pos c_3, if_pos c_5], rfl⟩
    · refine r_iconst (v := 1) dX9_grammar_17 (by decide) ?_
      refine r_goto 32 dX9_grammar_18 (by decide) ?_
      refine r_imul dX9_grammar_32 ?_
      refine r_iload_n dX9_grammar_33 rfl 1 rfl ?_
      refine r_bipush (v := 112) dX9_grammar_34 (by decide) ?_
      refine r_icmp_ne 43 dX9_grammar_36 (by decide) (fun c_6 => ?_) (fun c_6 => ?_)
      · refine r_iconst (v := 0) dX9_grammar_43 (by decide) ?_
        refine r_iadd dX9_grammar_44 ?_
        refine r_ireti dX9_grammar_45 rfl ?_
        exact ⟨by unfold s_X9_grammar; rw [if_neg c_1, if_pos c_2, if_neg c_6], rfl⟩
      · refine r_iconst (v := 1) dX9_grammar_39 (by decide) ?_
        refine r_goto 44 dX9_grammar_40 (by decide) ?_
        refine r_iadd dX9_grammar_44 ?_
        refine r_ireti dX9_grammar_45 rfl ?_
        exact ⟨by unfold s_X9_grammar; rw [if_neg c_1, if_pos c_2, if_pos c_6], rfl⟩
  · refine r_iconst (v := 0) dX9_grammar_7 (by decide) ?_
    refine r_goto 32 dX9_grammar_8 (by decide) ?_
    refine r_imul dX9_grammar_32 ?_
    refine r_iload_n dX9_grammar_33 rfl 1 rfl ?_
    refine r_bipush (v := 112) dX9_grammar_34 (by decide) ?_
    refine r_icmp_ne 43 dX9_grammar_36 (by decide) (fun c_7 => ?_) (fun c_7 => ?_)
    · refine r_iconst (v := 0) dX9_grammar_43 (by decide) ?_
      refine r_iadd dX9_grammar_44 ?_
      refine r_ireti dX9_grammar_45 rfl ?_
      exact ⟨by unfold s_X9_grammar; rw [if_pos c_1, if_neg c_7], rfl⟩
    · refine r_iconst (v := 1) dX9_grammar_39 (by decide) ?_
      refine r_goto 44 dX9_grammar_40 (by decide) ?_
      refine r_iadd dX9_grammar_44 ?_
      refine r_ireti dX9_grammar_45 rfl ?_
      exact ⟨by unfold s_X9_grammar; rw [if_pos c_1, if_pos c_7], rfl⟩
def s_X9_behind (a0 a1 : Int32) : Int32 := if a0 = 0 then if (s_X9_isSmall a1) = 0 then if a1 = 32 then if a1 = 91 then 1 else 0 else if a1 = 46 then if a1 = 91 then 1 else 0 else if a1 = 91 then 1 else (-1) else if a1 = 91 then 1 else 0 else if a0 = 1 then if a1 < 48 then (-1) else if 53 ≤ a1 then (-1) else (a0 + 1) - (a0 + 1) / 5 * 5 else if a0 = 2 then if (s_X9_isCase a1) = 0 then (-1) else (a0 + 1) - (a0 + 1) / 5 * 5 else if a0 = 3 then if a1 = 115 then (a0 + 1) - (a0 + 1) / 5 * 5 else if a1 = 112 then (a0 + 1) - (a0 + 1) / 5 * 5 else (-1) else if a1 = 93 then (a0 + 1) - (a0 + 1) / 5 * 5 else (-1)
set_option maxRecDepth 100000 in
set_option maxHeartbeats 4000000 in
theorem c_X9_behind {d b0 : Nat} {G : GH} (a0 a1 : Int32) : CTd mX9_behind (d + 1) b0 G [.int a0, .int a1] 0 0 (some (.int (s_X9_behind a0 a1))) G := by
  refine CT.intro (by decide +kernel) rfl (Nat.le_of_ble_eq_true rfl) ?_
  show WP mX9_behind _ _ _ _ _ 0 0 0 [(0, .int a0), (1, .int a1)] []
  refine r_iload_n dX9_behind_0 rfl 0 rfl ?_
  refine r_if_ne 37 dX9_behind_1 (by decide) (fun c_1 => ?_) (fun c_1 => ?_)
  · refine r_iload_n dX9_behind_37 rfl 0 rfl ?_
    refine r_iconst (v := 1) dX9_behind_38 (by decide) ?_
    refine r_icmp_ne 62 dX9_behind_39 (by decide) (fun c_2 => ?_) (fun c_2 => ?_)
    · refine r_iload_n dX9_behind_62 rfl 0 rfl ?_
      refine r_iconst (v := 2) dX9_behind_63 (by decide) ?_
      refine r_icmp_ne 74 dX9_behind_64 (by decide) (fun c_3 => ?_) (fun c_3 => ?_)
      · refine r_iload_n dX9_behind_74 rfl 0 rfl ?_
        refine r_iconst (v := 3) dX9_behind_75 (by decide) ?_
        refine r_icmp_ne 99 dX9_behind_76 (by decide) (fun c_4 => ?_) (fun c_4 => ?_)
        · refine r_iload_n dX9_behind_99 rfl 1 rfl ?_
          refine r_bipush (v := 93) dX9_behind_100 (by decide) ?_
          refine r_icmp_ne 109 dX9_behind_102 (by decide) (fun c_5 => ?_) (fun c_5 => ?_)
          · refine r_iconst (v := 0) dX9_behind_109 (by decide) ?_
            refine r_istore_n [(2, .int 0), (0, .int a0), (1, .int a1)] dX9_behind_110 rfl (by decide) rfl ?_
            refine r_iload_n dX9_behind_111 rfl 0 rfl ?_
            refine r_if_ne 119 dX9_behind_112 (by decide) (fun c_6 => absurd (by decide) c_6) (fun c_6 => ?_)
            refine r_iconst (v := (-1)) dX9_behind_115 (by decide) ?_
            refine r_goto 142 dX9_behind_116 (by decide) ?_
            refine r_ireti dX9_behind_142 rfl ?_
            exact ⟨by unfold s_X9_behind; rw [if_neg c_1, if_neg c_2, if_neg c_3, if_neg c_4, if_neg c_5], rfl⟩
          · refine r_iconst (v := 1) dX9_behind_105 (by decide) ?_
            refine r_goto 110 dX9_behind_106 (by decide) ?_
            refine r_istore_n [(2, .int 1), (0, .int a0), (1, .int a1)] dX9_behind_110 rfl (by decide) rfl ?_
            refine r_iload_n dX9_behind_111 rfl 0 rfl ?_
            refine r_if_ne 119 dX9_behind_112 (by decide) (fun c_7 => ?_) (fun c_7 => absurd c_7 (by decide))
            refine r_iload_n dX9_behind_119 rfl 1 rfl ?_
            refine r_if_ne 137 dX9_behind_120 (by decide) (fun c_8 => ?_) (fun c_8 => absurd c_8 c_1)
            refine r_iload_n dX9_behind_137 rfl 1 rfl ?_
            refine r_iconst (v := 1) dX9_behind_138 (by decide) ?_
            refine r_iadd dX9_behind_139 ?_
            refine r_iconst (v := 5) dX9_behind_140 (by decide) ?_
            refine r_irem dX9_behind_141 (by decide) ?_
            refine r_ireti dX9_behind_142 rfl ?_
            exact ⟨by unfold s_X9_behind; rw [if_neg c_1, if_neg c_2, if_neg c_3, if_neg c_4, if_pos c_5], rfl⟩
        · refine r_iload_n dX9_behind_79 rfl 1 rfl ?_
          refine r_bipush (v := 115) dX9_behind_80 (by decide) ?_
          refine r_icmp_eq 91 dX9_behind_82 (by decide) (fun c_9 => ?_) (fun c_9 => ?_)
          · refine r_iconst (v := 1) dX9_behind_91 (by decide) ?_
            refine r_goto 110 dX9_behind_92 (by decide) ?_
            refine r_istore_n [(2, .int 1), (0, .int a0), (1, .int a1)] dX9_behind_110 rfl (by decide) rfl ?_
            refine r_iload_n dX9_behind_111 rfl 0 rfl ?_
            refine r_if_ne 119 dX9_behind_112 (by decide) (fun c_10 => ?_) (fun c_10 => absurd c_10 (by decide))
            refine r_iload_n dX9_behind_119 rfl 1 rfl ?_
            refine r_if_ne 137 dX9_behind_120 (by decide) (fun c_11 => ?_) (fun c_11 => absurd c_11 c_1)
            refine r_iload_n dX9_behind_137 rfl 1 rfl ?_
            refine r_iconst (v := 1) dX9_behind_138 (by decide) ?_
            refine r_iadd dX9_behind_139 ?_
            refine r_iconst (v := 5) dX9_behind_140 (by decide) ?_
            refine r_irem dX9_behind_141 (by decide) ?_
            refine r_ireti dX9_behind_142 rfl ?_
            exact ⟨by unfold s_X9_behind; rw [if_neg c_1, if_neg c_2, if_neg c_3, if_pos c_4, if_pos c_9], rfl⟩
          · refine r_iload_n dX9_behind_85 rfl 1 rfl ?_
            refine r_bipush (v := 112) dX9_behind_86 (by decide) ?_
            refine r_icmp_ne 95 dX9_behind_88 (by decide) (fun c_12 => ?_) (fun c_12 => ?_)
            · refine r_iconst (v := 0) dX9_behind_95 (by decide) ?_
              refine r_goto 110 dX9_behind_96 (by decide) ?_
              refine r_istore_n [(2, .int 0), (0, .int a0), (1, .int a1)] dX9_behind_110 rfl (by decide) rfl ?_
              refine r_iload_n dX9_behind_111 rfl 0 rfl ?_
              refine r_if_ne 119 dX9_behind_112 (by decide) (fun c_13 => absurd (by decide) c_13) (fun c_13 => ?_)
              refine r_iconst (v := (-1)) dX9_behind_115 (by decide) ?_
              refine r_goto 142 dX9_behind_116 (by decide) ?_
              refine r_ireti dX9_behind_142 rfl ?_
              exact ⟨by unfold s_X9_behind; rw [if_neg c_1, if_neg c_2, if_neg c_3, if_pos c_4, if_neg c_9, if_neg c_12], rfl⟩
            · refine r_iconst (v := 1) dX9_behind_91 (by decide) ?_
              refine r_goto 110 dX9_behind_92 (by decide) ?_
              refine r_istore_n [(2, .int 1), (0, .int a0), (1, .int a1)] dX9_behind_110 rfl (by decide) rfl ?_
              refine r_iload_n dX9_behind_111 rfl 0 rfl ?_
              refine r_if_ne 119 dX9_behind_112 (by decide) (fun c_14 => ?_) (fun c_14 => absurd c_14 (by decide))
              refine r_iload_n dX9_behind_119 rfl 1 rfl ?_
              refine r_if_ne 137 dX9_behind_120 (by decide) (fun c_15 => ?_) (fun c_15 => absurd c_15 c_1)
              refine r_iload_n dX9_behind_137 rfl 1 rfl ?_
              refine r_iconst (v := 1) dX9_behind_138 (by decide) ?_
              refine r_iadd dX9_behind_139 ?_
              refine r_iconst (v := 5) dX9_behind_140 (by decide) ?_
              refine r_irem dX9_behind_141 (by decide) ?_
              refine r_ireti dX9_behind_142 rfl ?_
              exact ⟨by unfold s_X9_behind; rw [if_neg c_1, if_neg c_2, if_neg c_3, if_pos c_4, if_neg c_9, if_pos c_12], rfl⟩
      · refine r_iload_n dX9_behind_67 rfl 1 rfl ?_
        refine r_callS (st := []) [.int a1] 0 0 dX9_behind_68 kX9_isCase nX9_isCase lRX9_114 (c_X9_isCase a1) rfl rfl (by decide) (Nat.le_refl _) (Nat.le_refl _) (fun _ _ h => h.elim) ?_
        refine cx_det (st2 := [.int (s_X9_isCase a1)]) rfl ?_
        refine r_goto 110 dX9_behind_71 (by decide) ?_
        refine r_istore_n [(2, .int (s_X9_isCase a1)), (0, .int a0), (1, .int a1)] dX9_behind_110 rfl (by decide) rfl ?_
        refine r_iload_n dX9_behind_111 rfl 0 rfl ?_
        refine r_if_ne 119 dX9_behind_112 (by decide) (fun c_17 => ?_) (fun c_17 => ?_)
        · refine r_iload_n dX9_behind_119 rfl 1 rfl ?_
          refine r_if_ne 137 dX9_behind_120 (by decide) (fun c_18 => ?_) (fun c_18 => absurd c_18 c_1)
          refine r_iload_n dX9_behind_137 rfl 1 rfl ?_
          refine r_iconst (v := 1) dX9_behind_138 (by decide) ?_
          refine r_iadd dX9_behind_139 ?_
          refine r_iconst (v := 5) dX9_behind_140 (by decide) ?_
          refine r_irem dX9_behind_141 (by decide) ?_
          refine r_ireti dX9_behind_142 rfl ?_
          exact ⟨by unfold s_X9_behind; rw [if_neg c_1, if_neg c_2, if_pos c_3, if_neg c_17], rfl⟩
        · refine r_iconst (v := (-1)) dX9_behind_115 (by decide) ?_
          refine r_goto 142 dX9_behind_116 (by decide) ?_
          refine r_ireti dX9_behind_142 rfl ?_
          exact ⟨by unfold s_X9_behind; rw [if_neg c_1, if_neg c_2, if_pos c_3, if_pos c_17], rfl⟩
    · refine r_iload_n dX9_behind_42 rfl 1 rfl ?_
      refine r_bipush (v := 48) dX9_behind_43 (by decide) ?_
      refine r_icmp_lt 58 dX9_behind_45 (by decide) (fun c_19 => ?_) (fun c_19 => ?_)
      · refine r_iconst (v := 0) dX9_behind_58 (by decide) ?_
        refine r_goto 110 dX9_behind_59 (by decide) ?_
        refine r_istore_n [(2, .int 0), (0, .int a0), (1, .int a1)] dX9_behind_110 rfl (by decide) rfl ?_
        refine r_iload_n dX9_behind_111 rfl 0 rfl ?_
        refine r_if_ne 119 dX9_behind_112 (by decide) (fun c_20 => absurd (by decide) c_20) (fun c_20 => ?_)
        refine r_iconst (v := (-1)) dX9_behind_115 (by decide) ?_
        refine r_goto 142 dX9_behind_116 (by decide) ?_
        refine r_ireti dX9_behind_142 rfl ?_
        exact ⟨by unfold s_X9_behind; rw [if_neg c_1, if_pos c_2, if_pos c_19], rfl⟩
      · refine r_iload_n dX9_behind_48 rfl 1 rfl ?_
        refine r_bipush (v := 53) dX9_behind_49 (by decide) ?_
        refine r_icmp_ge 58 dX9_behind_51 (by decide) (fun c_21 => ?_) (fun c_21 => ?_)
        · refine r_iconst (v := 0) dX9_behind_58 (by decide) ?_
          refine r_goto 110 dX9_behind_59 (by decide) ?_
          refine r_istore_n [(2, .int 0), (0, .int a0), (1, .int a1)] dX9_behind_110 rfl (by decide) rfl ?_
          refine r_iload_n dX9_behind_111 rfl 0 rfl ?_
          refine r_if_ne 119 dX9_behind_112 (by decide) (fun c_22 => absurd (by decide) c_22) (fun c_22 => ?_)
          refine r_iconst (v := (-1)) dX9_behind_115 (by decide) ?_
          refine r_goto 142 dX9_behind_116 (by decide) ?_
          refine r_ireti dX9_behind_142 rfl ?_
          exact ⟨by unfold s_X9_behind; rw [if_neg c_1, if_pos c_2, if_neg c_19, if_pos c_21], rfl⟩
        · refine r_iconst (v := 1) dX9_behind_54 (by decide) ?_
          refine r_goto 110 dX9_behind_55 (by decide) ?_
          refine r_istore_n [(2, .int 1), (0, .int a0), (1, .int a1)] dX9_behind_110 rfl (by decide) rfl ?_
          refine r_iload_n dX9_behind_111 rfl 0 rfl ?_
          refine r_if_ne 119 dX9_behind_112 (by decide) (fun c_23 => ?_) (fun c_23 => absurd c_23 (by decide))
          refine r_iload_n dX9_behind_119 rfl 1 rfl ?_
          refine r_if_ne 137 dX9_behind_120 (by decide) (fun c_24 => ?_) (fun c_24 => absurd c_24 c_1)
          refine r_iload_n dX9_behind_137 rfl 1 rfl ?_
          refine r_iconst (v := 1) dX9_behind_138 (by decide) ?_
          refine r_iadd dX9_behind_139 ?_
          refine r_iconst (v := 5) dX9_behind_140 (by decide) ?_
          refine r_irem dX9_behind_141 (by decide) ?_
          refine r_ireti dX9_behind_142 rfl ?_
          exact ⟨by unfold s_X9_behind; rw [if_neg c_1, if_pos c_2, if_neg c_19, if_neg c_21], rfl⟩
  · refine r_iload_n dX9_behind_4 rfl 1 rfl ?_
    refine r_callS (st := []) [.int a1] 0 0 dX9_behind_5 kX9_isSmall nX9_isSmall lRX9_96 (c_X9_isSmall a1) rfl rfl (by decide) (Nat.le_refl _) (Nat.le_refl _) (fun _ _ h => h.elim) ?_
    refine cx_det (st2 := [.int (s_X9_isSmall a1)]) rfl ?_
    refine r_if_ne 29 dX9_behind_8 (by decide) (fun c_25 => ?_) (fun c_25 => ?_)
    · refine r_iconst (v := 1) dX9_behind_29 (by decide) ?_
      refine r_goto 110 dX9_behind_30 (by decide) ?_
      refine r_istore_n [(2, .int 1), (0, .int a0), (1, .int a1)] dX9_behind_110 rfl (by decide) rfl ?_
      refine r_iload_n dX9_behind_111 rfl 0 rfl ?_
      refine r_if_ne 119 dX9_behind_112 (by decide) (fun c_26 => ?_) (fun c_26 => absurd c_26 (by decide))
      refine r_iload_n dX9_behind_119 rfl 1 rfl ?_
      refine r_if_ne 137 dX9_behind_120 (by decide) (fun c_27 => absurd c_1 c_27) (fun c_27 => ?_)
      refine r_iload_n dX9_behind_123 rfl 2 rfl ?_
      refine r_bipush (v := 91) dX9_behind_124 (by decide) ?_
      refine r_icmp_ne 133 dX9_behind_126 (by decide) (fun c_28 => ?_) (fun c_28 => ?_)
      · refine r_iconst (v := 0) dX9_behind_133 (by decide) ?_
        refine r_goto 142 dX9_behind_134 (by decide) ?_
        refine r_ireti dX9_behind_142 rfl ?_
        exact ⟨by unfold s_X9_behind; rw [if_pos c_1, if_neg c_25, if_neg c_28], rfl⟩
      · refine r_iconst (v := 1) dX9_behind_129 (by decide) ?_
        refine r_goto 142 dX9_behind_130 (by decide) ?_
        refine r_ireti dX9_behind_142 rfl ?_
        exact ⟨by unfold s_X9_behind; rw [if_pos c_1, if_neg c_25, if_pos c_28], rfl⟩
    · refine r_iload_n dX9_behind_11 rfl 1 rfl ?_
      refine r_bipush (v := 32) dX9_behind_12 (by decide) ?_
      refine r_icmp_eq 29 dX9_behind_14 (by decide) (fun c_29 => ?_) (fun c_29 => ?_)
      · refine r_iconst (v := 1) dX9_behind_29 (by decide) ?_
        refine r_goto 110 dX9_behind_30 (by decide) ?_
        refine r_istore_n [(2, .int 1), (0, .int a0), (1, .int a1)] dX9_behind_110 rfl (by decide) rfl ?_
        refine r_iload_n dX9_behind_111 rfl 0 rfl ?_
        refine r_if_ne 119 dX9_behind_112 (by decide) (fun c_30 => ?_) (fun c_30 => absurd c_30 (by decide))
        refine r_iload_n dX9_behind_119 rfl 1 rfl ?_
        refine r_if_ne 137 dX9_behind_120 (by decide) (fun c_31 => absurd c_1 c_31) (fun c_31 => ?_)
        refine r_iload_n dX9_behind_123 rfl 2 rfl ?_
        refine r_bipush (v := 91) dX9_behind_124 (by decide) ?_
        refine r_icmp_ne 133 dX9_behind_126 (by decide) (fun c_32 => ?_) (fun c_32 => ?_)
        · refine r_iconst (v := 0) dX9_behind_133 (by decide) ?_
          refine r_goto 142 dX9_behind_134 (by decide) ?_
          refine r_ireti dX9_behind_142 rfl ?_
          exact ⟨by unfold s_X9_behind; rw [if_pos c_1, if_pos c_25, if_pos c_29, if_neg c_32], rfl⟩
        · refine r_iconst (v := 1) dX9_behind_129 (by decide) ?_
          refine r_goto 142 dX9_behind_130 (by decide) ?_
          refine r_ireti dX9_behind_142 rfl ?_
          exact ⟨by unfold s_X9_behind; rw [if_pos c_1, if_pos c_25, if_pos c_29, if_pos c_32], rfl⟩
      · refine r_iload_n dX9_behind_17 rfl 1 rfl ?_
        refine r_bipush (v := 46) dX9_behind_18 (by decide) ?_
        refine r_icmp_eq 29 dX9_behind_20 (by decide) (fun c_33 => ?_) (fun c_33 => ?_)
        · refine r_iconst (v := 1) dX9_behind_29 (by decide) ?_
          refine r_goto 110 dX9_behind_30 (by decide) ?_
          refine r_istore_n [(2, .int 1), (0, .int a0), (1, .int a1)] dX9_behind_110 rfl (by decide) rfl ?_
          refine r_iload_n dX9_behind_111 rfl 0 rfl ?_
          refine r_if_ne 119 dX9_behind_112 (by decide) (fun c_34 => ?_) (fun c_34 => absurd c_34 (by decide))
          refine r_iload_n dX9_behind_119 rfl 1 rfl ?_
          refine r_if_ne 137 dX9_behind_120 (by decide) (fun c_35 => absurd c_1 c_35) (fun c_35 => ?_)
          refine r_iload_n dX9_behind_123 rfl 2 rfl ?_
          refine r_bipush (v := 91) dX9_behind_124 (by decide) ?_
          refine r_icmp_ne 133 dX9_behind_126 (by decide) (fun c_36 => ?_) (fun c_36 => ?_)
          · refine r_iconst (v := 0) dX9_behind_133 (by decide) ?_
            refine r_goto 142 dX9_behind_134 (by decide) ?_
            refine r_ireti dX9_behind_142 rfl ?_
            exact ⟨by unfold s_X9_behind; rw [if_pos c_1, if_pos c_25, if_neg c_29, if_pos c_33, if_neg c_36], rfl⟩
          · refine r_iconst (v := 1) dX9_behind_129 (by decide) ?_
            refine r_goto 142 dX9_behind_130 (by decide) ?_
            refine r_ireti dX9_behind_142 rfl ?_
            exact ⟨by unfold s_X9_behind; rw [if_pos c_1, if_pos c_25, if_neg c_29, if_pos c_33, if_pos c_36], rfl⟩
        · refine r_iload_n dX9_behind_23 rfl 1 rfl ?_
          refine r_bipush (v := 91) dX9_behind_24 (by decide) ?_
          refine r_icmp_ne 33 dX9_behind_26 (by decide) (fun c_37 => ?_) (fun c_37 => ?_)
          · refine r_iconst (v := 0) dX9_behind_33 (by decide) ?_
            refine r_goto 110 dX9_behind_34 (by decide) ?_
            refine r_istore_n [(2, .int 0), (0, .int a0), (1, .int a1)] dX9_behind_110 rfl (by decide) rfl ?_
            refine r_iload_n dX9_behind_111 rfl 0 rfl ?_
            refine r_if_ne 119 dX9_behind_112 (by decide) (fun c_38 => absurd (by decide) c_38) (fun c_38 => ?_)
            refine r_iconst (v := (-1)) dX9_behind_115 (by decide) ?_
            refine r_goto 142 dX9_behind_116 (by decide) ?_
            refine r_ireti dX9_behind_142 rfl ?_
            exact ⟨by unfold s_X9_behind; rw [if_pos c_1, if_pos c_25, if_neg c_29, if_neg c_33, if_neg c_37], rfl⟩
          · refine r_iconst (v := 1) dX9_behind_29 (by decide) ?_
            refine r_goto 110 dX9_behind_30 (by decide) ?_
            refine r_istore_n [(2, .int 1), (0, .int a0), (1, .int a1)] dX9_behind_110 rfl (by decide) rfl ?_
            refine r_iload_n dX9_behind_111 rfl 0 rfl ?_
            refine r_if_ne 119 dX9_behind_112 (by decide) (fun c_39 => ?_) (fun c_39 => absurd c_39 (by decide))
            refine r_iload_n dX9_behind_119 rfl 1 rfl ?_
            refine r_if_ne 137 dX9_behind_120 (by decide) (fun c_40 => absurd c_1 c_40) (fun c_40 => ?_)
            refine r_iload_n dX9_behind_123 rfl 2 rfl ?_
            refine r_bipush (v := 91) dX9_behind_124 (by decide) ?_
            refine r_icmp_ne 133 dX9_behind_126 (by decide) (fun c_41 => absurd c_37 c_41) (fun c_41 => ?_)
            refine r_iconst (v := 1) dX9_behind_129 (by decide) ?_
            refine r_goto 142 dX9_behind_130 (by decide) ?_
            refine r_ireti dX9_behind_142 rfl ?_
            exact ⟨by unfold s_X9_behind; rw [if_pos c_1, if_pos c_25, if_neg c_29, if_neg c_33, if_pos c_37], rfl⟩
