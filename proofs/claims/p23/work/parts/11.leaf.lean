def s_X8_isBelow (a0 a1 : Int32) : Int32 := if a0 < 0 then 0 else if a1 ≤ a0 then 0 else 1
set_option maxRecDepth 100000 in
set_option maxHeartbeats 4000000 in
theorem c_X8_isBelow {d b0 : Nat} {G : GH} (a0 a1 : Int32) : CTd mX8_isBelow d b0 G [.int a0, .int a1] 0 0 (some (.int (s_X8_isBelow a0 a1))) G := by
  refine CT.intro (by decide +kernel) rfl (Nat.le_of_ble_eq_true rfl) ?_
  show WP mX8_isBelow _ _ _ _ _ 0 0 0 [(0, .int a0), (1, .int a1)] []
  refine r_iload_n dX8_isBelow_0 rfl 0 rfl ?_
  refine r_if_lt 13 dX8_isBelow_1 (by decide) (fun c_1 => ?_) (fun c_1 => ?_)
  · refine r_iconst (v := 0) dX8_isBelow_13 (by decide) ?_
    refine r_ret .boolean dX8_isBelow_14 rfl rfl ?_
    exact ⟨by unfold s_X8_isBelow; rw [if_pos c_1], rfl⟩
  · refine r_iload_n dX8_isBelow_4 rfl 0 rfl ?_
    refine r_iload_n dX8_isBelow_5 rfl 1 rfl ?_
    refine r_icmp_ge 13 dX8_isBelow_6 (by decide) (fun c_2 => ?_) (fun c_2 => ?_)
    · refine r_iconst (v := 0) dX8_isBelow_13 (by decide) ?_
      refine r_ret .boolean dX8_isBelow_14 rfl rfl ?_
      exact ⟨by unfold s_X8_isBelow; rw [if_neg c_1, if_pos c_2], rfl⟩
    · refine r_iconst (v := 1) dX8_isBelow_9 (by decide) ?_
      refine r_goto 14 dX8_isBelow_10 (by decide) ?_
      refine r_ret .boolean dX8_isBelow_14 rfl rfl ?_
      exact ⟨by unfold s_X8_isBelow; rw [if_neg c_1, if_neg c_2], rfl⟩
theorem nb_X8_isBelow {a0 a1 : Int32} : isZ (s_X8_isBelow a0 a1) := by
  unfold s_X8_isBelow
  repeat' (first | refine isZ_ite ?_ ?_ | exact isZ_0 | exact isZ_1)
def s_X8_isSmall (a0 : Int32) : Int32 := if a0 < 97 then 0 else if 122 < a0 then 0 else 1
set_option maxRecDepth 100000 in
set_option maxHeartbeats 4000000 in
theorem c_X8_isSmall {d b0 : Nat} {G : GH} (a0 : Int32) : CTd mX8_isSmall d b0 G [.int a0] 0 0 (some (.int (s_X8_isSmall a0))) G := by
  refine CT.intro (by decide +kernel) rfl (Nat.le_of_ble_eq_true rfl) ?_
  show WP mX8_isSmall _ _ _ _ _ 0 0 0 [(0, .int a0)] []
  refine r_iload_n dX8_isSmall_0 rfl 0 rfl ?_
  refine r_bipush (v := 97) dX8_isSmall_1 (by decide) ?_
  refine r_icmp_lt 16 dX8_isSmall_3 (by decide) (fun c_1 => ?_) (fun c_1 => ?_)
  · refine r_iconst (v := 0) dX8_isSmall_16 (by decide) ?_
    refine r_ret .boolean dX8_isSmall_17 rfl rfl ?_
    exact ⟨by unfold s_X8_isSmall; rw [if_pos c_1], rfl⟩
  · refine r_iload_n dX8_isSmall_6 rfl 0 rfl ?_
    refine r_bipush (v := 122) dX8_isSmall_7 (by decide) ?_
    refine r_icmp_gt 16 dX8_isSmall_9 (by decide) (fun c_2 => ?_) (fun c_2 => ?_)
    · refine r_iconst (v := 0) dX8_isSmall_16 (by decide) ?_
      refine r_ret .boolean dX8_isSmall_17 rfl rfl ?_
      exact ⟨by unfold s_X8_isSmall; rw [if_neg c_1, if_pos c_2], rfl⟩
    · refine r_iconst (v := 1) dX8_isSmall_12 (by decide) ?_
      refine r_goto 17 dX8_isSmall_13 (by decide) ?_
      refine r_ret .boolean dX8_isSmall_17 rfl rfl ?_
      exact ⟨by unfold s_X8_isSmall; rw [if_neg c_1, if_neg c_2], rfl⟩
theorem nb_X8_isSmall {a0 : Int32} : isZ (s_X8_isSmall a0) := by
  unfold s_X8_isSmall
  repeat' (first | refine isZ_ite ?_ ?_ | exact isZ_0 | exact isZ_1)
def s_X8_isLanguage (a0 : Int32) : Int32 := s_X8_isBelow a0 3
set_option maxRecDepth 100000 in
set_option maxHeartbeats 4000000 in
theorem c_X8_isLanguage {d b0 : Nat} {G : GH} (a0 : Int32) : CTd mX8_isLanguage (d + 1) b0 G [.int a0] 0 0 (some (.int (s_X8_isLanguage a0))) G := by
  refine CT.intro (by decide +kernel) rfl (Nat.le_of_ble_eq_true rfl) ?_
  show WP mX8_isLanguage _ _ _ _ _ 0 0 0 [(0, .int a0)] []
  refine r_iload_n dX8_isLanguage_0 rfl 0 rfl ?_
  refine r_iconst (v := 3) dX8_isLanguage_1 (by decide) ?_
  refine r_callS (st := []) [.int a0, .int 3] 0 0 dX8_isLanguage_2 kX8_isBelow nX8_isBelow lRX8_104 (c_X8_isBelow a0 3) rfl rfl (Nat.le_of_ble_eq_true rfl) (Nat.le_refl _) (Nat.le_refl _) (fun _ _ h => h.elim) ?_
  refine cx_det (st2 := [.int (s_X8_isBelow a0 3)]) rfl ?_
  refine r_ret .boolean dX8_isLanguage_5 rfl (nb_X8_isBelow) ?_
  exact ⟨by unfold s_X8_isLanguage; rfl, rfl⟩
theorem nb_X8_isLanguage {a0 : Int32} : isZ (s_X8_isLanguage a0) := by
  unfold s_X8_isLanguage
  repeat' (first | refine isZ_ite ?_ ?_ | exact nb_X8_isBelow | exact isZ_0 | exact isZ_1)
def s_X8_isVowel (a0 : Int32) : Int32 := if a0 = 97 then 1 else if a0 = 101 then 1 else if a0 = 105 then 1 else if a0 = 111 then 1 else if a0 = 117 then 1 else 0
set_option maxRecDepth 100000 in
set_option maxHeartbeats 4000000 in
theorem c_X8_isVowel {d b0 : Nat} {G : GH} (a0 : Int32) : CTd mX8_isVowel d b0 G [.int a0] 0 0 (some (.int (s_X8_isVowel a0))) G := by
  refine CT.intro (by decide +kernel) rfl (Nat.le_of_ble_eq_true rfl) ?_
  show WP mX8_isVowel _ _ _ _ _ 0 0 0 [(0, .int a0)] []
  refine r_iload_n dX8_isVowel_0 rfl 0 rfl ?_
  refine r_bipush (v := 97) dX8_isVowel_1 (by decide) ?_
  refine r_icmp_eq 30 dX8_isVowel_3 (by decide) (fun c_1 => ?_) (fun c_1 => ?_)
  · refine r_iconst (v := 1) dX8_isVowel_30 (by decide) ?_
    refine r_goto 35 dX8_isVowel_31 (by decide) ?_
    refine r_ret .boolean dX8_isVowel_35 rfl rfl ?_
    exact ⟨by unfold s_X8_isVowel; rw [if_pos c_1], rfl⟩
  · refine r_iload_n dX8_isVowel_6 rfl 0 rfl ?_
    refine r_bipush (v := 101) dX8_isVowel_7 (by decide) ?_
    refine r_icmp_eq 30 dX8_isVowel_9 (by decide) (fun c_2 => ?_) (fun c_2 => ?_)
    · refine r_iconst (v := 1) dX8_isVowel_30 (by decide) ?_
      refine r_goto 35 dX8_isVowel_31 (by decide) ?_
      refine r_ret .boolean dX8_isVowel_35 rfl rfl ?_
      exact ⟨by unfold s_X8_isVowel; rw [if_neg c_1, if_pos c_2], rfl⟩
    · refine r_iload_n dX8_isVowel_12 rfl 0 rfl ?_
      refine r_bipush (v := 105) dX8_isVowel_13 (by decide) ?_
      refine r_icmp_eq 30 dX8_isVowel_15 (by decide) (fun c_3 => ?_) (fun c_3 => ?_)
      · refine r_iconst (v := 1) dX8_isVowel_30 (by decide) ?_
        refine r_goto 35 dX8_isVowel_31 (by decide) ?_
        refine r_ret .boolean dX8_isVowel_35 rfl rfl ?_
        exact ⟨by unfold s_X8_isVowel; rw [if_neg c_1, if_neg c_2, if_pos c_3], rfl⟩
      · refine r_iload_n dX8_isVowel_18 rfl 0 rfl ?_
        refine r_bipush (v := 111) dX8_isVowel_19 (by decide) ?_
        refine r_icmp_eq 30 dX8_isVowel_21 (by decide) (fun c_4 => ?_) (fun c_4 => ?_)
        · refine r_iconst (v := 1) dX8_isVowel_30 (by decide) ?_
          refine r_goto 35 dX8_isVowel_31 (by decide) ?_
          refine r_ret .boolean dX8_isVowel_35 rfl rfl ?_
          exact ⟨by unfold s_X8_isVowel; rw [if_neg c_1, if_neg c_2, if_neg c_3, if_pos c_4], rfl⟩
        · refine r_iload_n dX8_isVowel_24 rfl 0 rfl ?_
          refine r_bipush (v := 117) dX8_isVowel_25 (by decide) ?_
          refine r_icmp_ne 34 dX8_isVowel_27 (by decide) (fun c_5 => ?_) (fun c_5 => ?_)
          · refine r_iconst (v := 0) dX8_isVowel_34 (by decide) ?_
            refine r_ret .boolean dX8_isVowel_35 rfl rfl ?_
            exact ⟨by unfold s_X8_isVowel; rw [if_neg c_1, if_neg c_2, if_neg c_3, if_neg c_4, if_neg c_5], rfl⟩
          · refine r_iconst (v := 1) dX8_isVowel_30 (by decide) ?_
            refine r_goto 35 dX8_isVowel_31 (by decide) ?_
            refine r_ret .boolean dX8_isVowel_35 rfl rfl ?_
            exact ⟨by unfold s_X8_isVowel; rw [if_neg c_1, if_neg c_2, if_neg c_3, if_neg c_4, if_pos c_5], rfl⟩
theorem nb_X8_isVowel {a0 : Int32} : isZ (s_X8_isVowel a0) := by
  unfold s_X8_isVowel
  repeat' (first | refine isZ_ite ?_ ?_ | exact isZ_0 | exact isZ_1)
def s_X8_caseOf (a0 : Int32) : Int32 := if a0 = 110 then 0 else if a0 = 103 then 1 else if a0 = 100 then 2 else if a0 = 97 then 3 else (-1)
set_option maxRecDepth 100000 in
set_option maxHeartbeats 4000000 in
theorem c_X8_caseOf {d b0 : Nat} {G : GH} (a0 : Int32) : CTd mX8_caseOf d b0 G [.int a0] 0 0 (some (.int (s_X8_caseOf a0))) G := by
  refine CT.intro (by decide +kernel) rfl (Nat.le_of_ble_eq_true rfl) ?_
  show WP mX8_caseOf _ _ _ _ _ 0 0 0 [(0, .int a0)] []
  refine r_iload_n dX8_caseOf_0 rfl 0 rfl ?_
  refine r_bipush (v := 110) dX8_caseOf_1 (by decide) ?_
  refine r_icmp_ne 10 dX8_caseOf_3 (by decide) (fun c_1 => ?_) (fun c_1 => ?_)
  · refine r_iload_n dX8_caseOf_10 rfl 0 rfl ?_
    refine r_bipush (v := 103) dX8_caseOf_11 (by decide) ?_
    refine r_icmp_ne 20 dX8_caseOf_13 (by decide) (fun c_2 => ?_) (fun c_2 => ?_)
    · refine r_iload_n dX8_caseOf_20 rfl 0 rfl ?_
      refine r_bipush (v := 100) dX8_caseOf_21 (by decide) ?_
      refine r_icmp_ne 30 dX8_caseOf_23 (by decide) (fun c_3 => ?_) (fun c_3 => ?_)
      · refine r_iload_n dX8_caseOf_30 rfl 0 rfl ?_
        refine r_bipush (v := 97) dX8_caseOf_31 (by decide) ?_
        refine r_icmp_ne 40 dX8_caseOf_33 (by decide) (fun c_4 => ?_) (fun c_4 => ?_)
        · refine r_iconst (v := (-1)) dX8_caseOf_40 (by decide) ?_
          refine r_ireti dX8_caseOf_41 rfl ?_
          exact ⟨by unfold s_X8_caseOf; rw [if_neg c_1, if_neg c_2, if_neg c_3, if_neg c_4], rfl⟩
        · refine r_iconst (v := 3) dX8_caseOf_36 (by decide) ?_
          refine r_goto 41 dX8_caseOf_37 (by decide) ?_
          refine r_ireti dX8_caseOf_41 rfl ?_
          exact ⟨by unfold s_X8_caseOf; rw [if_neg c_1, if_neg c_2, if_neg c_3, if_pos c_4], rfl⟩
      · refine r_iconst (v := 2) dX8_caseOf_26 (by decide) ?_
        refine r_goto 41 dX8_caseOf_27 (by decide) ?_
        refine r_ireti dX8_caseOf_41 rfl ?_
        exact ⟨by unfold s_X8_caseOf; rw [if_neg c_1, if_neg c_2, if_pos c_3], rfl⟩
    · refine r_iconst (v := 1) dX8_caseOf_16 (by decide) ?_
      refine r_goto 41 dX8_caseOf_17 (by decide) ?_
      refine r_ireti dX8_caseOf_41 rfl ?_
      exact ⟨by unfold s_X8_caseOf; rw [if_neg c_1, if_pos c_2], rfl⟩
  · refine r_iconst (v := 0) dX8_caseOf_6 (by decide) ?_
    refine r_goto 41 dX8_caseOf_7 (by decide) ?_
    refine r_ireti dX8_caseOf_41 rfl ?_
    exact ⟨by unfold s_X8_caseOf; rw [if_pos c_1], rfl⟩
def s_X8_numberOf (a0 : Int32) : Int32 := if a0 = 115 then 0 else if a0 = 112 then 1 else (-1)
set_option maxRecDepth 100000 in
set_option maxHeartbeats 4000000 in
theorem c_X8_numberOf {d b0 : Nat} {G : GH} (a0 : Int32) : CTd mX8_numberOf d b0 G [.int a0] 0 0 (some (.int (s_X8_numberOf a0))) G := by
  refine CT.intro (by decide +kernel) rfl (Nat.le_of_ble_eq_true rfl) ?_
  show WP mX8_numberOf _ _ _ _ _ 0 0 0 [(0, .int a0)] []
  refine r_iload_n dX8_numberOf_0 rfl 0 rfl ?_
  refine r_bipush (v := 115) dX8_numberOf_1 (by decide) ?_
  refine r_icmp_ne 10 dX8_numberOf_3 (by decide) (fun c_1 => ?_) (fun c_1 => ?_)
  · refine r_iload_n dX8_numberOf_10 rfl 0 rfl ?_
    refine r_bipush (v := 112) dX8_numberOf_11 (by decide) ?_
    refine r_icmp_ne 20 dX8_numberOf_13 (by decide) (fun c_2 => ?_) (fun c_2 => ?_)
    · refine r_iconst (v := (-1)) dX8_numberOf_20 (by decide) ?_
      refine r_ireti dX8_numberOf_21 rfl ?_
      exact ⟨by unfold s_X8_numberOf; rw [if_neg c_1, if_neg c_2], rfl⟩
    · refine r_iconst (v := 1) dX8_numberOf_16 (by decide) ?_
      refine r_goto 21 dX8_numberOf_17 (by decide) ?_
      refine r_ireti dX8_numberOf_21 rfl ?_
      exact ⟨by unfold s_X8_numberOf; rw [if_neg c_1, if_pos c_2], rfl⟩
  · refine r_iconst (v := 0) dX8_numberOf_6 (by decide) ?_
    refine r_goto 21 dX8_numberOf_7 (by decide) ?_
    refine r_ireti dX8_numberOf_21 rfl ?_
    exact ⟨by unfold s_X8_numberOf; rw [if_pos c_1], rfl⟩
def s_X8_slotOf (a0 : Int32) : Int32 := if a0 < 48 then (-1) else if 53 ≤ a0 then (-1) else a0 - 48
set_option maxRecDepth 100000 in
set_option maxHeartbeats 4000000 in
theorem c_X8_slotOf {d b0 : Nat} {G : GH} (a0 : Int32) : CTd mX8_slotOf d b0 G [.int a0] 0 0 (some (.int (s_X8_slotOf a0))) G := by
  refine CT.intro (by decide +kernel) rfl (Nat.le_of_ble_eq_true rfl) ?_
  show WP mX8_slotOf _ _ _ _ _ 0 0 0 [(0, .int a0)] []
  refine r_iload_n dX8_slotOf_0 rfl 0 rfl ?_
  refine r_bipush (v := 48) dX8_slotOf_1 (by decide) ?_
  refine r_icmp_lt 19 dX8_slotOf_3 (by decide) (fun c_1 => ?_) (fun c_1 => ?_)
  · refine r_iconst (v := (-1)) dX8_slotOf_19 (by decide) ?_
    refine r_ireti dX8_slotOf_20 rfl ?_
    exact ⟨by unfold s_X8_slotOf; rw [if_pos c_1], rfl⟩
  · refine r_iload_n dX8_slotOf_6 rfl 0 rfl ?_
    refine r_bipush (v := 53) dX8_slotOf_7 (by decide) ?_
    refine r_icmp_ge 19 dX8_slotOf_9 (by decide) (fun c_2 => ?_) (fun c_2 => ?_)
    · refine r_iconst (v := (-1)) dX8_slotOf_19 (by decide) ?_
      refine r_ireti dX8_slotOf_20 rfl ?_
      exact ⟨by unfold s_X8_slotOf; rw [if_neg c_1, if_pos c_2], rfl⟩
    · refine r_iload_n dX8_slotOf_12 rfl 0 rfl ?_
      refine r_bipush (v := 48) dX8_slotOf_13 (by decide) ?_
      refine r_isub dX8_slotOf_15 ?_
      refine r_goto 20 dX8_slotOf_16 (by decide) ?_
      refine r_ireti dX8_slotOf_20 rfl ?_
      exact ⟨by unfold s_X8_slotOf; rw [if_neg c_1, if_neg c_2], rfl⟩
def s_X8_isOpenBehind (a0 a1 : Int32) : Int32 := if a0 = 46 then 1 else if a1 = 0 then 0 else if (s_X8_isSmall a0) = 0 then 1 else 0
set_option maxRecDepth 100000 in
set_option maxHeartbeats 4000000 in
theorem c_X8_isOpenBehind {d b0 : Nat} {G : GH} (a0 a1 : Int32) : CTd mX8_isOpenBehind (d + 1) b0 G [.int a0, .int a1] 0 0 (some (.int (s_X8_isOpenBehind a0 a1))) G := by
  refine CT.intro (by decide +kernel) rfl (Nat.le_of_ble_eq_true rfl) ?_
  show WP mX8_isOpenBehind _ _ _ _ _ 0 0 0 [(0, .int a0), (1, .int a1)] []
  refine r_iload_n dX8_isOpenBehind_0 rfl 0 rfl ?_
  refine r_bipush (v := 46) dX8_isOpenBehind_1 (by decide) ?_
  refine r_icmp_eq 17 dX8_isOpenBehind_3 (by decide) (fun c_1 => ?_) (fun c_1 => ?_)
  · refine r_iconst (v := 1) dX8_isOpenBehind_17 (by decide) ?_
    refine r_goto 22 dX8_isOpenBehind_18 (by decide) ?_
    refine r_ret .boolean dX8_isOpenBehind_22 rfl rfl ?_
    exact ⟨by unfold s_X8_isOpenBehind; rw [if_pos c_1], rfl⟩
  · refine r_iload_n dX8_isOpenBehind_6 rfl 1 rfl ?_
    refine r_if_eq 21 dX8_isOpenBehind_7 (by decide) (fun c_2 => ?_) (fun c_2 => ?_)
    · refine r_iconst (v := 0) dX8_isOpenBehind_21 (by decide) ?_
      refine r_ret .boolean dX8_isOpenBehind_22 rfl rfl ?_
      exact ⟨by unfold s_X8_isOpenBehind; rw [if_neg c_1, if_pos c_2], rfl⟩
    · refine r_iload_n dX8_isOpenBehind_10 rfl 0 rfl ?_
      refine r_callS (st := []) [.int a0] 0 0 dX8_isOpenBehind_11 kX8_isSmall nX8_isSmall lRX8_282 (c_X8_isSmall a0) rfl rfl (Nat.le_of_ble_eq_true rfl) (Nat.le_refl _) (Nat.le_refl _) (fun _ _ h => h.elim) ?_
      refine cx_det (st2 := [.int (s_X8_isSmall a0)]) rfl ?_
      refine r_if_ne 21 dX8_isOpenBehind_14 (by decide) (fun c_3 => ?_) (fun c_3 => ?_)
      · refine r_iconst (v := 0) dX8_isOpenBehind_21 (by decide) ?_
        refine r_ret .boolean dX8_isOpenBehind_22 rfl rfl ?_
        exact ⟨by unfold s_X8_isOpenBehind; rw [if_neg c_1, if_neg c_2, if_neg c_3], rfl⟩
      · refine r_iconst (v := 1) dX8_isOpenBehind_17 (by decide) ?_
        refine r_goto 22 dX8_isOpenBehind_18 (by decide) ?_
        refine r_ret .boolean dX8_isOpenBehind_22 rfl rfl ?_
        exact ⟨by unfold s_X8_isOpenBehind; rw [if_neg c_1, if_neg c_2, if_pos c_3], rfl⟩
theorem nb_X8_isOpenBehind {a0 a1 : Int32} : isZ (s_X8_isOpenBehind a0 a1) := by
  unfold s_X8_isOpenBehind
  repeat' (first | refine isZ_ite ?_ ?_ | exact isZ_0 | exact isZ_1)
def s_X8_capital (a0 : Int32) : Int32 := if (s_X8_isSmall a0) = 0 then a0 else (((a0 - 97) + 65).toUInt32 % 65536).toInt32
set_option maxRecDepth 100000 in
set_option maxHeartbeats 4000000 in
theorem c_X8_capital {d b0 : Nat} {G : GH} (a0 : Int32) (ha0 : isC a0) : CTd mX8_capital (d + 1) b0 G [.int a0] 0 0 (some (.int (s_X8_capital a0))) G := by
  refine CT.intro (by decide +kernel) rfl (Nat.le_of_ble_eq_true rfl) ?_
  show WP mX8_capital _ _ _ _ _ 0 0 0 [(0, .int a0)] []
  refine r_iload_n dX8_capital_0 rfl 0 rfl ?_
  refine r_callS (st := []) [.int a0] 0 0 dX8_capital_1 kX8_isSmall nX8_isSmall lRX8_282 (c_X8_isSmall a0) rfl rfl (Nat.le_of_ble_eq_true rfl) (Nat.le_refl _) (Nat.le_refl _) (fun _ _ h => h.elim) ?_
  refine cx_det (st2 := [.int (s_X8_isSmall a0)]) rfl ?_
  refine r_if_eq 18 dX8_capital_4 (by decide) (fun c_1 => ?_) (fun c_1 => ?_)
  · refine r_iload_n dX8_capital_18 rfl 0 rfl ?_
    refine r_ret .char dX8_capital_19 rfl ha0 ?_
    exact ⟨by unfold s_X8_capital; rw [if_pos c_1], rfl⟩
  · refine r_iload_n dX8_capital_7 rfl 0 rfl ?_
    refine r_bipush (v := 97) dX8_capital_8 (by decide) ?_
    refine r_isub dX8_capital_10 ?_
    refine r_bipush (v := 65) dX8_capital_11 (by decide) ?_
    refine r_iadd dX8_capital_13 ?_
    refine r_i2c dX8_capital_14 rfl ?_
    refine r_goto 19 dX8_capital_15 (by decide) ?_
    refine r_ret .char dX8_capital_19 rfl (pk_nc _) ?_
    exact ⟨by unfold s_X8_capital; rw [if_neg c_1], rfl⟩
theorem nb_X8_capital {a0 : Int32} (ha0 : isC a0) : isC (s_X8_capital a0) := by
  unfold s_X8_capital
  repeat' (first | refine isC_ite ?_ ?_ | assumption | exact pk_nc _)
def s_X8_canStand (a0 a1 : Int32) : Int32 := if a1 = 0 then if (s_X8_isSmall a0) = 0 then if a0 = 32 then 1 else if a0 = 46 then 1 else if a0 = 91 then 1 else 0 else 1 else if a1 = 1 then if (s_X8_slotOf a0) = (-1) then 0 else 1 else if a1 = 2 then if (s_X8_caseOf a0) = (-1) then 0 else 1 else if a1 = 3 then if (s_X8_numberOf a0) = (-1) then 0 else 1 else if a0 = 93 then 1 else 0
set_option maxRecDepth 100000 in
set_option maxHeartbeats 4000000 in
theorem c_X8_canStand {d b0 : Nat} {G : GH} (a0 a1 : Int32) : CTd mX8_canStand (d + 1) b0 G [.int a0, .int a1] 0 0 (some (.int (s_X8_canStand a0 a1))) G := by
  refine CT.intro (by decide +kernel) rfl (Nat.le_of_ble_eq_true rfl) ?_
  show WP mX8_canStand _ _ _ _ _ 0 0 0 [(0, .int a0), (1, .int a1)] []
  refine r_iload_n dX8_canStand_0 rfl 1 rfl ?_
  by_cases c_1 : a1 = 0
  · refine r_tin 32 dX8_canStand_1 (by rw [c_1]; decide) (by rw [c_1]; decide) (by rw [c_1]; rfl) (by decide) ?_
    refine r_iload_n dX8_canStand_32 rfl 0 rfl ?_
    refine r_callS (st := []) [.int a0] 0 0 dX8_canStand_33 kX8_isSmall nX8_isSmall lRX8_282 (c_X8_isSmall a0) rfl rfl (Nat.le_of_ble_eq_true rfl) (Nat.le_refl _) (Nat.le_refl _) (fun _ _ h => h.elim) ?_
    refine cx_det (st2 := [.int (s_X8_isSmall a0)]) rfl ?_
    refine r_if_ne 57 dX8_canStand_36 (by decide) (fun c_2 => ?_) (fun c_2 => ?_)
    · refine r_iconst (v := 1) dX8_canStand_57 (by decide) ?_
      refine r_goto 62 dX8_canStand_58 (by decide) ?_
      refine r_ret .boolean dX8_canStand_62 rfl rfl ?_
      exact ⟨by unfold s_X8_canStand; rw [if_pos c_1, if_neg c_2], rfl⟩
    · refine r_iload_n dX8_canStand_39 rfl 0 rfl ?_
      refine r_bipush (v := 32) dX8_canStand_40 (by decide) ?_
      refine r_icmp_eq 57 dX8_canStand_42 (by decide) (fun c_3 => ?_) (fun c_3 => ?_)
      · refine r_iconst (v := 1) dX8_canStand_57 (by decide) ?_
        refine r_goto 62 dX8_canStand_58 (by decide) ?_
        refine r_ret .boolean dX8_canStand_62 rfl rfl ?_
        exact ⟨by unfold s_X8_canStand; rw [if_pos c_1, if_pos c_2, if_pos c_3], rfl⟩
      · refine r_iload_n dX8_canStand_45 rfl 0 rfl ?_
        refine r_bipush (v := 46) dX8_canStand_46 (by decide) ?_
        refine r_icmp_eq 57 dX8_canStand_48 (by decide) (fun c_4 => ?_) (fun c_4 => ?_)
        · refine r_iconst (v := 1) dX8_canStand_57 (by decide) ?_
          refine r_goto 62 dX8_canStand_58 (by decide) ?_
          refine r_ret .boolean dX8_canStand_62 rfl rfl ?_
          exact ⟨by unfold s_X8_canStand; rw [if_pos c_1, if_pos c_2, if_neg c_3, if_pos c_4], rfl⟩
        · refine r_iload_n dX8_canStand_51 rfl 0 rfl ?_
          refine r_bipush (v := 91) dX8_canStand_52 (by decide) ?_
          refine r_icmp_ne 61 dX8_canStand_54 (by decide) (fun c_5 => ?_) (fun c_5 => ?_)
          · refine r_iconst (v := 0) dX8_canStand_61 (by decide) ?_
            refine r_ret .boolean dX8_canStand_62 rfl rfl ?_
            exact ⟨by unfold s_X8_canStand; rw [if_pos c_1, if_pos c_2, if_neg c_3, if_neg c_4, if_neg c_5], rfl⟩
          · refine r_iconst (v := 1) dX8_canStand_57 (by decide) ?_
            refine r_goto 62 dX8_canStand_58 (by decide) ?_
            refine r_ret .boolean dX8_canStand_62 rfl rfl ?_
            exact ⟨by unfold s_X8_canStand; rw [if_pos c_1, if_pos c_2, if_neg c_3, if_neg c_4, if_pos c_5], rfl⟩
  by_cases c_6 : a1 = 1
  · refine r_tin 63 dX8_canStand_1 (by rw [c_6]; decide) (by rw [c_6]; decide) (by rw [c_6]; rfl) (by decide) ?_
    refine r_iload_n dX8_canStand_63 rfl 0 rfl ?_
    refine r_callS (st := []) [.int a0] 0 0 dX8_canStand_64 kX8_slotOf nX8_slotOf lRX8_290 (c_X8_slotOf a0) rfl rfl (Nat.le_of_ble_eq_true rfl) (Nat.le_refl _) (Nat.le_refl _) (fun _ _ h => h.elim) ?_
    refine cx_det (st2 := [.int (s_X8_slotOf a0)]) rfl ?_
    refine r_iconst (v := (-1)) dX8_canStand_67 (by decide) ?_
    refine r_icmp_eq 75 dX8_canStand_68 (by decide) (fun c_7 => ?_) (fun c_7 => ?_)
    · refine r_iconst (v := 0) dX8_canStand_75 (by decide) ?_
      refine r_ret .boolean dX8_canStand_76 rfl rfl ?_
      exact ⟨by unfold s_X8_canStand; rw [if_neg c_1, if_pos c_6, if_pos c_7], rfl⟩
    · refine r_iconst (v := 1) dX8_canStand_71 (by decide) ?_
      refine r_goto 76 dX8_canStand_72 (by decide) ?_
      refine r_ret .boolean dX8_canStand_76 rfl rfl ?_
      exact ⟨by unfold s_X8_canStand; rw [if_neg c_1, if_pos c_6, if_neg c_7], rfl⟩
  by_cases c_8 : a1 = 2
  · refine r_tin 77 dX8_canStand_1 (by rw [c_8]; decide) (by rw [c_8]; decide) (by rw [c_8]; rfl) (by decide) ?_
    refine r_iload_n dX8_canStand_77 rfl 0 rfl ?_
    refine r_callS (st := []) [.int a0] 0 0 dX8_canStand_78 kX8_caseOf nX8_caseOf lRX8_294 (c_X8_caseOf a0) rfl rfl (Nat.le_of_ble_eq_true rfl) (Nat.le_refl _) (Nat.le_refl _) (fun _ _ h => h.elim) ?_
    refine cx_det (st2 := [.int (s_X8_caseOf a0)]) rfl ?_
    refine r_iconst (v := (-1)) dX8_canStand_81 (by decide) ?_
    refine r_icmp_eq 89 dX8_canStand_82 (by decide) (fun c_9 => ?_) (fun c_9 => ?_)
    · refine r_iconst (v := 0) dX8_canStand_89 (by decide) ?_
      refine r_ret .boolean dX8_canStand_90 rfl rfl ?_
      exact ⟨by unfold s_X8_canStand; rw [if_neg c_1, if_neg c_6, if_pos c_8, if_pos c_9], rfl⟩
    · refine r_iconst (v := 1) dX8_canStand_85 (by decide) ?_
      refine r_goto 90 dX8_canStand_86 (by decide) ?_
      refine r_ret .boolean dX8_canStand_90 rfl rfl ?_
      exact ⟨by unfold s_X8_canStand; rw [if_neg c_1, if_neg c_6, if_pos c_8, if_neg c_9], rfl⟩
  by_cases c_10 : a1 = 3
  · refine r_tin 91 dX8_canStand_1 (by rw [c_10]; decide) (by rw [c_10]; decide) (by rw [c_10]; rfl) (by decide) ?_
    refine r_iload_n dX8_canStand_91 rfl 0 rfl ?_
    refine r_callS (st := []) [.int a0] 0 0 dX8_canStand_92 kX8_numberOf nX8_numberOf lRX8_297 (c_X8_numberOf a0) rfl rfl (Nat.le_of_ble_eq_true rfl) (Nat.le_refl _) (Nat.le_refl _) (fun _ _ h => h.elim) ?_
    refine cx_det (st2 := [.int (s_X8_numberOf a0)]) rfl ?_
    refine r_iconst (v := (-1)) dX8_canStand_95 (by decide) ?_
    refine r_icmp_eq 103 dX8_canStand_96 (by decide) (fun c_11 => ?_) (fun c_11 => ?_)
    · refine r_iconst (v := 0) dX8_canStand_103 (by decide) ?_
      refine r_ret .boolean dX8_canStand_104 rfl rfl ?_
      exact ⟨by unfold s_X8_canStand; rw [if_neg c_1, if_neg c_6, if_neg c_8, if_pos c_10, if_pos c_11], rfl⟩
    · refine r_iconst (v := 1) dX8_canStand_99 (by decide) ?_
      refine r_goto 104 dX8_canStand_100 (by decide) ?_
      refine r_ret .boolean dX8_canStand_104 rfl rfl ?_
      exact ⟨by unfold s_X8_canStand; rw [if_neg c_1, if_neg c_6, if_neg c_8, if_pos c_10, if_neg c_11], rfl⟩
  refine r_tout 105 dX8_canStand_1 (cx_sw 4 (by decide) (fun k hk => by
    match k, hk with
    | 0, _ => exact c_1
    | 1, _ => exact c_6
    | 2, _ => exact c_8
    | 3, _ => exact c_10
    | k + 4, hk => exact absurd hk (by omega))) (by decide) ?_
  refine r_iload_n dX8_canStand_105 rfl 0 rfl ?_
  refine r_bipush (v := 93) dX8_canStand_106 (by decide) ?_
  refine r_icmp_ne 115 dX8_canStand_108 (by decide) (fun c_12 => ?_) (fun c_12 => ?_)
  · refine r_iconst (v := 0) dX8_canStand_115 (by decide) ?_
    refine r_ret .boolean dX8_canStand_116 rfl rfl ?_
    exact ⟨by unfold s_X8_canStand; rw [if_neg c_1, if_neg c_6, if_neg c_8, if_neg c_10, if_neg c_12], rfl⟩
  · refine r_iconst (v := 1) dX8_canStand_111 (by decide) ?_
    refine r_goto 116 dX8_canStand_112 (by decide) ?_
    refine r_ret .boolean dX8_canStand_116 rfl rfl ?_
    exact ⟨by unfold s_X8_canStand; rw [if_neg c_1, if_neg c_6, if_neg c_8, if_neg c_10, if_pos c_12], rfl⟩
theorem nb_X8_canStand {a0 a1 : Int32} : isZ (s_X8_canStand a0 a1) := by
  unfold s_X8_canStand
  repeat' (first | refine isZ_ite ?_ ?_ | exact isZ_0 | exact isZ_1)
