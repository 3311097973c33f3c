theorem dJ_bitCount_0 : decode cJ_bitCount 0 = .ok (.iload_n 0, 1) := by decide +kernel
theorem dJ_bitCount_1 : decode cJ_bitCount 1 = .ok (.iload_n 0, 1) := by decide +kernel
theorem dJ_bitCount_2 : decode cJ_bitCount 2 = .ok (.iconst 1, 1) := by decide +kernel
theorem dJ_bitCount_3 : decode cJ_bitCount 3 = .ok (.iushr, 1) := by decide +kernel
theorem dJ_bitCount_4 : decode cJ_bitCount 4 = .ok (.ldc_w 265, 3) := by decide +kernel
theorem dJ_bitCount_7 : decode cJ_bitCount 7 = .ok (.iand, 1) := by decide +kernel
theorem dJ_bitCount_8 : decode cJ_bitCount 8 = .ok (.isub, 1) := by decide +kernel
theorem dJ_bitCount_9 : decode cJ_bitCount 9 = .ok (.istore_n 0, 1) := by decide +kernel
theorem dJ_bitCount_10 : decode cJ_bitCount 10 = .ok (.iload_n 0, 1) := by decide +kernel
theorem dJ_bitCount_11 : decode cJ_bitCount 11 = .ok (.ldc_w 266, 3) := by decide +kernel
theorem dJ_bitCount_14 : decode cJ_bitCount 14 = .ok (.iand, 1) := by decide +kernel
theorem dJ_bitCount_15 : decode cJ_bitCount 15 = .ok (.iload_n 0, 1) := by decide +kernel
theorem dJ_bitCount_16 : decode cJ_bitCount 16 = .ok (.iconst 2, 1) := by decide +kernel
theorem dJ_bitCount_17 : decode cJ_bitCount 17 = .ok (.iushr, 1) := by decide +kernel
theorem dJ_bitCount_18 : decode cJ_bitCount 18 = .ok (.ldc_w 266, 3) := by decide +kernel
theorem dJ_bitCount_21 : decode cJ_bitCount 21 = .ok (.iand, 1) := by decide +kernel
theorem dJ_bitCount_22 : decode cJ_bitCount 22 = .ok (.iadd, 1) := by decide +kernel
theorem dJ_bitCount_23 : decode cJ_bitCount 23 = .ok (.istore_n 0, 1) := by decide +kernel
theorem dJ_bitCount_24 : decode cJ_bitCount 24 = .ok (.iload_n 0, 1) := by decide +kernel
theorem dJ_bitCount_25 : decode cJ_bitCount 25 = .ok (.iload_n 0, 1) := by decide +kernel
theorem dJ_bitCount_26 : decode cJ_bitCount 26 = .ok (.iconst 4, 1) := by decide +kernel
theorem dJ_bitCount_27 : decode cJ_bitCount 27 = .ok (.iushr, 1) := by decide +kernel
theorem dJ_bitCount_28 : decode cJ_bitCount 28 = .ok (.iadd, 1) := by decide +kernel
theorem dJ_bitCount_29 : decode cJ_bitCount 29 = .ok (.ldc_w 267, 3) := by decide +kernel
theorem dJ_bitCount_32 : decode cJ_bitCount 32 = .ok (.iand, 1) := by decide +kernel
theorem dJ_bitCount_33 : decode cJ_bitCount 33 = .ok (.istore_n 0, 1) := by decide +kernel
theorem dJ_bitCount_34 : decode cJ_bitCount 34 = .ok (.iload_n 0, 1) := by decide +kernel
theorem dJ_bitCount_35 : decode cJ_bitCount 35 = .ok (.iload_n 0, 1) := by decide +kernel
theorem dJ_bitCount_36 : decode cJ_bitCount 36 = .ok (.bipush 8, 2) := by decide +kernel
theorem dJ_bitCount_38 : decode cJ_bitCount 38 = .ok (.iushr, 1) := by decide +kernel
theorem dJ_bitCount_39 : decode cJ_bitCount 39 = .ok (.iadd, 1) := by decide +kernel
theorem dJ_bitCount_40 : decode cJ_bitCount 40 = .ok (.istore_n 0, 1) := by decide +kernel
theorem dJ_bitCount_41 : decode cJ_bitCount 41 = .ok (.iload_n 0, 1) := by decide +kernel
theorem dJ_bitCount_42 : decode cJ_bitCount 42 = .ok (.iload_n 0, 1) := by decide +kernel
theorem dJ_bitCount_43 : decode cJ_bitCount 43 = .ok (.bipush 16, 2) := by decide +kernel
theorem dJ_bitCount_45 : decode cJ_bitCount 45 = .ok (.iushr, 1) := by decide +kernel
theorem dJ_bitCount_46 : decode cJ_bitCount 46 = .ok (.iadd, 1) := by decide +kernel
theorem dJ_bitCount_47 : decode cJ_bitCount 47 = .ok (.istore_n 0, 1) := by decide +kernel
theorem dJ_bitCount_48 : decode cJ_bitCount 48 = .ok (.iload_n 0, 1) := by decide +kernel
theorem dJ_bitCount_49 : decode cJ_bitCount 49 = .ok (.bipush 63, 2) := by decide +kernel
theorem dJ_bitCount_51 : decode cJ_bitCount 51 = .ok (.iand, 1) := by decide +kernel
theorem dJ_bitCount_52 : decode cJ_bitCount 52 = .ok (.ireturn, 1) := by decide +kernel
def bsh (x k : Int32) : Int32 := (x.toUInt32 >>> (k.toUInt32 &&& Int32.toUInt32 31)).toInt32
def bc1 (x : Int32) : Int32 := x - (bsh x 1 &&& 1431655765)
def bc2 (x : Int32) : Int32 := (x &&& 858993459) + (bsh x 2 &&& 858993459)
def bc3 (x : Int32) : Int32 := (x + bsh x 4) &&& 252645135
def bc4 (x : Int32) : Int32 := x + bsh x 8
def bc5 (x : Int32) : Int32 := x + bsh x 16
def s_J_bitCount (x : Int32) : Int32 := (bc5 (bc4 (bc3 (bc2 (bc1 x))))) &&& 63
set_option maxRecDepth 100000 in
set_option maxHeartbeats 4000000 in
theorem c_J_bitCount {d b0 : Nat} {G : GH} (x : Int32) : CTd mJ_bitCount d b0 G [.int x] 0 0 (some (.int (s_J_bitCount x))) G := by
  refine CT.intro (by decide +kernel) rfl (Nat.le_of_ble_eq_true rfl) ?_
  show WP mJ_bitCount _ _ _ _ _ 0 0 0 [(0, .int x)] []
  refine r_iload_n dJ_bitCount_0 rfl 0 rfl ?_
  refine r_iload_n dJ_bitCount_1 rfl 0 rfl ?_
  refine r_iconst (v := 1) dJ_bitCount_2 (by decide) ?_
  refine r_iushr dJ_bitCount_3 rfl ?_
  refine r_ldcw dJ_bitCount_4 con_265 ?_
  refine r_iand dJ_bitCount_7 ?_
  refine r_isub dJ_bitCount_8 ?_
  refine r_top (bc1 x) rfl ?_
  refine r_istore_n [(0, .int (bc1 x))] dJ_bitCount_9 rfl (by decide) rfl ?_
  refine r_iload_n dJ_bitCount_10 rfl 0 rfl ?_
  refine r_ldcw dJ_bitCount_11 con_266 ?_
  refine r_iand dJ_bitCount_14 ?_
  refine r_iload_n dJ_bitCount_15 rfl 0 rfl ?_
  refine r_iconst (v := 2) dJ_bitCount_16 (by decide) ?_
  refine r_iushr dJ_bitCount_17 rfl ?_
  refine r_ldcw dJ_bitCount_18 con_266 ?_
  refine r_iand dJ_bitCount_21 ?_
  refine r_iadd dJ_bitCount_22 ?_
  refine r_top (bc2 (bc1 x)) rfl ?_
  refine r_istore_n [(0, .int (bc2 (bc1 x)))] dJ_bitCount_23 rfl (by decide) rfl ?_
  refine r_iload_n dJ_bitCount_24 rfl 0 rfl ?_
  refine r_iload_n dJ_bitCount_25 rfl 0 rfl ?_
  refine r_iconst (v := 4) dJ_bitCount_26 (by decide) ?_
  refine r_iushr dJ_bitCount_27 rfl ?_
  refine r_iadd dJ_bitCount_28 ?_
  refine r_ldcw dJ_bitCount_29 con_267 ?_
  refine r_iand dJ_bitCount_32 ?_
  refine r_top (bc3 (bc2 (bc1 x))) rfl ?_
  refine r_istore_n [(0, .int (bc3 (bc2 (bc1 x))))] dJ_bitCount_33 rfl (by decide) rfl ?_
  refine r_iload_n dJ_bitCount_34 rfl 0 rfl ?_
  refine r_iload_n dJ_bitCount_35 rfl 0 rfl ?_
  refine r_bipush (v := 8) dJ_bitCount_36 (by decide) ?_
  refine r_iushr dJ_bitCount_38 rfl ?_
  refine r_iadd dJ_bitCount_39 ?_
  refine r_top (bc4 (bc3 (bc2 (bc1 x)))) rfl ?_
  refine r_istore_n [(0, .int (bc4 (bc3 (bc2 (bc1 x)))))] dJ_bitCount_40 rfl (by decide) rfl ?_
  refine r_iload_n dJ_bitCount_41 rfl 0 rfl ?_
  refine r_iload_n dJ_bitCount_42 rfl 0 rfl ?_
  refine r_bipush (v := 16) dJ_bitCount_43 (by decide) ?_
  refine r_iushr dJ_bitCount_45 rfl ?_
  refine r_iadd dJ_bitCount_46 ?_
  refine r_top (bc5 (bc4 (bc3 (bc2 (bc1 x))))) rfl ?_
  refine r_istore_n [(0, .int (bc5 (bc4 (bc3 (bc2 (bc1 x))))))] dJ_bitCount_47 rfl (by decide) rfl ?_
  refine r_iload_n dJ_bitCount_48 rfl 0 rfl ?_
  refine r_bipush (v := 63) dJ_bitCount_49 (by decide) ?_
  refine r_iand dJ_bitCount_51 ?_
  refine r_ireti dJ_bitCount_52 rfl ?_
  exact ⟨by unfold s_J_bitCount; rfl, rfl⟩
def bts (m : Nat) : Nat := m % 2 + m / 2 % 2 + m / 4 % 2 + m / 8 % 2 + m / 16 % 2 + m / 32 % 2 + m / 64 % 2 + m / 128 % 2 + m / 256 % 2 + m / 512 % 2 + m / 1024 % 2 + m / 2048 % 2
def btsOk (a : Nat) : Bool := (List.range 64).all (fun i => decide (s_J_bitCount (nI (64 * a + i)) = nI (bts (64 * a + i))))
theorem btsOk_all : (List.range 64).all btsOk = true := by decide +kernel
theorem bc_n {m : Nat} (h : m < 4096) : s_J_bitCount (nI m) = nI (bts m) := by
  have h1 := List.all_eq_true.mp btsOk_all (m / 64) (List.mem_range.mpr (by omega))
  have h2 := List.all_eq_true.mp h1 (m % 64) (List.mem_range.mpr (by omega))
  have h3 := of_decide_eq_true h2
  rw [show 64 * (m / 64) + m % 64 = m by omega] at h3
  exact h3
