/-! masks -/
def enc (f : Nat → Bool) : Nat → Nat
  | 0 => 0
  | n + 1 => if f n = true then enc f n ||| 2 ^ n else enc f n
theorem enc_bit (f : Nat → Bool) (j : Nat) : ∀ n, (enc f n).testBit j = (decide (j < n) && f j)
  | 0 => by
    show (0 : Nat).testBit j = _
    rw [Nat.zero_testBit, decide_eq_false (Nat.not_lt_zero j)]; rfl
  | n + 1 => by
    have h := enc_bit f j n
    show (if f n = true then enc f n ||| 2 ^ n else enc f n).testBit j = _
    by_cases e : j = n
    · rw [decide_eq_true (show j < n + 1 by omega), Bool.true_and]
      by_cases q : f n = true
      · rw [if_pos q, Nat.testBit_or, e, Nat.testBit_two_pow_self, Bool.or_true, q]
      · rw [if_neg q, h, decide_eq_false (show ¬ j < n by omega), Bool.false_and, e, Bool.eq_false_iff.mpr q]
    · by_cases q : f n = true
      · rw [if_pos q, Nat.testBit_or, h, Nat.testBit_two_pow_of_ne (Ne.symm e), Bool.or_false]
        by_cases r : j < n
        · rw [decide_eq_true r, decide_eq_true (show j < n + 1 by omega)]
        · rw [decide_eq_false r, decide_eq_false (show ¬ j < n + 1 by omega)]
      · rw [if_neg q, h]
        by_cases r : j < n
        · rw [decide_eq_true r, decide_eq_true (show j < n + 1 by omega)]
        · rw [decide_eq_false r, decide_eq_false (show ¬ j < n + 1 by omega)]
theorem enc_lt (f : Nat → Bool) : ∀ n, enc f n < 2 ^ n
  | 0 => Nat.one_pos
  | n + 1 => by
    have h := enc_lt f n
    have h2 : enc f n < 2 ^ (n + 1) := Nat.lt_trans h (Nat.pow_lt_pow_right (by decide) (Nat.lt_succ_self n))
    show (if f n = true then enc f n ||| 2 ^ n else enc f n) < 2 ^ (n + 1)
    split
    · exact Nat.or_lt_two_pow h2 (Nat.pow_lt_pow_right (by decide) (Nat.lt_succ_self n))
    · exact h2
theorem nI_getb (a j : Nat) : (nI a).toBitVec.getLsbD j = (decide (j < 32) && a.testBit j) := by
  show (BitVec.ofNat 32 a).getLsbD j = _
  rw [BitVec.getLsbD_ofNat]
theorem i32_ext {x y : Int32} (h : ∀ j, j < 32 → x.toBitVec.getLsbD j = y.toBitVec.getLsbD j) : x = y :=
  Int32.toBitVec_inj.mp (BitVec.eq_of_getLsbD_eq h)
theorem enc_or (f g : Nat → Bool) : nI (enc f 12) ||| nI (enc g 12) = nI (enc (fun j => f j || g j) 12) := by
  refine i32_ext (fun j hj => ?_)
  rw [Int32.toBitVec_or, BitVec.getLsbD_or, nI_getb, nI_getb, nI_getb, enc_bit, enc_bit, enc_bit, decide_eq_true hj]
  cases decide (j < 12) <;> simp
theorem enc_andn (f g : Nat → Bool) : nI (enc f 12) &&& (nI (enc g 12) ^^^ (-1)) = nI (enc (fun j => f j && !g j) 12) := by
  refine i32_ext (fun j hj => ?_)
  have e1 : (-1 : Int32).toBitVec.getLsbD j = true := by
    show (BitVec.allOnes 32).getLsbD j = true
    rw [BitVec.getLsbD_allOnes, decide_eq_true hj]
  rw [Int32.toBitVec_and, BitVec.getLsbD_and, Int32.toBitVec_xor, BitVec.getLsbD_xor, e1, nI_getb, nI_getb, nI_getb, enc_bit, enc_bit, enc_bit, decide_eq_true hj]
  cases decide (j < 12) <;> simp
theorem enc_shl {k : Nat} (h : k < 12) : (1 : Int32) <<< (nI k &&& 31) = nI (enc (fun j => decide (j = k)) 12) := by
  have h2 : k = 0 ∨ k = 1 ∨ k = 2 ∨ k = 3 ∨ k = 4 ∨ k = 5 ∨ k = 6 ∨ k = 7 ∨ k = 8 ∨ k = 9 ∨ k = 10 ∨ k = 11 := by omega
  rcases h2 with e | e | e | e | e | e | e | e | e | e | e | e <;> rw [e] <;> decide +kernel
theorem enc_0 : nI (enc (fun _ => false) 12) = 0 := by decide +kernel
/-- how many of the first n -/
theorem bts_enc (f : Nat → Bool) : bts (enc f 12) = cntB f 12 := by
  have h : ∀ j, j < 12 → enc f 12 / 2 ^ j % 2 = if f j then 1 else 0 := fun j hj => by
    have h1 := enc_bit f j 12
    rw [decide_eq_true hj, Bool.true_and, Nat.testBit_eq_decide_div_mod_eq] at h1
    cases hf : f j with
    | true => rw [hf] at h1; rw [of_decide_eq_true h1]; rfl
    | false =>
      rw [hf] at h1
      have h2 := of_decide_eq_false h1
      have h3 : enc f 12 / 2 ^ j % 2 < 2 := Nat.mod_lt _ (by decide)
      show _ = 0
      omega
  have h0 := h 0 (by decide)
  have h1 := h 1 (by decide)
  have h2 := h 2 (by decide)
  have h3 := h 3 (by decide)
  have h4 := h 4 (by decide)
  have h5 := h 5 (by decide)
  have h6 := h 6 (by decide)
  have h7 := h 7 (by decide)
  have h8 := h 8 (by decide)
  have h9 := h 9 (by decide)
  have h10 := h 10 (by decide)
  have h11 := h 11 (by decide)
  simp only [Nat.pow_zero, Nat.div_one, Nat.reducePow] at h0 h1 h2 h3 h4 h5 h6 h7 h8 h9 h10 h11
  unfold bts
  rw [h0, h1, h2, h3, h4, h5, h6, h7, h8, h9, h10, h11]
  show _ = cntB f 0 + (if f 0 = true then 1 else 0) + (if f 1 = true then 1 else 0) + (if f 2 = true then 1 else 0) + (if f 3 = true then 1 else 0) + (if f 4 = true then 1 else 0) + (if f 5 = true then 1 else 0) + (if f 6 = true then 1 else 0) + (if f 7 = true then 1 else 0) + (if f 8 = true then 1 else 0) + (if f 9 = true then 1 else 0) + (if f 10 = true then 1 else 0) + (if f 11 = true then 1 else 0)
  have hz : cntB f 0 = 0 := rfl
  rw [hz, Nat.zero_add]
