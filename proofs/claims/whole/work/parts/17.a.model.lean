theorem in_s {x : Int32} {n : Nat} (hn : n < 2 ^ 30) : s_X9_isIn x 0 (nI n - 1) = b2i (inB x n) := by
  rw [← inB_s]
  unfold s_X9_isIn s_X8_isBelow
  have e1 : (nI n - 1).toInt = (n : Int) - 1 := pk_sub_toInt (b := 1) hn (by decide)
  have e2 : (nI n).toInt = (n : Int) := by
    have h := pk_sub_toInt (a := n) (b := 0) hn (by decide)
    have h0 : nI n - nI 0 = nI n := pk_sub (Nat.zero_le n)
    rw [h0] at h
    omega
  have hiff : nI n - 1 < x ↔ nI n ≤ x := by
    rw [Int32.lt_iff_toInt_lt, Int32.le_iff_toInt_le, e1, e2]
    omega
  by_cases h0 : x < 0
  · rw [if_pos h0, if_pos h0]
  · rw [if_neg h0, if_neg h0]
    by_cases h1 : nI n ≤ x
    · rw [if_pos h1, if_pos (hiff.mpr h1)]
    · rw [if_neg h1, if_neg (fun q => h1 (hiff.mp q))]
theorem c_in {d b0 : Nat} {G : GH} (x : Int32) {n : Nat} {y : Int32} (hn : n < 2 ^ 30) (hy : y = nI n - 1) : CTd mX9_isIn d b0 G [.int x, .int 0, .int y] 0 0 (some (.int (b2i (inB x n)))) G := by
  rw [← in_s hn, hy]
  exact c_X9_isIn x 0 _
theorem rgm {B : ST} {f n k : Nat} (h : k < n) : rg B f 0 n k = nI (B f k) := by
  dsimp only [rg]
  rw [if_pos h, Nat.zero_add]
/-- what a call of the reference answers and leaves: the value, which exception, the numbers -/
def MPo (v : Int32) (cd : Nat) (st A : ST) (ad : AD) : Option Value → GH → Prop := fun r G' => r = some (.int v) ∧ ∃ B' : ST, World A B' ad G' ∧ B' 26 0 = cd ∧ ∀ f, f < 22 ∨ f = 40 → B' f = st f
