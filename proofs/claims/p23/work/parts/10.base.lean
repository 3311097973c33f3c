/-! small words for the walks -/
theorem up_s {G : GH} {a : Nat} {e : Option LC} : va_up G a e a = e := by unfold va_up; rw [if_pos rfl]
theorem up_n {G : GH} {a q : Nat} {e x : Option LC} (ne : q ≠ a) (h : G q = x) : va_up G a e q = x := by unfold va_up; rw [if_neg ne]; exact h
theorem cx_ne {G : GH} {q a : Nat} {x y : LC} (h1 : G q = some x) (h2 : G a = some y) (hxy : x ≠ y) : q ≠ a := fun h => hxy (by rw [h, h2] at h1; exact (Option.some.inj h1).symm)
theorem cx_nf {G : GH} {q a : Nat} {x : LC} (h1 : G q = some x) (h2 : G a = none) : q ≠ a := fun h => by rw [h, h2] at h1; cases h1
theorem cx_det {M : MD} {d b0 : Nat} {Po : Option Value → GH → Prop} {Px : String → GH → Prop} {G1 : GH} {bc bs pc : Nat} {lv : List (Nat × Value)} {st st2 : List Value} {v : Option Value} (hst : v.toList ++ st = st2) (k : WP M d b0 Po Px G1 bc bs pc lv st2) : ∀ (r : Option Value) (G' : GH), (r = v ∧ G' = G1) → WP M d b0 Po Px G' bc bs pc lv (r.toList ++ st) := by
  intro r G' h
  obtain ⟨rfl, rfl⟩ := h
  rw [hst]
  exact k
abbrev CTd (N : MD) (d b0 : Nat) (G : GH) (av : List Value) (mc ms : Nat) (v : Option Value) (G1 : GH) : Prop := CT N d b0 G av mc ms (fun r G' => r = v ∧ G' = G1) (fun _ _ => False)
section CXT
variable {M : MD} {d b0 : Nat} {Po : Option Value → GH → Prop} {Px : String → GH → Prop} {G : GH} {bc bs pc : Nat} {lv : List (Nat × Value)} {st : List Value}
theorem r_top {x : Int32} (y : Int32) (h : x = y) (k : WP M d b0 Po Px G bc bs pc lv (.int y :: st)) : WP M d b0 Po Px G bc bs pc lv (.int x :: st) := by rw [h]; exact k
theorem r_topq {r : Option Nat} (v : Value) (h : va_rf r = v) (k : WP M d b0 Po Px G bc bs pc lv (v :: st)) : WP M d b0 Po Px G bc bs pc lv (va_rf r :: st) := by rw [h]; exact k
theorem r_heap {G' : GH} (h : G = G') (k : WP M d b0 Po Px G' bc bs pc lv st) : WP M d b0 Po Px G bc bs pc lv st := by rw [h]; exact k
end CXT
theorem cx_sw {x : Int32} (n : Nat) (hn : n < 2 ^ 31) (h : ∀ k, k < n → ¬ x = nI k) : x.toInt < 0 ∨ (n : Int) - 1 < x.toInt := by
  rcases Int.lt_or_le x.toInt 0 with q | q
  · exact Or.inl q
  · right
    rcases Int.lt_or_le ((n : Int) - 1) x.toInt with q2 | q2
    · exact q2
    · exact absurd (Int32.toInt_inj.mp (by rw [nI_toInt (by omega)]; omega)) (h x.toInt.toNat (by omega))
abbrev isC (x : Int32) : Prop := narrow .char (.int x) = .int x
abbrev isZ (x : Int32) : Prop := narrow .boolean (.int x) = .int x
theorem isC_nI {n : Nat} (h : n < 65536) : isC (nI n) := (pk_charN h).1
theorem isZ_0 : isZ 0 := rfl
theorem isZ_1 : isZ 1 := rfl
theorem fitC {x : Int32} (h : isC x) : fits .char (.int x) = true := by
  have h1 : vp_nar .char x = x := by unfold vp_nar; rw [h]
  rw [vp_nar_char, ← lg_i2c_nf] at h1
  rw [← h1]
  exact pk_fc x
theorem isZ_ite {c : Prop} [Decidable c] {a b : Int32} (ha : isZ a) (hb : isZ b) : isZ (if c then a else b) := by split <;> assumption
theorem isC_ite {c : Prop} [Decidable c] {a b : Int32} (ha : isC a) (hb : isC b) : isC (if c then a else b) := by split <;> assumption
