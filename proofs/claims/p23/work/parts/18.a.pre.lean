theorem rgm {B : ST} {f n k : Nat} (h : k < n) : rg B f 0 n k = nI (B f k) := by
  dsimp only [rg]
  rw [if_pos h, Nat.zero_add]
theorem li_ne {c k : Nat} (hc : c < 65536) (hk : k < 65536) (h : c ≠ k) : ¬ nI c = nI k := fun q => h (ni_eq (by omega) (by omega) q)
theorem li_lt {c k : Nat} (hc : c < 65536) (hk : k < 65536) (h : c < k) : nI c < nI k := (nI_ltI (by omega) (by omega)).mpr h
theorem li_nlt {c k : Nat} (hc : c < 65536) (hk : k < 65536) (h : k ≤ c) : ¬ nI c < nI k := fun q => Nat.not_lt.mpr h ((nI_ltI (by omega) (by omega)).mp q)
theorem li_le {c k : Nat} (hc : c < 65536) (hk : k < 65536) (h : c ≤ k) : nI c ≤ nI k := (nI_leI (by omega) (by omega)).mpr h
theorem li_nle {c k : Nat} (hc : c < 65536) (hk : k < 65536) (h : k < c) : ¬ nI c ≤ nI k := fun q => Nat.not_le.mpr h ((nI_leI (by omega) (by omega)).mp q)
theorem nxt_3 {w c : Nat} (hw : w ≤ 4) (hc : c < 65536) : cnx w (nI c) = nxt w c := by
  have hs8 : s_X8_isSmall (nI c) = b2i (smn c) := sm_n hc
  have hcase : w = 0 ∨ w = 1 ∨ w = 2 ∨ w = 3 ∨ w = 4 := by omega
  rcases hcase with e | e | e | e | e <;> rw [e]
  · by_cases c1 : c = 91
    · rw [c1]; decide +kernel
    by_cases c2 : c = 32
    · rw [c2]; decide +kernel
    by_cases c3 : c = 46
    · rw [c3]; decide +kernel
    have d1 : ¬ nI c = 91 := li_ne hc (k := 91) (by decide) c1
    have d2 : ¬ nI c = 32 := li_ne hc (k := 32) (by decide) c2
    have d3 : ¬ nI c = 46 := li_ne hc (k := 46) (by decide) c3
    by_cases c4 : 97 ≤ c ∧ c ≤ 122
    · have e1 : smn c = true := decide_eq_true c4
      rw [e1] at hs8
      have n1 : nxt 0 c = 0 := by unfold nxt; rw [if_pos rfl, if_neg c1, if_pos (Or.inl c4)]
      rw [n1]
      unfold cnx s_X8_canStand
      rw [hs8, if_pos (show nI 0 = 0 by decide), if_neg (show ¬ b2i true = 0 by decide), if_neg (show ¬ (1 : Int32) = 0 by decide), decide_eq_false d1]; rfl
    · have e1 : smn c = false := decide_eq_false c4
      rw [e1] at hs8
      have n1 : nxt 0 c = 5 := by unfold nxt; rw [if_pos rfl, if_neg c1, if_neg (fun q => by rcases q with q | q | q; exact c4 q; exact c2 q; exact c3 q)]
      rw [n1]
      unfold cnx s_X8_canStand
      rw [hs8, if_pos (show nI 0 = 0 by decide), if_pos (show b2i false = 0 by decide), if_neg d2, if_neg d3, if_neg d1, if_pos rfl]
  · by_cases c1 : 48 ≤ c ∧ c ≤ 52
    · have h5 : c = 48 ∨ c = 49 ∨ c = 50 ∨ c = 51 ∨ c = 52 := by omega
      rcases h5 with q | q | q | q | q <;> rw [q] <;> decide +kernel
    · have n1 : nxt 1 c = 5 := by unfold nxt; rw [if_neg (by decide), if_pos rfl, if_neg c1]
      rw [n1]
      have hsl : s_X8_slotOf (nI c) = -1 := by
        unfold s_X8_slotOf
        by_cases q : c < 48
        · rw [if_pos (show nI c < 48 from li_lt hc (k := 48) (by decide) q)]
        · rw [if_neg (show ¬ nI c < 48 from li_nlt hc (k := 48) (by decide) (by omega)), if_pos (show (53 : Int32) ≤ nI c from li_le (c := 53) (by decide) hc (by omega))]
      unfold cnx s_X8_canStand
      rw [hsl]; rfl
  · by_cases c1 : c = 110 ∨ c = 103 ∨ c = 100 ∨ c = 97
    · rcases c1 with q | q | q | q <;> rw [q] <;> decide +kernel
    · have n1 : nxt 2 c = 5 := by unfold nxt; rw [if_neg (by decide), if_neg (by decide), if_pos rfl, if_neg c1]
      rw [n1]
      have d1 : ¬ nI c = 110 := li_ne hc (k := 110) (by decide) (by omega)
      have d2 : ¬ nI c = 103 := li_ne hc (k := 103) (by decide) (by omega)
      have d3 : ¬ nI c = 100 := li_ne hc (k := 100) (by decide) (by omega)
      have d4 : ¬ nI c = 97 := li_ne hc (k := 97) (by decide) (by omega)
      have hsl : s_X8_caseOf (nI c) = -1 := by unfold s_X8_caseOf; rw [if_neg d1, if_neg d2, if_neg d3, if_neg d4]
      unfold cnx s_X8_canStand
      rw [hsl]; rfl
  · by_cases c1 : c = 115 ∨ c = 112
    · rcases c1 with q | q <;> rw [q] <;> decide +kernel
    · have n1 : nxt 3 c = 5 := by unfold nxt; rw [if_neg (by decide), if_neg (by decide), if_neg (by decide), if_pos rfl, if_neg c1]
      rw [n1]
      have d1 : ¬ nI c = 115 := li_ne hc (k := 115) (by decide) (by omega)
      have d2 : ¬ nI c = 112 := li_ne hc (k := 112) (by decide) (by omega)
      have hsl : s_X8_numberOf (nI c) = -1 := by unfold s_X8_numberOf; rw [if_neg d1, if_neg d2]
      unfold cnx s_X8_canStand
      rw [hsl]; rfl
  · by_cases c1 : c = 93
    · rw [c1]; decide +kernel
    · have n1 : nxt 4 c = 5 := by unfold nxt; rw [if_neg (by decide), if_neg (by decide), if_neg (by decide), if_neg (by decide), if_pos rfl, if_neg c1]
      rw [n1]
      have d1 : ¬ nI c = 93 := li_ne hc (k := 93) (by decide) c1
      unfold cnx s_X8_canStand
      rw [if_neg (show ¬ nI 4 = 0 by decide), if_neg (show ¬ nI 4 = 1 by decide), if_neg (show ¬ nI 4 = 2 by decide), if_neg (show ¬ nI 4 = 3 by decide), if_neg d1, if_pos rfl]
theorem cw_pw {B : ST} (hC : ∀ k, B 1 k < 65536) : ∀ n, n ≤ 60 → cw (rg B 1 0 60) n = pw (B 1) n
  | 0, _ => rfl
  | n + 1, hn => by
    have ih := cw_pw hC n (by omega)
    have h5 : pw (B 1) n ≤ 5 := by rw [← ih]; exact cw_le _ _
    show (if cw (rg B 1 0 60) n = 5 then 5 else cnx (cw (rg B 1 0 60) n) (rg B 1 0 60 n)) = nxt (pw (B 1) n) (B 1 n)
    rw [ih, rgm (by omega)]
    by_cases e : pw (B 1) n = 5
    · rw [if_pos e, e]; rfl
    · rw [if_neg e, nxt_3 (by omega) (hC n)]
